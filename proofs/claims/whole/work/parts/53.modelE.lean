def b2n (b : Bool) : Nat := if b = true then 1 else 0
theorem b2n_le (b : Bool) : b2n b ≤ 1 := by unfold b2n; split <;> omega
theorem q_bool (b : Bool) : b = true ∨ b = false := by cases b <;> simp
theorem b2n_f1 {w : Nat → Nat} {f : Nat → Int32} {d : Nat} (h : b2n (asN w f d) = 0) : b2n (asN w f (d + 1)) = 0 := by
  rcases q_bool (asN w f d) with e | e
  · rw [e] at h; exact absurd h (by decide)
  · rw [asN, e]; rfl
theorem b2n_t {w : Nat → Nat} {f : Nat → Int32} {d : Nat} (h : 0 < b2n (asN w f d)) (h2 : nI (ctLeft w (w 2 + d)) = f d) : b2n (asN w f (d + 1)) = 1 := by
  rcases q_bool (asN w f d) with e | e
  · rw [asN_s e h2]; rfl
  · rw [e] at h; exact absurd h (by decide)
theorem b2n_f2 {w : Nat → Nat} {f : Nat → Int32} {d : Nat} (h2 : ¬ nI (ctLeft w (w 2 + d)) = f d) : b2n (asN w f (d + 1)) = 0 := by
  rcases q_bool (asN w f (d + 1)) with e | e
  · exact absurd e (asN_f (Nat.lt_succ_self d) h2)
  · rw [e]; rfl
theorem goM {ln sz : Nat → Nat} {itS : Nat → Nat → Int32} {fl fz fi : Nat → Int32} {w : Nat → Nat} {k i m : Nat} (h : rmI ln sz itS fl fz fi) (hk : k < 8) (hi : i + m ≤ 40) : asN w (fun d => fi (40 * k + i + d)) m = asN w (fun d => itS k (i + d)) m :=
  asN_c (fun d hd => by rw [Nat.add_assoc]; exact h.2 k (i + d) hk (by omega))
theorem mwIs_cpy {w : Nat → Nat} {f g : Nat → Int32} (h : mwIs w f) : mwIs w (va_cpy f g 0 0 29) := fun k hk => by
  rw [pk_cpy_in (by omega) (by omega), ← h k hk]; congr 1; omega
theorem nX7_goesSo_0 : ∀ w ∈ wsX70, w ∈ wsX7_goesSo := by decide +kernel
theorem mX7_goesSo_1 : Cond.fieldLink RX7 31 "ClueLeaveModel" "tried" "[I" ∈ wsX7_goesSo := by decide +kernel
theorem mX7_goesSo_2 : Cond.fieldLink RX7 16 "ClueLeaveModel" "items" "[I" ∈ wsX7_goesSo := by decide +kernel
set_option maxHeartbeats 4000000 in
set_option maxRecDepth 100000 in
theorem c_X7_goesSo (l : Launch) (D : va_G) (cy : Nat → ClassId) (m0 ml mm mit ms mt nw dr tr pa ig kx be tc : Nat) (st fk fp av sv ov vv : Int32) (tn ac td : Nat) (gt : Nat → Int32) (w : Nat → Nat) (hmt : mwIs w gt) (hv : ctOk w) (fi : Nat → Int32) (b n : Nat) (hbn : b + n ≤ 320) (hn : n ≤ 16) : q_Rd l yX7_goesSo wsX7_goesSo 5 D cy [(m0, .inr (7, [.ref ml, .ref mm, .ref mit, .ref ms, .int (st), .ref mt, .int (nI tn), .int (fk), .int (fp), .int (av), .int (sv), .int (ov), .int (vv), .ref nw, .ref dr, .ref tr, .ref pa, .int (nI ac), .ref ig, .ref kx, .ref be, .ref tc, .int (nI td)])), (tr, .inl (cy 0, 29, .inl gt)), (mit, .inl (cy 0, 320, .inl fi))] [.ref m0, .int (nI b), .int (nI n)] (fun r => r = nI 1 ∧ asN w (fun d => fi (b + d)) n = true ∨ r = nI 0 ∧ ¬ asN w (fun d => fi (b + d)) n = true) := by
  refine q_rd_of (cc := cX7_goesSo) (maxL := 5) (ret := (some .boolean)) (by decide) rfl (Nat.le_of_ble_eq_true rfl) ?_
  intro pg en s mi args below meth cd hC hP hK ls hl
  obtain ⟨hx, hb, hr, hml, hown, hts, hlocks⟩ := hC
  have hl : lv_has ls 5 [(0, .ref m0), (1, .int (nI b)), (2, .int (nI n))] := hl
  obtain ⟨hv0, hv1, hv2, hv3, hv4, hvc⟩ := id hv
  refine lv_iconst (v := nI 1) hx hb dX7_goesSo_0 (by decide) ?_
  refine lv_istore_n (lv' := [(3, .int (nI 1)), (0, .ref m0), (1, .int (nI b)), (2, .int (nI n))]) hx hb dX7_goesSo_1 rfl hl (by decide) rfl (fun ls hl => ?_)
  refine lv_iconst (v := nI 0) hx hb dX7_goesSo_2 (by decide) ?_
  refine lv_istore (lv' := [(4, .int (nI 0)), (3, .int (nI 1)), (0, .ref m0), (1, .int (nI b)), (2, .int (nI n))]) hx hb dX7_goesSo_3 hl (by decide) rfl (fun ls hl => ?_)
  have L5_7 : ∀ (fu d : Nat), d ≤ n → n < d + fu → ∀ ls : Array Slot, lv_has ls 5 [(0, .ref m0), (1, .int (nI b)), (2, .int (nI n)), (3, .int (nI (b2n (asN w (fun d => fi (b + d)) d)))), (4, .int (nI d))] → W pg l en (q_rm 5) s mi args below meth cd s.heap [] 0 0 (MQ below (vp_Si (fun r => r = nI 1 ∧ asN w (fun d => fi (b + d)) n = true ∨ r = nI 0 ∧ ¬ asN w (fun d => fi (b + d)) n = true)) args s 0 0 (fun _ => False)) (F0 mi 5 ls []) := by
    intro fu
    induction fu with
    | zero =>
      intro d h1 h2
      exact absurd h2 (by omega)
    | succ fu ih5 =>
      intro d h1_5 h2_5 ls hl
      have hb2 := b2n_le (asN w (fun d => fi (b + d)) d)
      refine lv_iload hx hb dX7_goesSo_5 (lv_at hl 4 rfl) ?_
      refine lv_iload_n hx hb dX7_goesSo_7 rfl (lv_at hl 2 rfl) ?_
      refine q_icmp_ge (tgt := 55) hx hb dX7_goesSo_8 (by decide) (by omega) (by omega) (fun c1 => ?_) (fun c1 => ?_)
      · have hdn : d = n := by omega
        refine lv_iload_n hx hb dX7_goesSo_55 rfl (lv_at hl 3 rfl) ?_
        rcases q_bool (asN w (fun d => fi (b + d)) d) with h9 | h9
        · refine q_top (y := nI 1) (by rw [h9]; rfl) ?_
          exact q_zret (v := nI 1) hx hb hr hlocks dX7_goesSo_56 (by decide) (Or.inl ⟨rfl, by rw [← hdn]; exact h9⟩)
        · refine q_top (y := nI 0) (by rw [h9]; rfl) ?_
          exact q_zret (v := nI 0) hx hb hr hlocks dX7_goesSo_56 (by decide) (Or.inr ⟨rfl, by rw [← hdn, h9]; exact Bool.noConfusion⟩)
      · refine lv_iload_n hx hb dX7_goesSo_11 rfl (lv_at hl 3 rfl) ?_
        refine q_if_eq (tgt := 47) hx hb dX7_goesSo_12 (by decide) (by omega) (fun c2 => ?_) (fun c2 => ?_)
        · refine lv_iconst (v := nI 0) hx hb dX7_goesSo_47 (by decide) ?_
          refine lv_istore_n (lv' := [(3, .int (nI 0)), (0, .ref m0), (1, .int (nI b)), (2, .int (nI n)), (4, .int (nI d))]) hx hb dX7_goesSo_48 rfl hl (by decide) rfl (fun ls hl => ?_)
          refine lv_iinc (v := nI (d + 1)) (lv' := [(4, .int (nI (d + 1))), (3, .int (nI 0)), (0, .ref m0), (1, .int (nI b)), (2, .int (nI n))]) hx hb dX7_goesSo_49 hl (k := 4) rfl (q_inc d 1) (by decide) rfl (fun ls hl => ?_)
          refine lv_goto (tgt := 5) hx hb dX7_goesSo_52 (by decide) ?_
          exact ih5 (d + 1) (by omega) (by omega) ls (q_lset (lv_sub (l' := [(0, .ref m0), (1, .int (nI b)), (2, .int (nI n)), (3, .int (nI 0)), (4, .int (nI (d + 1)))]) hl [2, 3, 4, 1, 0] rfl) (q_c1 (f := fun z3 => ([(0, .ref m0), (1, .int (nI b)), (2, .int (nI n)), (3, .int (z3)), (4, .int (nI (d + 1)))] : List (Nat × Value))) (show (nI 0 : Int32) = nI (b2n (asN w (fun d => fi (b + d)) (d + 1))) from (congrArg nI (b2n_f1 c2)).symm)))
        · refine lv_aload_n hx hb dX7_goesSo_15 rfl (lv_at hl 0 rfl) ?_
          refine va_get (D := D) (ci := 7) (v := .ref tr) (C := RX7) (T := TX7) (N := 23) hx hb hts nX7_goesSo_0 hown hK.1 hP 0 rfl rfl 15 (by decide) (hts _ mX7_goesSo_1) (fun _ h9 => h9) rfl dX7_goesSo_16 ?_
          refine lv_aload_n hx hb dX7_goesSo_19 rfl (lv_at hl 0 rfl) ?_
          refine va_get (D := D) (ci := 7) (v := .ref tr) (C := RX7) (T := TX7) (N := 23) hx hb hts nX7_goesSo_0 hown hK.1 hP 0 rfl rfl 15 (by decide) (hts _ mX7_goesSo_1) (fun _ h9 => h9) rfl dX7_goesSo_20 ?_
          refine lv_iconst (v := nI 2) hx hb dX7_goesSo_23 (by decide) ?_
          refine q_iald (j := 2) (v := nI (w 2)) hx hb hK hP 1 rfl (by omega) (by decide) (hmt _ (by omega)) dX7_goesSo_24 ?_
          refine lv_iload hx hb dX7_goesSo_25 (lv_at hl 4 rfl) ?_
          refine lv_iadd hx hb dX7_goesSo_27 ?_
          refine q_top (y := nI ((w 2) + d)) (nI_add _ _) ?_
          refine q_rS (As := [.ref tr, .int (nI ((w 2) + d))]) (rest := []) ⟨hx, hb, hml, hown, hts⟩ (c_X7_leftOn l D cy tr gt w hmt hv ((w 2) + d) (by omega)) (va_cwS 2 hts gX7_goesSo_X7_leftOn rfl rfl rfl (by decide +kernel) ⟨Nat.le_of_ble_eq_true rfl, Nat.le_of_ble_eq_true rfl⟩) hP hK [1] rfl rfl hl.1 rfl (Nat.le_of_ble_eq_true rfl) dX7_goesSo_28 ⟨Nat.zero_le _, Nat.zero_le _⟩ (fun r3 hr3 => ?_)
          obtain rfl := hr3
          have hll := ctLeft_lt hv0 (w 2 + d)
          refine lv_aload_n hx hb dX7_goesSo_31 rfl (lv_at hl 0 rfl) ?_
          refine va_get (D := D) (ci := 7) (v := .ref mit) (C := RX7) (T := TX7) (N := 23) hx hb hts nX7_goesSo_0 hown hK.1 hP 0 rfl rfl 2 (by decide) (hts _ mX7_goesSo_2) (fun _ h9 => h9) rfl dX7_goesSo_32 ?_
          refine lv_iload_n hx hb dX7_goesSo_35 rfl (lv_at hl 1 rfl) ?_
          refine lv_iload hx hb dX7_goesSo_36 (lv_at hl 4 rfl) ?_
          refine lv_iadd hx hb dX7_goesSo_38 ?_
          refine q_top (y := nI (b + d)) (nI_add _ _) ?_
          refine q_iald (j := (b + d)) (v := fi (b + d)) hx hb hK hP 2 rfl (by omega) (by decide) (rfl) dX7_goesSo_39 ?_
          refine lv_icmp_ne (tgt := 47) hx hb dX7_goesSo_40 (by decide) (fun c4 => ?_) (fun c4 => ?_)
          · refine lv_iconst (v := nI 0) hx hb dX7_goesSo_47 (by decide) ?_
            refine lv_istore_n (lv' := [(3, .int (nI 0)), (0, .ref m0), (1, .int (nI b)), (2, .int (nI n)), (4, .int (nI d))]) hx hb dX7_goesSo_48 rfl hl (by decide) rfl (fun ls hl => ?_)
            refine lv_iinc (v := nI (d + 1)) (lv' := [(4, .int (nI (d + 1))), (3, .int (nI 0)), (0, .ref m0), (1, .int (nI b)), (2, .int (nI n))]) hx hb dX7_goesSo_49 hl (k := 4) rfl (q_inc d 1) (by decide) rfl (fun ls hl => ?_)
            refine lv_goto (tgt := 5) hx hb dX7_goesSo_52 (by decide) ?_
            exact ih5 (d + 1) (by omega) (by omega) ls (q_lset (lv_sub (l' := [(0, .ref m0), (1, .int (nI b)), (2, .int (nI n)), (3, .int (nI 0)), (4, .int (nI (d + 1)))]) hl [2, 3, 4, 1, 0] rfl) (q_c1 (f := fun z3 => ([(0, .ref m0), (1, .int (nI b)), (2, .int (nI n)), (3, .int (z3)), (4, .int (nI (d + 1)))] : List (Nat × Value))) (show (nI 0 : Int32) = nI (b2n (asN w (fun d => fi (b + d)) (d + 1))) from (congrArg nI (b2n_f2 c4)).symm)))
          · refine lv_iconst (v := nI 1) hx hb dX7_goesSo_43 (by decide) ?_
            refine lv_goto (tgt := 48) hx hb dX7_goesSo_44 (by decide) ?_
            refine lv_istore_n (lv' := [(3, .int (nI 1)), (0, .ref m0), (1, .int (nI b)), (2, .int (nI n)), (4, .int (nI d))]) hx hb dX7_goesSo_48 rfl hl (by decide) rfl (fun ls hl => ?_)
            refine lv_iinc (v := nI (d + 1)) (lv' := [(4, .int (nI (d + 1))), (3, .int (nI 1)), (0, .ref m0), (1, .int (nI b)), (2, .int (nI n))]) hx hb dX7_goesSo_49 hl (k := 4) rfl (q_inc d 1) (by decide) rfl (fun ls hl => ?_)
            refine lv_goto (tgt := 5) hx hb dX7_goesSo_52 (by decide) ?_
            exact ih5 (d + 1) (by omega) (by omega) ls (q_lset (lv_sub (l' := [(0, .ref m0), (1, .int (nI b)), (2, .int (nI n)), (3, .int (nI 1)), (4, .int (nI (d + 1)))]) hl [2, 3, 4, 1, 0] rfl) (q_c1 (f := fun z3 => ([(0, .ref m0), (1, .int (nI b)), (2, .int (nI n)), (3, .int (z3)), (4, .int (nI (d + 1)))] : List (Nat × Value))) (show (nI 1 : Int32) = nI (b2n (asN w (fun d => fi (b + d)) (d + 1))) from (congrArg nI (b2n_t (by omega) c4)).symm)))
  exact L5_7 (n + 1) 0 (by omega) (by omega) ls (q_lset (lv_sub (l' := [(0, .ref m0), (1, .int (nI b)), (2, .int (nI n)), (3, .int (nI 1)), (4, .int (nI 0))]) hl [2, 3, 4, 1, 0] rfl) (q_c1 (f := fun z3 => ([(0, .ref m0), (1, .int (nI b)), (2, .int (nI n)), (3, .int (z3)), (4, .int (nI 0))] : List (Nat × Value))) (show (nI 1 : Int32) = nI (b2n (asN w (fun d => fi (b + d)) 0)) from rfl)))
theorem nX7_bribes_0 : ∀ w ∈ wsX70, w ∈ wsX7_bribes := by decide +kernel
theorem mX7_bribes_1 : Cond.fieldLink RX7 25 "ClueLeaveModel" "now" "[I" ∈ wsX7_bribes := by decide +kernel
theorem mX7_bribes_2 : Cond.fieldLink RX7 31 "ClueLeaveModel" "tried" "[I" ∈ wsX7_bribes := by decide +kernel
theorem mX7_bribes_3 : Cond.constant RX7 64 (-1000001) ∈ wsX7_bribes := by decide +kernel
theorem mX7_bribes_4 : Cond.constant RX7 163 (-1000002) ∈ wsX7_bribes := by decide +kernel
set_option maxHeartbeats 4000000 in
set_option maxRecDepth 100000 in
theorem c_X7_bribes (l : Launch) (D : va_G) (cy : Nat → ClassId) (m0 ml mm mit ms mt nw dr tr pa ig kx be tc : Nat) (st fk fp av sv ov vv : Int32) (tn ac td : Nat) (f : Nat → Int32) (w : Nat → Nat) (hm : mwIs w f) (hv : ctOk w) (gt : Nat → Int32) (fl fz fi : Nat → Int32) (ln sz : Nat → Nat) (itS : Nat → Nat → Int32) (hrm : rmI ln sz itS fl fz fi) (x i n : Int32) : q_Wi l yX7_bribes wsX7_bribes 6 D cy [(m0, .inr (7, [.ref ml, .ref mm, .ref mit, .ref ms, .int (st), .ref mt, .int (nI tn), .int (fk), .int (fp), .int (av), .int (sv), .int (ov), .int (vv), .ref nw, .ref dr, .ref tr, .ref pa, .int (nI ac), .ref ig, .ref kx, .ref be, .ref tc, .int (nI td)])), (nw, .inl (cy 0, 29, .inl f)), (tr, .inl (cy 0, 29, .inl gt)), (ml, .inl (cy 0, 8, .inl fl)), (mm, .inl (cy 0, 8, .inl fz)), (mit, .inl (cy 0, 320, .inl fi))] [.ref m0, .int (x), .int (i), .int (n)] (fun r u => ∃ (st2 : Int32) (gt2 : Nat → Int32), oBribes w ln sz itS st x i n = (r, st2) ∧ u = [(m0, .inr (7, [.ref ml, .ref mm, .ref mit, .ref ms, .int (st2), .ref mt, .int (nI tn), .int (fk), .int (fp), .int (av), .int (sv), .int (ov), .int (vv), .ref nw, .ref dr, .ref tr, .ref pa, .int (nI ac), .ref ig, .ref kx, .ref be, .ref tc, .int (nI td)])), (nw, .inl (cy 0, 29, .inl f)), (tr, .inl (cy 0, 29, .inl gt2)), (ml, .inl (cy 0, 8, .inl fl)), (mm, .inl (cy 0, 8, .inl fz)), (mit, .inl (cy 0, 320, .inl fi))]) := by
  refine q_wi_of (cc := cX7_bribes) (maxL := 6) (ret := (some .int)) (by decide) rfl (Nat.le_of_ble_eq_true rfl) ?_
  intro pg en s mi args below meth cd A hC hA hK H locs hP hD hS ls hl
  obtain ⟨hx, hb, hr, hml, hown, hts, hlocks⟩ := hC
  have hl : lv_has ls 6 [(0, .ref m0), (1, .int (x)), (2, .int (i)), (3, .int (n))] := hl
  obtain ⟨hv0, hv1, hv2, hv3, hv4, hvc⟩ := id hv
  refine lv_aload_n hx hb dX7_bribes_0 rfl (lv_at hl 0 rfl) ?_
  refine q_rV (As := []) (rest := []) ⟨hx, hb, hml, hown, hts⟩ (c_X7_isCity l D cy m0 ml mm mit ms mt nw dr tr pa ig kx be tc st fk fp av sv ov vv tn ac td f w hm hv) (cwV 0 hts gX7_bribes_X7_isCity rfl rfl rfl (by decide +kernel) ⟨Nat.le_of_ble_eq_true rfl, Nat.le_of_ble_eq_true rfl⟩) hP hK [0, 1] rfl 0 rfl rfl rfl rfl hl.1 rfl (Nat.le_of_ble_eq_true rfl) dX7_bribes_1 ⟨Nat.zero_le _, Nat.zero_le _⟩ (fun r1 hr1 => ?_)
  rcases hr1 with ⟨rfl, b2⟩ | ⟨rfl, b2⟩
  · have _ := b2
    refine lv_if_ne (tgt := 10) hx hb dX7_bribes_4 (by decide) (fun _ => ?_) (fun c9 => absurd c9 (by decide))
    refine lv_iload_n hx hb dX7_bribes_10 rfl (lv_at hl 1 rfl) ?_
    refine q_rS (As := [.int (x)]) (rest := []) ⟨hx, hb, hml, hown, hts⟩ (c_X7_isRow l D cy x) (va_cwS 1 hts gX7_bribes_X7_isRow rfl rfl rfl (by decide +kernel) ⟨Nat.le_of_ble_eq_true rfl, Nat.le_of_ble_eq_true rfl⟩) hP hK [] rfl rfl hl.1 rfl (Nat.le_of_ble_eq_true rfl) dX7_bribes_11 ⟨Nat.zero_le _, Nat.zero_le _⟩ (fun r3 hr3 => ?_)
    rcases hr3 with ⟨rfl, b4⟩ | ⟨rfl, b4⟩
    · have _ := b4
      refine lv_if_eq (tgt := 27) hx hb dX7_bribes_14 (by decide) (fun c9 => absurd c9 (by decide)) (fun _ => ?_)
      obtain ⟨k, -, hx_k, rfl⟩ := q_rng b4 (by decide) (by decide)
      refine lv_iload_n hx hb dX7_bribes_17 rfl (lv_at hl 3 rfl) ?_
      refine lv_iconst (v := nI 1) hx hb dX7_bribes_18 (by decide) ?_
      refine lv_bipush (v := nI 16) hx hb dX7_bribes_19 (by decide) ?_
      refine q_rS (As := [.int (n), .int (nI 1), .int (nI 16)]) (rest := []) ⟨hx, hb, hml, hown, hts⟩ (c_X7_in l D cy n (nI 1) (nI 16)) (va_cwS 3 hts gX7_bribes_X7_in rfl rfl rfl (by decide +kernel) ⟨Nat.le_of_ble_eq_true rfl, Nat.le_of_ble_eq_true rfl⟩) hP hK [] rfl rfl hl.1 rfl (Nat.le_of_ble_eq_true rfl) dX7_bribes_21 ⟨Nat.zero_le _, Nat.zero_le _⟩ (fun r5 hr5 => ?_)
      rcases hr5 with ⟨rfl, b6⟩ | ⟨rfl, b6⟩
      · have _ := b6
        refine lv_if_ne (tgt := 30) hx hb dX7_bribes_24 (by decide) (fun _ => ?_) (fun c9 => absurd c9 (by decide))
        obtain ⟨m, -, hx_m, rfl⟩ := q_rng b6 (by decide) (by decide)
        obtain ⟨-, -, hz40, hl3⟩ := hrm.1 k (by omega)
        refine lv_aload_n hx hb dX7_bribes_30 rfl (lv_at hl 0 rfl) ?_
        refine lv_iload_n hx hb dX7_bribes_31 rfl (lv_at hl 1 rfl) ?_
        refine q_rV (As := [.int (nI k)]) (rest := []) ⟨hx, hb, hml, hown, hts⟩ (c_X7_isMissing l D cy m0 ml mm mit ms mt nw dr tr pa ig kx be tc st fk fp av sv ov vv tn ac td fl k (ln k) (by omega) (rmI_3 hrm (by omega)) (rmI_0 hrm (by omega))) (cwV 1 hts gX7_bribes_X7_isMissing rfl rfl rfl (by decide +kernel) ⟨Nat.le_of_ble_eq_true rfl, Nat.le_of_ble_eq_true rfl⟩) hP hK [0, 3] rfl 0 rfl rfl rfl rfl hl.1 rfl (Nat.le_of_ble_eq_true rfl) dX7_bribes_32 ⟨Nat.zero_le _, Nat.zero_le _⟩ (fun r7 hr7 => ?_)
        rcases hr7 with ⟨rfl, b8⟩ | ⟨rfl, b8⟩
        · have _ := b8
          refine lv_if_eq (tgt := 44) hx hb dX7_bribes_35 (by decide) (fun c9 => absurd c9 (by decide)) (fun _ => ?_)
          refine lv_aload_n hx hb dX7_bribes_38 rfl (lv_at hl 0 rfl) ?_
          refine lv_iconst (v := nI 1) hx hb dX7_bribes_39 (by decide) ?_
          refine q_wiV (As := [.int (nI 1)]) (rest := []) (wr := [(nw, .inl (cy 0, 29, .inl f)), (tr, .inl (cy 0, 29, .inl gt)), (ml, .inl (cy 0, 8, .inl fl)), (mm, .inl (cy 0, 8, .inl fz)), (mit, .inl (cy 0, 320, .inl fi))]) ⟨hx, hb, hml, hown, hts⟩ (c_X7_found l D cy m0 ml mm mit ms mt nw dr tr pa ig kx be tc st fk fp av sv ov vv tn ac td (nI 1)) (cwV 1 hts gX7_bribes_X7_found rfl rfl rfl (by decide +kernel) ⟨Nat.le_of_ble_eq_true rfl, Nat.le_of_ble_eq_true rfl⟩) hP hD hS hA hK [0] [1, 2, 3, 4, 5] rfl rfl (by decide) rfl (by decide) (by decide) 0 rfl rfl rfl rfl hl.1 rfl (Nat.le_of_ble_eq_true rfl) dX7_bribes_40 ⟨Nat.zero_le _, Nat.zero_le _⟩ (fun r9 u10 H locs hr9 hP hD hS => ?_)
          obtain ⟨rfl, rfl⟩ := hr9
          have hP : va_P D vwCl [(nw, .inl (cy 0, 29, .inl f)), (tr, .inl (cy 0, 29, .inl gt)), (ml, .inl (cy 0, 8, .inl fl)), (mm, .inl (cy 0, 8, .inl fz)), (mit, .inl (cy 0, 320, .inl fi)), (m0, .inr (7, [.ref ml, .ref mm, .ref mit, .ref ms, .int (nI 1), .ref mt, .int (nI tn), .int (fk), .int (fp), .int (av), .int (sv), .int (ov), .int (vv), .ref nw, .ref dr, .ref tr, .ref pa, .int (nI ac), .ref ig, .ref kx, .ref be, .ref tc, .int (nI td)]))] H := hP
          have hD : va_D A [(nw, .inl (cy 0, 29, .inl f)), (tr, .inl (cy 0, 29, .inl gt)), (ml, .inl (cy 0, 8, .inl fl)), (mm, .inl (cy 0, 8, .inl fz)), (mit, .inl (cy 0, 320, .inl fi)), (m0, .inr (7, [.ref ml, .ref mm, .ref mit, .ref ms, .int (nI 1), .ref mt, .int (nI tn), .int (fk), .int (fp), .int (av), .int (sv), .int (ov), .int (vv), .ref nw, .ref dr, .ref tr, .ref pa, .int (nI ac), .ref ig, .ref kx, .ref be, .ref tc, .int (nI td)]))] := hD
          refine q_top (y := (-1000011)) (by decide) ?_
          have hP9 := hP.sub (ws' := [(m0, .inr (7, [.ref ml, .ref mm, .ref mit, .ref ms, .int (nI 1), .ref mt, .int (nI tn), .int (fk), .int (fp), .int (av), .int (sv), .int (ov), .int (vv), .ref nw, .ref dr, .ref tr, .ref pa, .int (nI ac), .ref ig, .ref kx, .ref be, .ref tc, .int (nI td)])), (nw, .inl (cy 0, 29, .inl f)), (tr, .inl (cy 0, 29, .inl gt)), (ml, .inl (cy 0, 8, .inl fl)), (mm, .inl (cy 0, 8, .inl fz)), (mit, .inl (cy 0, 320, .inl fi))]) [5, 0, 1, 2, 3, 4] rfl
          have hD9 := hD.sub (ws' := [(m0, .inr (7, [.ref ml, .ref mm, .ref mit, .ref ms, .int (nI 1), .ref mt, .int (nI tn), .int (fk), .int (fp), .int (av), .int (sv), .int (ov), .int (vv), .ref nw, .ref dr, .ref tr, .ref pa, .int (nI ac), .ref ig, .ref kx, .ref be, .ref tc, .int (nI td)])), (nw, .inl (cy 0, 29, .inl f)), (tr, .inl (cy 0, 29, .inl gt)), (ml, .inl (cy 0, 8, .inl fl)), (mm, .inl (cy 0, 8, .inl fz)), (mit, .inl (cy 0, 320, .inl fi))]) [5, 0, 1, 2, 3, 4] (by decide) rfl
          exact q_wiret (v := (-1000011)) hx hb hr hlocks dX7_bribes_43 hP9 hD9 hS (⟨_, _, by simp only [oBribes, q_cl (by omega : k < 2147483648), q_cl (by omega : m < 2147483648), if_pos b2, if_pos b4, if_pos b6, if_pos b8], rfl⟩)
        · have _ := b8
          refine lv_if_eq (tgt := 44) hx hb dX7_bribes_35 (by decide) (fun _ => ?_) (fun c9 => absurd (by decide) c9)
          refine lv_aload_n hx hb dX7_bribes_44 rfl (lv_at hl 0 rfl) ?_
          refine lv_iload_n hx hb dX7_bribes_45 rfl (lv_at hl 1 rfl) ?_
          refine lv_iload_n hx hb dX7_bribes_46 rfl (lv_at hl 2 rfl) ?_
          refine lv_iload_n hx hb dX7_bribes_47 rfl (lv_at hl 3 rfl) ?_
          refine q_rV (As := [.int (nI k), .int (i), .int (nI m)]) (rest := []) ⟨hx, hb, hml, hown, hts⟩ (c_X7_isPart l D cy m0 ml mm mit ms mt nw dr tr pa ig kx be tc st fk fp av sv ov vv tn ac td fz k (sz k) (by omega) (rmI_2 hrm (by omega)) (rmI_1 hrm (by omega)) i (nI m)) (cwV 3 hts gX7_bribes_X7_isPart rfl rfl rfl (by decide +kernel) ⟨Nat.le_of_ble_eq_true rfl, Nat.le_of_ble_eq_true rfl⟩) hP hK [0, 4] rfl 0 rfl rfl rfl rfl hl.1 rfl (Nat.le_of_ble_eq_true rfl) dX7_bribes_48 ⟨Nat.zero_le _, Nat.zero_le _⟩ (fun r11 hr11 => ?_)
          rcases hr11 with ⟨rfl, b12⟩ | ⟨rfl, b12⟩
          · have _ := b12
            refine lv_if_ne (tgt := 60) hx hb dX7_bribes_51 (by decide) (fun _ => ?_) (fun c9 => absurd c9 (by decide))
            obtain ⟨i1, rfl, him⟩ := rwB_2 b12 hz40 (by omega)
            refine lv_aload_n hx hb dX7_bribes_60 rfl (lv_at hl 0 rfl) ?_
            refine va_get (D := D) (ci := 7) (v := .ref nw) (C := RX7) (T := TX7) (N := 23) hx hb hts nX7_bribes_0 hown hK.1 hP 0 rfl rfl 13 (by decide) (hts _ mX7_bribes_1) (fun _ h9 => h9) rfl dX7_bribes_61 ?_
            refine lv_iconst (v := nI 0) hx hb dX7_bribes_64 (by decide) ?_
            refine lv_aload_n hx hb dX7_bribes_65 rfl (lv_at hl 0 rfl) ?_
            refine va_get (D := D) (ci := 7) (v := .ref tr) (C := RX7) (T := TX7) (N := 23) hx hb hts nX7_bribes_0 hown hK.1 hP 0 rfl rfl 15 (by decide) (hts _ mX7_bribes_2) (fun _ h9 => h9) rfl dX7_bribes_66 ?_
            refine lv_iconst (v := nI 0) hx hb dX7_bribes_69 (by decide) ?_
            refine q_wvS (As := [.ref nw, .int (nI 0), .ref tr, .int (nI 0)]) (rest := []) (wr := [(m0, .inr (7, [.ref ml, .ref mm, .ref mit, .ref ms, .int (st), .ref mt, .int (nI tn), .int (fk), .int (fp), .int (av), .int (sv), .int (ov), .int (vv), .ref nw, .ref dr, .ref tr, .ref pa, .int (nI ac), .ref ig, .ref kx, .ref be, .ref tc, .int (nI td)])), (ml, .inl (cy 0, 8, .inl fl)), (mm, .inl (cy 0, 8, .inl fz)), (mit, .inl (cy 0, 320, .inl fi))]) ⟨hx, hb, hml, hown, hts⟩ (c_X7_copies l D cy nw tr 29 29 (by decide) (by decide) f gt 0 0 (by omega) (by omega)) (va_cwS 4 hts gX7_bribes_X7_copies rfl rfl rfl (by decide +kernel) ⟨Nat.le_of_ble_eq_true rfl, Nat.le_of_ble_eq_true rfl⟩) hP hD hS hA hK [1, 2] [0, 3, 4, 5] rfl rfl (by decide) rfl (by decide) (by decide) rfl hl.1 rfl (Nat.le_of_ble_eq_true rfl) dX7_bribes_70 ⟨Nat.zero_le _, Nat.zero_le _⟩ (fun u14 H locs hr13 hP hD hS => ?_)
            obtain rfl := hr13
            have hP : va_P D vwCl [(m0, .inr (7, [.ref ml, .ref mm, .ref mit, .ref ms, .int (st), .ref mt, .int (nI tn), .int (fk), .int (fp), .int (av), .int (sv), .int (ov), .int (vv), .ref nw, .ref dr, .ref tr, .ref pa, .int (nI ac), .ref ig, .ref kx, .ref be, .ref tc, .int (nI td)])), (ml, .inl (cy 0, 8, .inl fl)), (mm, .inl (cy 0, 8, .inl fz)), (mit, .inl (cy 0, 320, .inl fi)), (nw, .inl (cy 0, 29, .inl f)), (tr, .inl (cy 0, 29, .inl (va_cpy f gt 0 0 29)))] H := hP
            have hD : va_D A [(m0, .inr (7, [.ref ml, .ref mm, .ref mit, .ref ms, .int (st), .ref mt, .int (nI tn), .int (fk), .int (fp), .int (av), .int (sv), .int (ov), .int (vv), .ref nw, .ref dr, .ref tr, .ref pa, .int (nI ac), .ref ig, .ref kx, .ref be, .ref tc, .int (nI td)])), (ml, .inl (cy 0, 8, .inl fl)), (mm, .inl (cy 0, 8, .inl fz)), (mit, .inl (cy 0, 320, .inl fi)), (nw, .inl (cy 0, 29, .inl f)), (tr, .inl (cy 0, 29, .inl (va_cpy f gt 0 0 29)))] := hD
            have hmt : mwIs w (va_cpy f gt 0 0 29) := mwIs_cpy hm
            refine lv_aload_n hx hb dX7_bribes_73 rfl (lv_at hl 0 rfl) ?_
            refine lv_bipush (v := nI 40) hx hb dX7_bribes_74 (by decide) ?_
            refine lv_iload_n hx hb dX7_bribes_76 rfl (lv_at hl 1 rfl) ?_
            refine lv_imul hx hb dX7_bribes_77 ?_
            refine q_top (y := nI (40 * k)) (pk_mul _ _) ?_
            refine lv_iload_n hx hb dX7_bribes_78 rfl (lv_at hl 2 rfl) ?_
            refine lv_iadd hx hb dX7_bribes_79 ?_
            refine q_top (y := nI ((40 * k) + i1)) (nI_add _ _) ?_
            refine lv_iload_n hx hb dX7_bribes_80 rfl (lv_at hl 3 rfl) ?_
            refine q_rV (As := [.int (nI ((40 * k) + i1)), .int (nI m)]) (rest := []) ⟨hx, hb, hml, hown, hts⟩ (c_X7_goesSo l D cy m0 ml mm mit ms mt nw dr tr pa ig kx be tc st fk fp av sv ov vv tn ac td (va_cpy f gt 0 0 29) w hmt hv fi ((40 * k) + i1) m (by omega) (by omega)) (cwV 2 hts gX7_bribes_X7_goesSo rfl rfl rfl (by decide +kernel) ⟨Nat.le_of_ble_eq_true rfl, Nat.le_of_ble_eq_true rfl⟩) hP hK [0, 5, 3] rfl 0 rfl rfl rfl rfl hl.1 rfl (Nat.le_of_ble_eq_true rfl) dX7_bribes_81 ⟨Nat.zero_le _, Nat.zero_le _⟩ (fun r15 hr15 => ?_)
            rw [goM hrm (by omega) (by omega)] at hr15
            rcases hr15 with ⟨rfl, b16⟩ | ⟨rfl, b16⟩
            · refine lv_if_eq (tgt := 92) hx hb dX7_bribes_84 (by decide) (fun c9 => absurd c9 (by decide)) (fun _ => ?_)
              refine lv_bipush (v := nI 64) hx hb dX7_bribes_87 (by decide) ?_
              refine lv_goto (tgt := 93) hx hb dX7_bribes_89 (by decide) ?_
              refine lv_istore (lv' := [(4, .int (nI 64)), (0, .ref m0), (1, .int (nI k)), (2, .int (nI i1)), (3, .int (nI m))]) hx hb dX7_bribes_93 hl (by decide) rfl (fun ls hl => ?_)
              refine lv_iconst (v := nI 0) hx hb dX7_bribes_95 (by decide) ?_
              refine lv_istore (lv' := [(5, .int (nI 0)), (4, .int (nI 64)), (0, .ref m0), (1, .int (nI k)), (2, .int (nI i1)), (3, .int (nI m))]) hx hb dX7_bribes_96 hl (by decide) rfl (fun ls hl => ?_)
              have L98_79 : ∀ (fu z1 : Nat), z1 ≤ w 4 → w 4 < z1 + fu → ∀ (ga : Nat → Int32), (∀ zz, mwIs (ctBr w zz) (upd ga 3 (nI (w 3 ^^^ (1 * 2 ^ zz))))) → ∀ (H : Heap) (locs : List Loc), va_P D vwCl [(m0, .inr (7, [.ref ml, .ref mm, .ref mit, .ref ms, .int (st), .ref mt, .int (nI tn), .int (fk), .int (fp), .int (av), .int (sv), .int (ov), .int (vv), .ref nw, .ref dr, .ref tr, .ref pa, .int (nI ac), .ref ig, .ref kx, .ref be, .ref tc, .int (nI td)])), (nw, .inl (cy 0, 29, .inl f)), (tr, .inl (cy 0, 29, .inl ga)), (ml, .inl (cy 0, 8, .inl fl)), (mm, .inl (cy 0, 8, .inl fz)), (mit, .inl (cy 0, 320, .inl fi))] H → va_D A [(m0, .inr (7, [.ref ml, .ref mm, .ref mit, .ref ms, .int (st), .ref mt, .int (nI tn), .int (fk), .int (fp), .int (av), .int (sv), .int (ov), .int (vv), .ref nw, .ref dr, .ref tr, .ref pa, .int (nI ac), .ref ig, .ref kx, .ref be, .ref tc, .int (nI td)])), (nw, .inl (cy 0, 29, .inl f)), (tr, .inl (cy 0, 29, .inl ga)), (ml, .inl (cy 0, 8, .inl fl)), (mm, .inl (cy 0, 8, .inl fz)), (mit, .inl (cy 0, 320, .inl fi))] → va_S A s.heap H locs → ∀ ls : Array Slot, lv_has ls 6 [(0, .ref m0), (1, .int (nI k)), (2, .int (nI i1)), (3, .int (nI m)), (4, .int (nI (brN w (fun d => itS k (i1 + d)) m z1))), (5, .int (nI z1))] → W pg l en (q_rm 6) s mi args below meth cd H locs 0 0 (MQ below (va_Qi (fun r u => ∃ (st2 : Int32) (gt2 : Nat → Int32), oBribes w ln sz itS st (nI k) (nI i1) (nI m) = (r, st2) ∧ u = [(m0, .inr (7, [.ref ml, .ref mm, .ref mit, .ref ms, .int (st2), .ref mt, .int (nI tn), .int (fk), .int (fp), .int (av), .int (sv), .int (ov), .int (vv), .ref nw, .ref dr, .ref tr, .ref pa, .int (nI ac), .ref ig, .ref kx, .ref be, .ref tc, .int (nI td)])), (nw, .inl (cy 0, 29, .inl f)), (tr, .inl (cy 0, 29, .inl gt2)), (ml, .inl (cy 0, 8, .inl fl)), (mm, .inl (cy 0, 8, .inl fz)), (mit, .inl (cy 0, 320, .inl fi))]) (fun (u : va_W) t => va_P D vwCl u t.heap ∧ va_D A u) A) args s 0 0 A) (F0 mi 98 ls []) := by
                intro fu
                induction fu with
                | zero =>
                  intro z1 h1 h2
                  exact absurd h2 (by omega)
                | succ fu ih98 =>
                  intro z1 h1_98 h2_98 ga hf98_0 H locs hP hD hS ls hl
                  refine lv_iload hx hb dX7_bribes_98 (lv_at hl 5 rfl) ?_
                  refine lv_aload_n hx hb dX7_bribes_100 rfl (lv_at hl 0 rfl) ?_
                  refine va_get (D := D) (ci := 7) (v := .ref nw) (C := RX7) (T := TX7) (N := 23) hx hb hts nX7_bribes_0 hown hK.1 hP 0 rfl rfl 13 (by decide) (hts _ mX7_bribes_1) (fun _ h9 => h9) rfl dX7_bribes_101 ?_
                  refine lv_iconst (v := nI 4) hx hb dX7_bribes_104 (by decide) ?_
                  refine q_iald (j := 4) (v := nI (w 4)) hx hb hK hP 1 rfl (by omega) (by decide) (hm _ (by omega)) dX7_bribes_105 ?_
                  refine q_icmp_ge (tgt := 159) hx hb dX7_bribes_106 (by decide) (by omega) (by omega) (fun c17 => ?_) (fun c17 => ?_)
                  · have hz : z1 = w 4 := by omega
                    refine lv_aload_n hx hb dX7_bribes_159 rfl (lv_at hl 0 rfl) ?_
                    refine lv_iload hx hb dX7_bribes_160 (lv_at hl 4 rfl) ?_
                    refine q_top (y := nI (brN w (fun d => itS k (i1 + d)) m (w 4))) (by rw [hz]) ?_
                    refine q_wiV (As := [.int (nI (brN w (fun d => itS k (i1 + d)) m (w 4)))]) (rest := []) (wr := [(nw, .inl (cy 0, 29, .inl f)), (tr, .inl (cy 0, 29, .inl ga)), (ml, .inl (cy 0, 8, .inl fl)), (mm, .inl (cy 0, 8, .inl fz)), (mit, .inl (cy 0, 320, .inl fi))]) ⟨hx, hb, hml, hown, hts⟩ (c_X7_well l D cy m0 ml mm mit ms mt nw dr tr pa ig kx be tc st fk fp av sv ov vv tn ac td (nI (brN w (fun d => itS k (i1 + d)) m (w 4)))) (cwV 1 hts gX7_bribes_X7_well rfl rfl rfl (by decide +kernel) ⟨Nat.le_of_ble_eq_true rfl, Nat.le_of_ble_eq_true rfl⟩) hP hD hS hA hK [0] [1, 2, 3, 4, 5] rfl rfl (by decide) rfl (by decide) (by decide) 0 rfl rfl rfl rfl hl.1 rfl (Nat.le_of_ble_eq_true rfl) dX7_bribes_162 ⟨Nat.zero_le _, Nat.zero_le _⟩ (fun r18 u19 H locs hr18 hP hD hS => ?_)
                    obtain ⟨rfl, rfl⟩ := hr18
                    have hP : va_P D vwCl [(nw, .inl (cy 0, 29, .inl f)), (tr, .inl (cy 0, 29, .inl ga)), (ml, .inl (cy 0, 8, .inl fl)), (mm, .inl (cy 0, 8, .inl fz)), (mit, .inl (cy 0, 320, .inl fi)), (m0, .inr (7, [.ref ml, .ref mm, .ref mit, .ref ms, .int (nI 0), .ref mt, .int (nI tn), .int (fk), .int (fp), .int (av), .int (sv), .int (ov), .int (vv), .ref nw, .ref dr, .ref tr, .ref pa, .int (nI ac), .ref ig, .ref kx, .ref be, .ref tc, .int (nI td)]))] H := hP
                    have hD : va_D A [(nw, .inl (cy 0, 29, .inl f)), (tr, .inl (cy 0, 29, .inl ga)), (ml, .inl (cy 0, 8, .inl fl)), (mm, .inl (cy 0, 8, .inl fz)), (mit, .inl (cy 0, 320, .inl fi)), (m0, .inr (7, [.ref ml, .ref mm, .ref mit, .ref ms, .int (nI 0), .ref mt, .int (nI tn), .int (fk), .int (fp), .int (av), .int (sv), .int (ov), .int (vv), .ref nw, .ref dr, .ref tr, .ref pa, .int (nI ac), .ref ig, .ref kx, .ref be, .ref tc, .int (nI td)]))] := hD
                    have hP9 := hP.sub (ws' := [(m0, .inr (7, [.ref ml, .ref mm, .ref mit, .ref ms, .int (nI 0), .ref mt, .int (nI tn), .int (fk), .int (fp), .int (av), .int (sv), .int (ov), .int (vv), .ref nw, .ref dr, .ref tr, .ref pa, .int (nI ac), .ref ig, .ref kx, .ref be, .ref tc, .int (nI td)])), (nw, .inl (cy 0, 29, .inl f)), (tr, .inl (cy 0, 29, .inl ga)), (ml, .inl (cy 0, 8, .inl fl)), (mm, .inl (cy 0, 8, .inl fz)), (mit, .inl (cy 0, 320, .inl fi))]) [5, 0, 1, 2, 3, 4] rfl
                    have hD9 := hD.sub (ws' := [(m0, .inr (7, [.ref ml, .ref mm, .ref mit, .ref ms, .int (nI 0), .ref mt, .int (nI tn), .int (fk), .int (fp), .int (av), .int (sv), .int (ov), .int (vv), .ref nw, .ref dr, .ref tr, .ref pa, .int (nI ac), .ref ig, .ref kx, .ref be, .ref tc, .int (nI td)])), (nw, .inl (cy 0, 29, .inl f)), (tr, .inl (cy 0, 29, .inl ga)), (ml, .inl (cy 0, 8, .inl fl)), (mm, .inl (cy 0, 8, .inl fz)), (mit, .inl (cy 0, 320, .inl fi))]) [5, 0, 1, 2, 3, 4] (by decide) rfl
                    exact q_wiret (v := nI (brN w (fun d => itS k (i1 + d)) m (w 4))) hx hb hr hlocks dX7_bribes_165 hP9 hD9 hS (⟨_, _, by simp only [oBribes, q_cl (by omega : k < 2147483648), q_cl (by omega : m < 2147483648), q_cl (by omega : i1 < 2147483648), if_pos b2, if_pos b4, if_pos b6, if_neg b8, if_pos b12], rfl⟩)
                  · refine lv_aload_n hx hb dX7_bribes_109 rfl (lv_at hl 0 rfl) ?_
                    refine va_get (D := D) (ci := 7) (v := .ref tr) (C := RX7) (T := TX7) (N := 23) hx hb hts nX7_bribes_0 hown hK.1 hP 0 rfl rfl 15 (by decide) (hts _ mX7_bribes_2) (fun _ h9 => h9) rfl dX7_bribes_110 ?_
                    refine lv_iconst (v := nI 3) hx hb dX7_bribes_113 (by decide) ?_
                    refine lv_aload_n hx hb dX7_bribes_114 rfl (lv_at hl 0 rfl) ?_
                    refine va_get (D := D) (ci := 7) (v := .ref nw) (C := RX7) (T := TX7) (N := 23) hx hb hts nX7_bribes_0 hown hK.1 hP 0 rfl rfl 13 (by decide) (hts _ mX7_bribes_1) (fun _ h9 => h9) rfl dX7_bribes_115 ?_
                    refine lv_iconst (v := nI 3) hx hb dX7_bribes_118 (by decide) ?_
                    refine q_iald (j := 3) (v := nI (w 3)) hx hb hK hP 1 rfl (by omega) (by decide) (hm _ (by omega)) dX7_bribes_119 ?_
                    refine lv_iconst (v := nI 1) hx hb dX7_bribes_120 (by decide) ?_
                    refine lv_iload hx hb dX7_bribes_121 (lv_at hl 5 rfl) ?_
                    have hpw := q_pw6 z1 (by omega)
                    refine lv_ishl hx hb dX7_bribes_123 ?_
                    refine q_top (y := nI (1 * 2 ^ z1)) (q_shl (by omega) (by omega)) ?_
                    refine lv_ixor hx hb dX7_bribes_124 ?_
                    refine q_top (y := nI ((w 3) ^^^ (1 * 2 ^ z1))) (q_xor _ _) ?_
                    refine q_iast (j := 3) hx hb hK hP hD hS 2 rfl (by omega) (by decide) dX7_bribes_125 (fun H locs hP hD hS => ?_)
                    have hP : va_P D vwCl [(m0, .inr (7, [.ref ml, .ref mm, .ref mit, .ref ms, .int (st), .ref mt, .int (nI tn), .int (fk), .int (fp), .int (av), .int (sv), .int (ov), .int (vv), .ref nw, .ref dr, .ref tr, .ref pa, .int (nI ac), .ref ig, .ref kx, .ref be, .ref tc, .int (nI td)])), (nw, .inl (cy 0, 29, .inl f)), (tr, .inl (cy 0, 29, .inl (upd ga 3 (nI ((w 3) ^^^ (1 * 2 ^ z1)))))), (ml, .inl (cy 0, 8, .inl fl)), (mm, .inl (cy 0, 8, .inl fz)), (mit, .inl (cy 0, 320, .inl fi))] H := hP
                    have hD : va_D A [(m0, .inr (7, [.ref ml, .ref mm, .ref mit, .ref ms, .int (st), .ref mt, .int (nI tn), .int (fk), .int (fp), .int (av), .int (sv), .int (ov), .int (vv), .ref nw, .ref dr, .ref tr, .ref pa, .int (nI ac), .ref ig, .ref kx, .ref be, .ref tc, .int (nI td)])), (nw, .inl (cy 0, 29, .inl f)), (tr, .inl (cy 0, 29, .inl (upd ga 3 (nI ((w 3) ^^^ (1 * 2 ^ z1)))))), (ml, .inl (cy 0, 8, .inl fl)), (mm, .inl (cy 0, 8, .inl fz)), (mit, .inl (cy 0, 320, .inl fi))] := hD
                    refine lv_iload hx hb dX7_bribes_126 (lv_at hl 4 rfl) ?_
                    refine lv_aload_n hx hb dX7_bribes_128 rfl (lv_at hl 0 rfl) ?_
                    refine lv_bipush (v := nI 40) hx hb dX7_bribes_129 (by decide) ?_
                    refine lv_iload_n hx hb dX7_bribes_131 rfl (lv_at hl 1 rfl) ?_
                    refine lv_imul hx hb dX7_bribes_132 ?_
                    refine q_top (y := nI (40 * k)) (pk_mul _ _) ?_
                    refine lv_iload_n hx hb dX7_bribes_133 rfl (lv_at hl 2 rfl) ?_
                    refine lv_iadd hx hb dX7_bribes_134 ?_
                    refine q_top (y := nI ((40 * k) + i1)) (nI_add _ _) ?_
                    refine lv_iload_n hx hb dX7_bribes_135 rfl (lv_at hl 3 rfl) ?_
                    refine q_rV (As := [.int (nI ((40 * k) + i1)), .int (nI m)]) (rest := [.int (nI (brN w (fun d => itS k (i1 + d)) m z1))]) ⟨hx, hb, hml, hown, hts⟩ (c_X7_goesSo l D cy m0 ml mm mit ms mt nw dr tr pa ig kx be tc st fk fp av sv ov vv tn ac td (upd ga 3 (nI (w 3 ^^^ (1 * 2 ^ z1)))) (ctBr w z1) (hf98_0 z1) (ctOk_br hv (by omega)) fi ((40 * k) + i1) m (by omega) (by omega)) (cwV 2 hts gX7_bribes_X7_goesSo rfl rfl rfl (by decide +kernel) ⟨Nat.le_of_ble_eq_true rfl, Nat.le_of_ble_eq_true rfl⟩) hP hK [0, 2, 5] rfl 0 rfl rfl rfl rfl hl.1 rfl (Nat.le_of_ble_eq_true rfl) dX7_bribes_136 ⟨Nat.zero_le _, Nat.zero_le _⟩ (fun r20 hr20 => ?_)
                    rw [goM hrm (by omega) (by omega)] at hr20
                    rcases hr20 with ⟨rfl, b21⟩ | ⟨rfl, b21⟩
                    · refine lv_if_eq (tgt := 149) hx hb dX7_bribes_139 (by decide) (fun c9 => absurd c9 (by decide)) (fun _ => ?_)
                      refine lv_iconst (v := nI 1) hx hb dX7_bribes_142 (by decide) ?_
                      refine lv_iload hx hb dX7_bribes_143 (lv_at hl 5 rfl) ?_
                      refine lv_ishl hx hb dX7_bribes_145 ?_
                      refine q_top (y := nI (1 * 2 ^ z1)) (q_shl (by omega) (by omega)) ?_
                      refine lv_goto (tgt := 150) hx hb dX7_bribes_146 (by decide) ?_
                      refine lv_ior hx hb dX7_bribes_150 ?_
                      refine q_top (y := nI ((brN w (fun d => itS k (i1 + d)) m z1) ||| (1 * 2 ^ z1))) (q_or _ _) ?_
                      refine lv_istore (lv' := [(4, .int (nI ((brN w (fun d => itS k (i1 + d)) m z1) ||| (1 * 2 ^ z1)))), (0, .ref m0), (1, .int (nI k)), (2, .int (nI i1)), (3, .int (nI m)), (5, .int (nI z1))]) hx hb dX7_bribes_151 hl (by decide) rfl (fun ls hl => ?_)
                      refine lv_iinc (v := nI (z1 + 1)) (lv' := [(5, .int (nI (z1 + 1))), (4, .int (nI ((brN w (fun d => itS k (i1 + d)) m z1) ||| (1 * 2 ^ z1)))), (0, .ref m0), (1, .int (nI k)), (2, .int (nI i1)), (3, .int (nI m))]) hx hb dX7_bribes_153 hl (k := 5) rfl (q_inc z1 1) (by decide) rfl (fun ls hl => ?_)
                      refine lv_goto (tgt := 98) hx hb dX7_bribes_156 (by decide) ?_
                      exact ih98 (z1 + 1) (by omega) (by omega) (upd ga 3 (nI ((w 3) ^^^ (1 * 2 ^ z1)))) (fun zz => by rw [upd2]; exact hf98_0 zz) H locs hP hD hS ls (q_lset (lv_sub (l' := [(0, .ref m0), (1, .int (nI k)), (2, .int (nI i1)), (3, .int (nI m)), (4, .int (nI ((brN w (fun d => itS k (i1 + d)) m z1) ||| (1 * 2 ^ z1)))), (5, .int (nI (z1 + 1)))]) hl [2, 3, 4, 5, 1, 0] rfl) (q_c1 (f := fun z4 => ([(0, .ref m0), (1, .int (nI k)), (2, .int (nI i1)), (3, .int (nI m)), (4, .int (z4)), (5, .int (nI (z1 + 1)))] : List (Nat × Value))) (show (nI ((brN w (fun d => itS k (i1 + d)) m z1) ||| (1 * 2 ^ z1)) : Int32) = nI (brN w (fun d => itS k (i1 + d)) m (z1 + 1)) from (congrArg nI (if_pos b21)).symm)))
                    · refine lv_if_eq (tgt := 149) hx hb dX7_bribes_139 (by decide) (fun _ => ?_) (fun c9 => absurd (by decide) c9)
                      refine lv_iconst (v := nI 0) hx hb dX7_bribes_149 (by decide) ?_
                      refine lv_ior hx hb dX7_bribes_150 ?_
                      refine q_top (y := nI ((brN w (fun d => itS k (i1 + d)) m z1) ||| 0)) (q_or _ _) ?_
                      refine lv_istore (lv' := [(4, .int (nI ((brN w (fun d => itS k (i1 + d)) m z1) ||| 0))), (0, .ref m0), (1, .int (nI k)), (2, .int (nI i1)), (3, .int (nI m)), (5, .int (nI z1))]) hx hb dX7_bribes_151 hl (by decide) rfl (fun ls hl => ?_)
                      refine lv_iinc (v := nI (z1 + 1)) (lv' := [(5, .int (nI (z1 + 1))), (4, .int (nI ((brN w (fun d => itS k (i1 + d)) m z1) ||| 0))), (0, .ref m0), (1, .int (nI k)), (2, .int (nI i1)), (3, .int (nI m))]) hx hb dX7_bribes_153 hl (k := 5) rfl (q_inc z1 1) (by decide) rfl (fun ls hl => ?_)
                      refine lv_goto (tgt := 98) hx hb dX7_bribes_156 (by decide) ?_
                      exact ih98 (z1 + 1) (by omega) (by omega) (upd ga 3 (nI ((w 3) ^^^ (1 * 2 ^ z1)))) (fun zz => by rw [upd2]; exact hf98_0 zz) H locs hP hD hS ls (q_lset (lv_sub (l' := [(0, .ref m0), (1, .int (nI k)), (2, .int (nI i1)), (3, .int (nI m)), (4, .int (nI ((brN w (fun d => itS k (i1 + d)) m z1) ||| 0))), (5, .int (nI (z1 + 1)))]) hl [2, 3, 4, 5, 1, 0] rfl) (q_c1 (f := fun z4 => ([(0, .ref m0), (1, .int (nI k)), (2, .int (nI i1)), (3, .int (nI m)), (4, .int (z4)), (5, .int (nI (z1 + 1)))] : List (Nat × Value))) (show (nI ((brN w (fun d => itS k (i1 + d)) m z1) ||| 0) : Int32) = nI (brN w (fun d => itS k (i1 + d)) m (z1 + 1)) from (congrArg nI ((if_neg b21).trans (Nat.or_zero _).symm)).symm)))
              have hP := hP.sub (ws' := [(m0, .inr (7, [.ref ml, .ref mm, .ref mit, .ref ms, .int (st), .ref mt, .int (nI tn), .int (fk), .int (fp), .int (av), .int (sv), .int (ov), .int (vv), .ref nw, .ref dr, .ref tr, .ref pa, .int (nI ac), .ref ig, .ref kx, .ref be, .ref tc, .int (nI td)])), (nw, .inl (cy 0, 29, .inl f)), (tr, .inl (cy 0, 29, .inl (va_cpy f gt 0 0 29))), (ml, .inl (cy 0, 8, .inl fl)), (mm, .inl (cy 0, 8, .inl fz)), (mit, .inl (cy 0, 320, .inl fi))]) [0, 4, 5, 1, 2, 3] rfl
              have hD := hD.sub (ws' := [(m0, .inr (7, [.ref ml, .ref mm, .ref mit, .ref ms, .int (st), .ref mt, .int (nI tn), .int (fk), .int (fp), .int (av), .int (sv), .int (ov), .int (vv), .ref nw, .ref dr, .ref tr, .ref pa, .int (nI ac), .ref ig, .ref kx, .ref be, .ref tc, .int (nI td)])), (nw, .inl (cy 0, 29, .inl f)), (tr, .inl (cy 0, 29, .inl (va_cpy f gt 0 0 29))), (ml, .inl (cy 0, 8, .inl fl)), (mm, .inl (cy 0, 8, .inl fz)), (mit, .inl (cy 0, 320, .inl fi))]) [0, 4, 5, 1, 2, 3] (by decide) rfl
              exact L98_79 ((w 4) + 1) 0 (by omega) (by omega) (va_cpy f gt 0 0 29) (fun zz => mwIs_br hmt) H locs hP hD hS ls (q_lset (lv_sub (l' := [(0, .ref m0), (1, .int (nI k)), (2, .int (nI i1)), (3, .int (nI m)), (4, .int (nI 64)), (5, .int (nI 0))]) hl [2, 3, 4, 5, 1, 0] rfl) (q_c1 (f := fun z4 => ([(0, .ref m0), (1, .int (nI k)), (2, .int (nI i1)), (3, .int (nI m)), (4, .int (z4)), (5, .int (nI 0))] : List (Nat × Value))) (show (nI 64 : Int32) = nI (brN w (fun d => itS k (i1 + d)) m 0) from (congrArg nI (if_pos b16)).symm)))
            · refine lv_if_eq (tgt := 92) hx hb dX7_bribes_84 (by decide) (fun _ => ?_) (fun c9 => absurd (by decide) c9)
              refine lv_iconst (v := nI 0) hx hb dX7_bribes_92 (by decide) ?_
              refine lv_istore (lv' := [(4, .int (nI 0)), (0, .ref m0), (1, .int (nI k)), (2, .int (nI i1)), (3, .int (nI m))]) hx hb dX7_bribes_93 hl (by decide) rfl (fun ls hl => ?_)
              refine lv_iconst (v := nI 0) hx hb dX7_bribes_95 (by decide) ?_
              refine lv_istore (lv' := [(5, .int (nI 0)), (4, .int (nI 0)), (0, .ref m0), (1, .int (nI k)), (2, .int (nI i1)), (3, .int (nI m))]) hx hb dX7_bribes_96 hl (by decide) rfl (fun ls hl => ?_)
              have L98_162 : ∀ (fu z1 : Nat), z1 ≤ w 4 → w 4 < z1 + fu → ∀ (ga : Nat → Int32), (∀ zz, mwIs (ctBr w zz) (upd ga 3 (nI (w 3 ^^^ (1 * 2 ^ zz))))) → ∀ (H : Heap) (locs : List Loc), va_P D vwCl [(m0, .inr (7, [.ref ml, .ref mm, .ref mit, .ref ms, .int (st), .ref mt, .int (nI tn), .int (fk), .int (fp), .int (av), .int (sv), .int (ov), .int (vv), .ref nw, .ref dr, .ref tr, .ref pa, .int (nI ac), .ref ig, .ref kx, .ref be, .ref tc, .int (nI td)])), (nw, .inl (cy 0, 29, .inl f)), (tr, .inl (cy 0, 29, .inl ga)), (ml, .inl (cy 0, 8, .inl fl)), (mm, .inl (cy 0, 8, .inl fz)), (mit, .inl (cy 0, 320, .inl fi))] H → va_D A [(m0, .inr (7, [.ref ml, .ref mm, .ref mit, .ref ms, .int (st), .ref mt, .int (nI tn), .int (fk), .int (fp), .int (av), .int (sv), .int (ov), .int (vv), .ref nw, .ref dr, .ref tr, .ref pa, .int (nI ac), .ref ig, .ref kx, .ref be, .ref tc, .int (nI td)])), (nw, .inl (cy 0, 29, .inl f)), (tr, .inl (cy 0, 29, .inl ga)), (ml, .inl (cy 0, 8, .inl fl)), (mm, .inl (cy 0, 8, .inl fz)), (mit, .inl (cy 0, 320, .inl fi))] → va_S A s.heap H locs → ∀ ls : Array Slot, lv_has ls 6 [(0, .ref m0), (1, .int (nI k)), (2, .int (nI i1)), (3, .int (nI m)), (4, .int (nI (brN w (fun d => itS k (i1 + d)) m z1))), (5, .int (nI z1))] → W pg l en (q_rm 6) s mi args below meth cd H locs 0 0 (MQ below (va_Qi (fun r u => ∃ (st2 : Int32) (gt2 : Nat → Int32), oBribes w ln sz itS st (nI k) (nI i1) (nI m) = (r, st2) ∧ u = [(m0, .inr (7, [.ref ml, .ref mm, .ref mit, .ref ms, .int (st2), .ref mt, .int (nI tn), .int (fk), .int (fp), .int (av), .int (sv), .int (ov), .int (vv), .ref nw, .ref dr, .ref tr, .ref pa, .int (nI ac), .ref ig, .ref kx, .ref be, .ref tc, .int (nI td)])), (nw, .inl (cy 0, 29, .inl f)), (tr, .inl (cy 0, 29, .inl gt2)), (ml, .inl (cy 0, 8, .inl fl)), (mm, .inl (cy 0, 8, .inl fz)), (mit, .inl (cy 0, 320, .inl fi))]) (fun (u : va_W) t => va_P D vwCl u t.heap ∧ va_D A u) A) args s 0 0 A) (F0 mi 98 ls []) := by
                intro fu
                induction fu with
                | zero =>
                  intro z1 h1 h2
                  exact absurd h2 (by omega)
                | succ fu ih98 =>
                  intro z1 h1_98 h2_98 ga hf98_0 H locs hP hD hS ls hl
                  refine lv_iload hx hb dX7_bribes_98 (lv_at hl 5 rfl) ?_
                  refine lv_aload_n hx hb dX7_bribes_100 rfl (lv_at hl 0 rfl) ?_
                  refine va_get (D := D) (ci := 7) (v := .ref nw) (C := RX7) (T := TX7) (N := 23) hx hb hts nX7_bribes_0 hown hK.1 hP 0 rfl rfl 13 (by decide) (hts _ mX7_bribes_1) (fun _ h9 => h9) rfl dX7_bribes_101 ?_
                  refine lv_iconst (v := nI 4) hx hb dX7_bribes_104 (by decide) ?_
                  refine q_iald (j := 4) (v := nI (w 4)) hx hb hK hP 1 rfl (by omega) (by decide) (hm _ (by omega)) dX7_bribes_105 ?_
                  refine q_icmp_ge (tgt := 159) hx hb dX7_bribes_106 (by decide) (by omega) (by omega) (fun c22 => ?_) (fun c22 => ?_)
                  · have hz : z1 = w 4 := by omega
                    refine lv_aload_n hx hb dX7_bribes_159 rfl (lv_at hl 0 rfl) ?_
                    refine lv_iload hx hb dX7_bribes_160 (lv_at hl 4 rfl) ?_
                    refine q_top (y := nI (brN w (fun d => itS k (i1 + d)) m (w 4))) (by rw [hz]) ?_
                    refine q_wiV (As := [.int (nI (brN w (fun d => itS k (i1 + d)) m (w 4)))]) (rest := []) (wr := [(nw, .inl (cy 0, 29, .inl f)), (tr, .inl (cy 0, 29, .inl ga)), (ml, .inl (cy 0, 8, .inl fl)), (mm, .inl (cy 0, 8, .inl fz)), (mit, .inl (cy 0, 320, .inl fi))]) ⟨hx, hb, hml, hown, hts⟩ (c_X7_well l D cy m0 ml mm mit ms mt nw dr tr pa ig kx be tc st fk fp av sv ov vv tn ac td (nI (brN w (fun d => itS k (i1 + d)) m (w 4)))) (cwV 1 hts gX7_bribes_X7_well rfl rfl rfl (by decide +kernel) ⟨Nat.le_of_ble_eq_true rfl, Nat.le_of_ble_eq_true rfl⟩) hP hD hS hA hK [0] [1, 2, 3, 4, 5] rfl rfl (by decide) rfl (by decide) (by decide) 0 rfl rfl rfl rfl hl.1 rfl (Nat.le_of_ble_eq_true rfl) dX7_bribes_162 ⟨Nat.zero_le _, Nat.zero_le _⟩ (fun r23 u24 H locs hr23 hP hD hS => ?_)
                    obtain ⟨rfl, rfl⟩ := hr23
                    have hP : va_P D vwCl [(nw, .inl (cy 0, 29, .inl f)), (tr, .inl (cy 0, 29, .inl ga)), (ml, .inl (cy 0, 8, .inl fl)), (mm, .inl (cy 0, 8, .inl fz)), (mit, .inl (cy 0, 320, .inl fi)), (m0, .inr (7, [.ref ml, .ref mm, .ref mit, .ref ms, .int (nI 0), .ref mt, .int (nI tn), .int (fk), .int (fp), .int (av), .int (sv), .int (ov), .int (vv), .ref nw, .ref dr, .ref tr, .ref pa, .int (nI ac), .ref ig, .ref kx, .ref be, .ref tc, .int (nI td)]))] H := hP
                    have hD : va_D A [(nw, .inl (cy 0, 29, .inl f)), (tr, .inl (cy 0, 29, .inl ga)), (ml, .inl (cy 0, 8, .inl fl)), (mm, .inl (cy 0, 8, .inl fz)), (mit, .inl (cy 0, 320, .inl fi)), (m0, .inr (7, [.ref ml, .ref mm, .ref mit, .ref ms, .int (nI 0), .ref mt, .int (nI tn), .int (fk), .int (fp), .int (av), .int (sv), .int (ov), .int (vv), .ref nw, .ref dr, .ref tr, .ref pa, .int (nI ac), .ref ig, .ref kx, .ref be, .ref tc, .int (nI td)]))] := hD
                    have hP9 := hP.sub (ws' := [(m0, .inr (7, [.ref ml, .ref mm, .ref mit, .ref ms, .int (nI 0), .ref mt, .int (nI tn), .int (fk), .int (fp), .int (av), .int (sv), .int (ov), .int (vv), .ref nw, .ref dr, .ref tr, .ref pa, .int (nI ac), .ref ig, .ref kx, .ref be, .ref tc, .int (nI td)])), (nw, .inl (cy 0, 29, .inl f)), (tr, .inl (cy 0, 29, .inl ga)), (ml, .inl (cy 0, 8, .inl fl)), (mm, .inl (cy 0, 8, .inl fz)), (mit, .inl (cy 0, 320, .inl fi))]) [5, 0, 1, 2, 3, 4] rfl
                    have hD9 := hD.sub (ws' := [(m0, .inr (7, [.ref ml, .ref mm, .ref mit, .ref ms, .int (nI 0), .ref mt, .int (nI tn), .int (fk), .int (fp), .int (av), .int (sv), .int (ov), .int (vv), .ref nw, .ref dr, .ref tr, .ref pa, .int (nI ac), .ref ig, .ref kx, .ref be, .ref tc, .int (nI td)])), (nw, .inl (cy 0, 29, .inl f)), (tr, .inl (cy 0, 29, .inl ga)), (ml, .inl (cy 0, 8, .inl fl)), (mm, .inl (cy 0, 8, .inl fz)), (mit, .inl (cy 0, 320, .inl fi))]) [5, 0, 1, 2, 3, 4] (by decide) rfl
                    exact q_wiret (v := nI (brN w (fun d => itS k (i1 + d)) m (w 4))) hx hb hr hlocks dX7_bribes_165 hP9 hD9 hS (⟨_, _, by simp only [oBribes, q_cl (by omega : k < 2147483648), q_cl (by omega : m < 2147483648), q_cl (by omega : i1 < 2147483648), if_pos b2, if_pos b4, if_pos b6, if_neg b8, if_pos b12], rfl⟩)
                  · refine lv_aload_n hx hb dX7_bribes_109 rfl (lv_at hl 0 rfl) ?_
                    refine va_get (D := D) (ci := 7) (v := .ref tr) (C := RX7) (T := TX7) (N := 23) hx hb hts nX7_bribes_0 hown hK.1 hP 0 rfl rfl 15 (by decide) (hts _ mX7_bribes_2) (fun _ h9 => h9) rfl dX7_bribes_110 ?_
                    refine lv_iconst (v := nI 3) hx hb dX7_bribes_113 (by decide) ?_
                    refine lv_aload_n hx hb dX7_bribes_114 rfl (lv_at hl 0 rfl) ?_
                    refine va_get (D := D) (ci := 7) (v := .ref nw) (C := RX7) (T := TX7) (N := 23) hx hb hts nX7_bribes_0 hown hK.1 hP 0 rfl rfl 13 (by decide) (hts _ mX7_bribes_1) (fun _ h9 => h9) rfl dX7_bribes_115 ?_
                    refine lv_iconst (v := nI 3) hx hb dX7_bribes_118 (by decide) ?_
                    refine q_iald (j := 3) (v := nI (w 3)) hx hb hK hP 1 rfl (by omega) (by decide) (hm _ (by omega)) dX7_bribes_119 ?_
                    refine lv_iconst (v := nI 1) hx hb dX7_bribes_120 (by decide) ?_
                    refine lv_iload hx hb dX7_bribes_121 (lv_at hl 5 rfl) ?_
                    have hpw := q_pw6 z1 (by omega)
                    refine lv_ishl hx hb dX7_bribes_123 ?_
                    refine q_top (y := nI (1 * 2 ^ z1)) (q_shl (by omega) (by omega)) ?_
                    refine lv_ixor hx hb dX7_bribes_124 ?_
                    refine q_top (y := nI ((w 3) ^^^ (1 * 2 ^ z1))) (q_xor _ _) ?_
                    refine q_iast (j := 3) hx hb hK hP hD hS 2 rfl (by omega) (by decide) dX7_bribes_125 (fun H locs hP hD hS => ?_)
                    have hP : va_P D vwCl [(m0, .inr (7, [.ref ml, .ref mm, .ref mit, .ref ms, .int (st), .ref mt, .int (nI tn), .int (fk), .int (fp), .int (av), .int (sv), .int (ov), .int (vv), .ref nw, .ref dr, .ref tr, .ref pa, .int (nI ac), .ref ig, .ref kx, .ref be, .ref tc, .int (nI td)])), (nw, .inl (cy 0, 29, .inl f)), (tr, .inl (cy 0, 29, .inl (upd ga 3 (nI ((w 3) ^^^ (1 * 2 ^ z1)))))), (ml, .inl (cy 0, 8, .inl fl)), (mm, .inl (cy 0, 8, .inl fz)), (mit, .inl (cy 0, 320, .inl fi))] H := hP
                    have hD : va_D A [(m0, .inr (7, [.ref ml, .ref mm, .ref mit, .ref ms, .int (st), .ref mt, .int (nI tn), .int (fk), .int (fp), .int (av), .int (sv), .int (ov), .int (vv), .ref nw, .ref dr, .ref tr, .ref pa, .int (nI ac), .ref ig, .ref kx, .ref be, .ref tc, .int (nI td)])), (nw, .inl (cy 0, 29, .inl f)), (tr, .inl (cy 0, 29, .inl (upd ga 3 (nI ((w 3) ^^^ (1 * 2 ^ z1)))))), (ml, .inl (cy 0, 8, .inl fl)), (mm, .inl (cy 0, 8, .inl fz)), (mit, .inl (cy 0, 320, .inl fi))] := hD
                    refine lv_iload hx hb dX7_bribes_126 (lv_at hl 4 rfl) ?_
                    refine lv_aload_n hx hb dX7_bribes_128 rfl (lv_at hl 0 rfl) ?_
                    refine lv_bipush (v := nI 40) hx hb dX7_bribes_129 (by decide) ?_
                    refine lv_iload_n hx hb dX7_bribes_131 rfl (lv_at hl 1 rfl) ?_
                    refine lv_imul hx hb dX7_bribes_132 ?_
                    refine q_top (y := nI (40 * k)) (pk_mul _ _) ?_
                    refine lv_iload_n hx hb dX7_bribes_133 rfl (lv_at hl 2 rfl) ?_
                    refine lv_iadd hx hb dX7_bribes_134 ?_
                    refine q_top (y := nI ((40 * k) + i1)) (nI_add _ _) ?_
                    refine lv_iload_n hx hb dX7_bribes_135 rfl (lv_at hl 3 rfl) ?_
                    refine q_rV (As := [.int (nI ((40 * k) + i1)), .int (nI m)]) (rest := [.int (nI (brN w (fun d => itS k (i1 + d)) m z1))]) ⟨hx, hb, hml, hown, hts⟩ (c_X7_goesSo l D cy m0 ml mm mit ms mt nw dr tr pa ig kx be tc st fk fp av sv ov vv tn ac td (upd ga 3 (nI (w 3 ^^^ (1 * 2 ^ z1)))) (ctBr w z1) (hf98_0 z1) (ctOk_br hv (by omega)) fi ((40 * k) + i1) m (by omega) (by omega)) (cwV 2 hts gX7_bribes_X7_goesSo rfl rfl rfl (by decide +kernel) ⟨Nat.le_of_ble_eq_true rfl, Nat.le_of_ble_eq_true rfl⟩) hP hK [0, 2, 5] rfl 0 rfl rfl rfl rfl hl.1 rfl (Nat.le_of_ble_eq_true rfl) dX7_bribes_136 ⟨Nat.zero_le _, Nat.zero_le _⟩ (fun r25 hr25 => ?_)
                    rw [goM hrm (by omega) (by omega)] at hr25
                    rcases hr25 with ⟨rfl, b26⟩ | ⟨rfl, b26⟩
                    · refine lv_if_eq (tgt := 149) hx hb dX7_bribes_139 (by decide) (fun c9 => absurd c9 (by decide)) (fun _ => ?_)
                      refine lv_iconst (v := nI 1) hx hb dX7_bribes_142 (by decide) ?_
                      refine lv_iload hx hb dX7_bribes_143 (lv_at hl 5 rfl) ?_
                      refine lv_ishl hx hb dX7_bribes_145 ?_
                      refine q_top (y := nI (1 * 2 ^ z1)) (q_shl (by omega) (by omega)) ?_
                      refine lv_goto (tgt := 150) hx hb dX7_bribes_146 (by decide) ?_
                      refine lv_ior hx hb dX7_bribes_150 ?_
                      refine q_top (y := nI ((brN w (fun d => itS k (i1 + d)) m z1) ||| (1 * 2 ^ z1))) (q_or _ _) ?_
                      refine lv_istore (lv' := [(4, .int (nI ((brN w (fun d => itS k (i1 + d)) m z1) ||| (1 * 2 ^ z1)))), (0, .ref m0), (1, .int (nI k)), (2, .int (nI i1)), (3, .int (nI m)), (5, .int (nI z1))]) hx hb dX7_bribes_151 hl (by decide) rfl (fun ls hl => ?_)
                      refine lv_iinc (v := nI (z1 + 1)) (lv' := [(5, .int (nI (z1 + 1))), (4, .int (nI ((brN w (fun d => itS k (i1 + d)) m z1) ||| (1 * 2 ^ z1)))), (0, .ref m0), (1, .int (nI k)), (2, .int (nI i1)), (3, .int (nI m))]) hx hb dX7_bribes_153 hl (k := 5) rfl (q_inc z1 1) (by decide) rfl (fun ls hl => ?_)
                      refine lv_goto (tgt := 98) hx hb dX7_bribes_156 (by decide) ?_
                      exact ih98 (z1 + 1) (by omega) (by omega) (upd ga 3 (nI ((w 3) ^^^ (1 * 2 ^ z1)))) (fun zz => by rw [upd2]; exact hf98_0 zz) H locs hP hD hS ls (q_lset (lv_sub (l' := [(0, .ref m0), (1, .int (nI k)), (2, .int (nI i1)), (3, .int (nI m)), (4, .int (nI ((brN w (fun d => itS k (i1 + d)) m z1) ||| (1 * 2 ^ z1)))), (5, .int (nI (z1 + 1)))]) hl [2, 3, 4, 5, 1, 0] rfl) (q_c1 (f := fun z4 => ([(0, .ref m0), (1, .int (nI k)), (2, .int (nI i1)), (3, .int (nI m)), (4, .int (z4)), (5, .int (nI (z1 + 1)))] : List (Nat × Value))) (show (nI ((brN w (fun d => itS k (i1 + d)) m z1) ||| (1 * 2 ^ z1)) : Int32) = nI (brN w (fun d => itS k (i1 + d)) m (z1 + 1)) from (congrArg nI (if_pos b26)).symm)))
                    · refine lv_if_eq (tgt := 149) hx hb dX7_bribes_139 (by decide) (fun _ => ?_) (fun c9 => absurd (by decide) c9)
                      refine lv_iconst (v := nI 0) hx hb dX7_bribes_149 (by decide) ?_
                      refine lv_ior hx hb dX7_bribes_150 ?_
                      refine q_top (y := nI ((brN w (fun d => itS k (i1 + d)) m z1) ||| 0)) (q_or _ _) ?_
                      refine lv_istore (lv' := [(4, .int (nI ((brN w (fun d => itS k (i1 + d)) m z1) ||| 0))), (0, .ref m0), (1, .int (nI k)), (2, .int (nI i1)), (3, .int (nI m)), (5, .int (nI z1))]) hx hb dX7_bribes_151 hl (by decide) rfl (fun ls hl => ?_)
                      refine lv_iinc (v := nI (z1 + 1)) (lv' := [(5, .int (nI (z1 + 1))), (4, .int (nI ((brN w (fun d => itS k (i1 + d)) m z1) ||| 0))), (0, .ref m0), (1, .int (nI k)), (2, .int (nI i1)), (3, .int (nI m))]) hx hb dX7_bribes_153 hl (k := 5) rfl (q_inc z1 1) (by decide) rfl (fun ls hl => ?_)
                      refine lv_goto (tgt := 98) hx hb dX7_bribes_156 (by decide) ?_
                      exact ih98 (z1 + 1) (by omega) (by omega) (upd ga 3 (nI ((w 3) ^^^ (1 * 2 ^ z1)))) (fun zz => by rw [upd2]; exact hf98_0 zz) H locs hP hD hS ls (q_lset (lv_sub (l' := [(0, .ref m0), (1, .int (nI k)), (2, .int (nI i1)), (3, .int (nI m)), (4, .int (nI ((brN w (fun d => itS k (i1 + d)) m z1) ||| 0))), (5, .int (nI (z1 + 1)))]) hl [2, 3, 4, 5, 1, 0] rfl) (q_c1 (f := fun z4 => ([(0, .ref m0), (1, .int (nI k)), (2, .int (nI i1)), (3, .int (nI m)), (4, .int (z4)), (5, .int (nI (z1 + 1)))] : List (Nat × Value))) (show (nI ((brN w (fun d => itS k (i1 + d)) m z1) ||| 0) : Int32) = nI (brN w (fun d => itS k (i1 + d)) m (z1 + 1)) from (congrArg nI ((if_neg b26).trans (Nat.or_zero _).symm)).symm)))
              have hP := hP.sub (ws' := [(m0, .inr (7, [.ref ml, .ref mm, .ref mit, .ref ms, .int (st), .ref mt, .int (nI tn), .int (fk), .int (fp), .int (av), .int (sv), .int (ov), .int (vv), .ref nw, .ref dr, .ref tr, .ref pa, .int (nI ac), .ref ig, .ref kx, .ref be, .ref tc, .int (nI td)])), (nw, .inl (cy 0, 29, .inl f)), (tr, .inl (cy 0, 29, .inl (va_cpy f gt 0 0 29))), (ml, .inl (cy 0, 8, .inl fl)), (mm, .inl (cy 0, 8, .inl fz)), (mit, .inl (cy 0, 320, .inl fi))]) [0, 4, 5, 1, 2, 3] rfl
              have hD := hD.sub (ws' := [(m0, .inr (7, [.ref ml, .ref mm, .ref mit, .ref ms, .int (st), .ref mt, .int (nI tn), .int (fk), .int (fp), .int (av), .int (sv), .int (ov), .int (vv), .ref nw, .ref dr, .ref tr, .ref pa, .int (nI ac), .ref ig, .ref kx, .ref be, .ref tc, .int (nI td)])), (nw, .inl (cy 0, 29, .inl f)), (tr, .inl (cy 0, 29, .inl (va_cpy f gt 0 0 29))), (ml, .inl (cy 0, 8, .inl fl)), (mm, .inl (cy 0, 8, .inl fz)), (mit, .inl (cy 0, 320, .inl fi))]) [0, 4, 5, 1, 2, 3] (by decide) rfl
              exact L98_162 ((w 4) + 1) 0 (by omega) (by omega) (va_cpy f gt 0 0 29) (fun zz => mwIs_br hmt) H locs hP hD hS ls (q_lset (lv_sub (l' := [(0, .ref m0), (1, .int (nI k)), (2, .int (nI i1)), (3, .int (nI m)), (4, .int (nI 0)), (5, .int (nI 0))]) hl [2, 3, 4, 5, 1, 0] rfl) (q_c1 (f := fun z4 => ([(0, .ref m0), (1, .int (nI k)), (2, .int (nI i1)), (3, .int (nI m)), (4, .int (z4)), (5, .int (nI 0))] : List (Nat × Value))) (show (nI 0 : Int32) = nI (brN w (fun d => itS k (i1 + d)) m 0) from (congrArg nI (if_neg b16)).symm)))
          · have _ := b12
            refine lv_if_ne (tgt := 60) hx hb dX7_bribes_51 (by decide) (fun c9 => absurd (by decide) c9) (fun _ => ?_)
            refine lv_aload_n hx hb dX7_bribes_54 rfl (lv_at hl 0 rfl) ?_
            refine lv_iconst (v := nI 2) hx hb dX7_bribes_55 (by decide) ?_
            refine q_wiV (As := [.int (nI 2)]) (rest := []) (wr := [(nw, .inl (cy 0, 29, .inl f)), (tr, .inl (cy 0, 29, .inl gt)), (ml, .inl (cy 0, 8, .inl fl)), (mm, .inl (cy 0, 8, .inl fz)), (mit, .inl (cy 0, 320, .inl fi))]) ⟨hx, hb, hml, hown, hts⟩ (c_X7_found l D cy m0 ml mm mit ms mt nw dr tr pa ig kx be tc st fk fp av sv ov vv tn ac td (nI 2)) (cwV 1 hts gX7_bribes_X7_found rfl rfl rfl (by decide +kernel) ⟨Nat.le_of_ble_eq_true rfl, Nat.le_of_ble_eq_true rfl⟩) hP hD hS hA hK [0] [1, 2, 3, 4, 5] rfl rfl (by decide) rfl (by decide) (by decide) 0 rfl rfl rfl rfl hl.1 rfl (Nat.le_of_ble_eq_true rfl) dX7_bribes_56 ⟨Nat.zero_le _, Nat.zero_le _⟩ (fun r27 u28 H locs hr27 hP hD hS => ?_)
            obtain ⟨rfl, rfl⟩ := hr27
            have hP : va_P D vwCl [(nw, .inl (cy 0, 29, .inl f)), (tr, .inl (cy 0, 29, .inl gt)), (ml, .inl (cy 0, 8, .inl fl)), (mm, .inl (cy 0, 8, .inl fz)), (mit, .inl (cy 0, 320, .inl fi)), (m0, .inr (7, [.ref ml, .ref mm, .ref mit, .ref ms, .int (nI 2), .ref mt, .int (nI tn), .int (fk), .int (fp), .int (av), .int (sv), .int (ov), .int (vv), .ref nw, .ref dr, .ref tr, .ref pa, .int (nI ac), .ref ig, .ref kx, .ref be, .ref tc, .int (nI td)]))] H := hP
            have hD : va_D A [(nw, .inl (cy 0, 29, .inl f)), (tr, .inl (cy 0, 29, .inl gt)), (ml, .inl (cy 0, 8, .inl fl)), (mm, .inl (cy 0, 8, .inl fz)), (mit, .inl (cy 0, 320, .inl fi)), (m0, .inr (7, [.ref ml, .ref mm, .ref mit, .ref ms, .int (nI 2), .ref mt, .int (nI tn), .int (fk), .int (fp), .int (av), .int (sv), .int (ov), .int (vv), .ref nw, .ref dr, .ref tr, .ref pa, .int (nI ac), .ref ig, .ref kx, .ref be, .ref tc, .int (nI td)]))] := hD
            refine q_top (y := (-1000012)) (by decide) ?_
            have hP9 := hP.sub (ws' := [(m0, .inr (7, [.ref ml, .ref mm, .ref mit, .ref ms, .int (nI 2), .ref mt, .int (nI tn), .int (fk), .int (fp), .int (av), .int (sv), .int (ov), .int (vv), .ref nw, .ref dr, .ref tr, .ref pa, .int (nI ac), .ref ig, .ref kx, .ref be, .ref tc, .int (nI td)])), (nw, .inl (cy 0, 29, .inl f)), (tr, .inl (cy 0, 29, .inl gt)), (ml, .inl (cy 0, 8, .inl fl)), (mm, .inl (cy 0, 8, .inl fz)), (mit, .inl (cy 0, 320, .inl fi))]) [5, 0, 1, 2, 3, 4] rfl
            have hD9 := hD.sub (ws' := [(m0, .inr (7, [.ref ml, .ref mm, .ref mit, .ref ms, .int (nI 2), .ref mt, .int (nI tn), .int (fk), .int (fp), .int (av), .int (sv), .int (ov), .int (vv), .ref nw, .ref dr, .ref tr, .ref pa, .int (nI ac), .ref ig, .ref kx, .ref be, .ref tc, .int (nI td)])), (nw, .inl (cy 0, 29, .inl f)), (tr, .inl (cy 0, 29, .inl gt)), (ml, .inl (cy 0, 8, .inl fl)), (mm, .inl (cy 0, 8, .inl fz)), (mit, .inl (cy 0, 320, .inl fi))]) [5, 0, 1, 2, 3, 4] (by decide) rfl
            exact q_wiret (v := (-1000012)) hx hb hr hlocks dX7_bribes_59 hP9 hD9 hS (⟨_, _, by simp only [oBribes, q_cl (by omega : k < 2147483648), q_cl (by omega : m < 2147483648), if_pos b2, if_pos b4, if_pos b6, if_neg b8, if_neg b12], rfl⟩)
      · have _ := b6
        refine lv_if_ne (tgt := 30) hx hb dX7_bribes_24 (by decide) (fun c9 => absurd (by decide) c9) (fun _ => ?_)
        refine lv_ldc (v := (-1000001)) hx hb hown (hts _ mX7_bribes_3) dX7_bribes_27 ?_
        have hP9 := hP
        have hD9 := hD
        exact q_wiret (v := (-1000001)) hx hb hr hlocks dX7_bribes_29 hP9 hD9 hS (⟨_, _, by simp only [oBribes, if_pos b2, if_pos b4, if_neg b6], rfl⟩)
    · have _ := b4
      refine lv_if_eq (tgt := 27) hx hb dX7_bribes_14 (by decide) (fun _ => ?_) (fun c9 => absurd (by decide) c9)
      refine lv_ldc (v := (-1000001)) hx hb hown (hts _ mX7_bribes_3) dX7_bribes_27 ?_
      have hP9 := hP
      have hD9 := hD
      exact q_wiret (v := (-1000001)) hx hb hr hlocks dX7_bribes_29 hP9 hD9 hS (⟨_, _, by simp only [oBribes, if_pos b2, if_neg b4], rfl⟩)
  · have _ := b2
    refine lv_if_ne (tgt := 10) hx hb dX7_bribes_4 (by decide) (fun c9 => absurd (by decide) c9) (fun _ => ?_)
    refine lv_ldc (v := (-1000002)) hx hb hown (hts _ mX7_bribes_4) dX7_bribes_7 ?_
    have hP9 := hP
    have hD9 := hD
    exact q_wiret (v := (-1000002)) hx hb hr hlocks dX7_bribes_9 hP9 hD9 hS (⟨_, _, by simp only [oBribes, if_neg b2], rfl⟩)
theorem nX7_fits_0 : ∀ w ∈ wsX70, w ∈ wsX7_fits := by decide +kernel
theorem mX7_fits_1 : Cond.fieldLink RX7 25 "ClueLeaveModel" "now" "[I" ∈ wsX7_fits := by decide +kernel
theorem mX7_fits_2 : Cond.fieldLink RX7 31 "ClueLeaveModel" "tried" "[I" ∈ wsX7_fits := by decide +kernel
theorem mX7_fits_3 : Cond.constant RX7 64 (-1000001) ∈ wsX7_fits := by decide +kernel
set_option maxHeartbeats 4000000 in
set_option maxRecDepth 100000 in
theorem c_X7_fits (l : Launch) (D : va_G) (cy : Nat → ClassId) (m0 ml mm mit ms mt nw dr tr pa ig kx be tc : Nat) (st fk fp av sv ov vv : Int32) (tn ac td : Nat) (f : Nat → Int32) (w : Nat → Nat) (hm : mwIs w f) (hv : ctOk w) (gt : Nat → Int32) (fl fz fi : Nat → Int32) (ln sz : Nat → Nat) (itS : Nat → Nat → Int32) (hrm : rmI ln sz itS fl fz fi) (xc x i n y : Int32) : q_Wi l yX7_fits wsX7_fits 6 D cy [(m0, .inr (7, [.ref ml, .ref mm, .ref mit, .ref ms, .int (st), .ref mt, .int (nI tn), .int (fk), .int (fp), .int (av), .int (sv), .int (ov), .int (vv), .ref nw, .ref dr, .ref tr, .ref pa, .int (nI ac), .ref ig, .ref kx, .ref be, .ref tc, .int (nI td)])), (nw, .inl (cy 0, 29, .inl f)), (tr, .inl (cy 0, 29, .inl gt)), (ml, .inl (cy 0, 8, .inl fl)), (mm, .inl (cy 0, 8, .inl fz)), (mit, .inl (cy 0, 320, .inl fi))] [.ref m0, .int (xc), .int (x), .int (i), .int (n), .int (y)] (fun r u => ∃ (st2 : Int32) (gt2 : Nat → Int32), oFits w ln sz itS st xc x i n y = (r, st2) ∧ u = [(m0, .inr (7, [.ref ml, .ref mm, .ref mit, .ref ms, .int (st2), .ref mt, .int (nI tn), .int (fk), .int (fp), .int (av), .int (sv), .int (ov), .int (vv), .ref nw, .ref dr, .ref tr, .ref pa, .int (nI ac), .ref ig, .ref kx, .ref be, .ref tc, .int (nI td)])), (nw, .inl (cy 0, 29, .inl f)), (tr, .inl (cy 0, 29, .inl gt2)), (ml, .inl (cy 0, 8, .inl fl)), (mm, .inl (cy 0, 8, .inl fz)), (mit, .inl (cy 0, 320, .inl fi))]) := by
  refine q_wi_of (cc := cX7_fits) (maxL := 11) (ret := (some .int)) (by decide) rfl (Nat.le_of_ble_eq_true rfl) ?_
  intro pg en s mi args below meth cd A hC hA hK H locs hP hD hS ls hl
  obtain ⟨hx, hb, hr, hml, hown, hts, hlocks⟩ := hC
  have hl : lv_has ls 11 [(0, .ref m0), (1, .int (xc)), (2, .int (x)), (3, .int (i)), (4, .int (n)), (5, .int (y))] := hl
  obtain ⟨hv0, hv1, hv2, hv3, hv4, hvc⟩ := id hv
  refine lv_aload_n hx hb dX7_fits_0 rfl (lv_at hl 0 rfl) ?_
  refine lv_iload_n hx hb dX7_fits_1 rfl (lv_at hl 1 rfl) ?_
  refine q_rV (As := [.int (xc)]) (rest := []) ⟨hx, hb, hml, hown, hts⟩ (c_X7_isClue l D cy m0 ml mm mit ms mt nw dr tr pa ig kx be tc st fk fp av sv ov vv tn ac td f w hm hv xc) (cwV 1 hts gX7_fits_X7_isClue rfl rfl rfl (by decide +kernel) ⟨Nat.le_of_ble_eq_true rfl, Nat.le_of_ble_eq_true rfl⟩) hP hK [0, 1] rfl 0 rfl rfl rfl rfl hl.1 rfl (Nat.le_of_ble_eq_true rfl) dX7_fits_2 ⟨Nat.zero_le _, Nat.zero_le _⟩ (fun r1 hr1 => ?_)
  rcases hr1 with ⟨rfl, b2⟩ | ⟨rfl, b2⟩
  · have _ := b2
    refine lv_if_eq (tgt := 36) hx hb dX7_fits_5 (by decide) (fun c9 => absurd c9 (by decide)) (fun _ => ?_)
    obtain ⟨c, hc, rfl⟩ := (inC_i (by omega)).mpr b2
    obtain ⟨hk1, hk5, ht1, ht2, he2, he4, ho1⟩ := hvc c hc
    refine lv_iload_n hx hb dX7_fits_8 rfl (lv_at hl 2 rfl) ?_
    refine q_rS (As := [.int (x)]) (rest := []) ⟨hx, hb, hml, hown, hts⟩ (c_X7_isRow l D cy x) (va_cwS 1 hts gX7_fits_X7_isRow rfl rfl rfl (by decide +kernel) ⟨Nat.le_of_ble_eq_true rfl, Nat.le_of_ble_eq_true rfl⟩) hP hK [] rfl rfl hl.1 rfl (Nat.le_of_ble_eq_true rfl) dX7_fits_9 ⟨Nat.zero_le _, Nat.zero_le _⟩ (fun r3 hr3 => ?_)
    rcases hr3 with ⟨rfl, b4⟩ | ⟨rfl, b4⟩
    · have _ := b4
      refine lv_if_eq (tgt := 36) hx hb dX7_fits_12 (by decide) (fun c9 => absurd c9 (by decide)) (fun _ => ?_)
      obtain ⟨k, -, hx_k, rfl⟩ := q_rng b4 (by decide) (by decide)
      refine lv_iload hx hb dX7_fits_15 (lv_at hl 4 rfl) ?_
      refine lv_iconst (v := nI 1) hx hb dX7_fits_17 (by decide) ?_
      refine lv_bipush (v := nI 16) hx hb dX7_fits_18 (by decide) ?_
      refine q_rS (As := [.int (n), .int (nI 1), .int (nI 16)]) (rest := []) ⟨hx, hb, hml, hown, hts⟩ (c_X7_in l D cy n (nI 1) (nI 16)) (va_cwS 3 hts gX7_fits_X7_in rfl rfl rfl (by decide +kernel) ⟨Nat.le_of_ble_eq_true rfl, Nat.le_of_ble_eq_true rfl⟩) hP hK [] rfl rfl hl.1 rfl (Nat.le_of_ble_eq_true rfl) dX7_fits_20 ⟨Nat.zero_le _, Nat.zero_le _⟩ (fun r5 hr5 => ?_)
      rcases hr5 with ⟨rfl, b6⟩ | ⟨rfl, b6⟩
      · have _ := b6
        refine lv_if_eq (tgt := 36) hx hb dX7_fits_23 (by decide) (fun c9 => absurd c9 (by decide)) (fun _ => ?_)
        obtain ⟨m, -, hx_m, rfl⟩ := q_rng b6 (by decide) (by decide)
        refine lv_iload hx hb dX7_fits_26 (lv_at hl 5 rfl) ?_
        refine lv_iconst (v := nI 0) hx hb dX7_fits_28 (by decide) ?_
        refine lv_iconst (v := nI 1) hx hb dX7_fits_29 (by decide) ?_
        refine q_rS (As := [.int (y), .int (nI 0), .int (nI 1)]) (rest := []) ⟨hx, hb, hml, hown, hts⟩ (c_X7_in l D cy y (nI 0) (nI 1)) (va_cwS 3 hts gX7_fits_X7_in rfl rfl rfl (by decide +kernel) ⟨Nat.le_of_ble_eq_true rfl, Nat.le_of_ble_eq_true rfl⟩) hP hK [] rfl rfl hl.1 rfl (Nat.le_of_ble_eq_true rfl) dX7_fits_30 ⟨Nat.zero_le _, Nat.zero_le _⟩ (fun r7 hr7 => ?_)
        rcases hr7 with ⟨rfl, b8⟩ | ⟨rfl, b8⟩
        · have _ := b8
          refine lv_if_ne (tgt := 39) hx hb dX7_fits_33 (by decide) (fun _ => ?_) (fun c9 => absurd c9 (by decide))
          obtain ⟨yv, -, hx_yv, rfl⟩ := q_rng b8 (by decide) (by decide)
          obtain ⟨-, -, hz40, hl3⟩ := hrm.1 k (by omega)
          refine lv_aload_n hx hb dX7_fits_39 rfl (lv_at hl 0 rfl) ?_
          refine lv_iload_n hx hb dX7_fits_40 rfl (lv_at hl 2 rfl) ?_
          refine q_rV (As := [.int (nI k)]) (rest := []) ⟨hx, hb, hml, hown, hts⟩ (c_X7_isMissing l D cy m0 ml mm mit ms mt nw dr tr pa ig kx be tc st fk fp av sv ov vv tn ac td fl k (ln k) (by omega) (rmI_3 hrm (by omega)) (rmI_0 hrm (by omega))) (cwV 1 hts gX7_fits_X7_isMissing rfl rfl rfl (by decide +kernel) ⟨Nat.le_of_ble_eq_true rfl, Nat.le_of_ble_eq_true rfl⟩) hP hK [0, 3] rfl 0 rfl rfl rfl rfl hl.1 rfl (Nat.le_of_ble_eq_true rfl) dX7_fits_41 ⟨Nat.zero_le _, Nat.zero_le _⟩ (fun r9 hr9 => ?_)
          rcases hr9 with ⟨rfl, b10⟩ | ⟨rfl, b10⟩
          · have _ := b10
            refine lv_if_eq (tgt := 53) hx hb dX7_fits_44 (by decide) (fun c9 => absurd c9 (by decide)) (fun _ => ?_)
            refine lv_aload_n hx hb dX7_fits_47 rfl (lv_at hl 0 rfl) ?_
            refine lv_iconst (v := nI 1) hx hb dX7_fits_48 (by decide) ?_
            refine q_wiV (As := [.int (nI 1)]) (rest := []) (wr := [(nw, .inl (cy 0, 29, .inl f)), (tr, .inl (cy 0, 29, .inl gt)), (ml, .inl (cy 0, 8, .inl fl)), (mm, .inl (cy 0, 8, .inl fz)), (mit, .inl (cy 0, 320, .inl fi))]) ⟨hx, hb, hml, hown, hts⟩ (c_X7_found l D cy m0 ml mm mit ms mt nw dr tr pa ig kx be tc st fk fp av sv ov vv tn ac td (nI 1)) (cwV 1 hts gX7_fits_X7_found rfl rfl rfl (by decide +kernel) ⟨Nat.le_of_ble_eq_true rfl, Nat.le_of_ble_eq_true rfl⟩) hP hD hS hA hK [0] [1, 2, 3, 4, 5] rfl rfl (by decide) rfl (by decide) (by decide) 0 rfl rfl rfl rfl hl.1 rfl (Nat.le_of_ble_eq_true rfl) dX7_fits_49 ⟨Nat.zero_le _, Nat.zero_le _⟩ (fun r11 u12 H locs hr11 hP hD hS => ?_)
            obtain ⟨rfl, rfl⟩ := hr11
            have hP : va_P D vwCl [(nw, .inl (cy 0, 29, .inl f)), (tr, .inl (cy 0, 29, .inl gt)), (ml, .inl (cy 0, 8, .inl fl)), (mm, .inl (cy 0, 8, .inl fz)), (mit, .inl (cy 0, 320, .inl fi)), (m0, .inr (7, [.ref ml, .ref mm, .ref mit, .ref ms, .int (nI 1), .ref mt, .int (nI tn), .int (fk), .int (fp), .int (av), .int (sv), .int (ov), .int (vv), .ref nw, .ref dr, .ref tr, .ref pa, .int (nI ac), .ref ig, .ref kx, .ref be, .ref tc, .int (nI td)]))] H := hP
            have hD : va_D A [(nw, .inl (cy 0, 29, .inl f)), (tr, .inl (cy 0, 29, .inl gt)), (ml, .inl (cy 0, 8, .inl fl)), (mm, .inl (cy 0, 8, .inl fz)), (mit, .inl (cy 0, 320, .inl fi)), (m0, .inr (7, [.ref ml, .ref mm, .ref mit, .ref ms, .int (nI 1), .ref mt, .int (nI tn), .int (fk), .int (fp), .int (av), .int (sv), .int (ov), .int (vv), .ref nw, .ref dr, .ref tr, .ref pa, .int (nI ac), .ref ig, .ref kx, .ref be, .ref tc, .int (nI td)]))] := hD
            refine q_top (y := (-1000011)) (by decide) ?_
            have hP9 := hP.sub (ws' := [(m0, .inr (7, [.ref ml, .ref mm, .ref mit, .ref ms, .int (nI 1), .ref mt, .int (nI tn), .int (fk), .int (fp), .int (av), .int (sv), .int (ov), .int (vv), .ref nw, .ref dr, .ref tr, .ref pa, .int (nI ac), .ref ig, .ref kx, .ref be, .ref tc, .int (nI td)])), (nw, .inl (cy 0, 29, .inl f)), (tr, .inl (cy 0, 29, .inl gt)), (ml, .inl (cy 0, 8, .inl fl)), (mm, .inl (cy 0, 8, .inl fz)), (mit, .inl (cy 0, 320, .inl fi))]) [5, 0, 1, 2, 3, 4] rfl
            have hD9 := hD.sub (ws' := [(m0, .inr (7, [.ref ml, .ref mm, .ref mit, .ref ms, .int (nI 1), .ref mt, .int (nI tn), .int (fk), .int (fp), .int (av), .int (sv), .int (ov), .int (vv), .ref nw, .ref dr, .ref tr, .ref pa, .int (nI ac), .ref ig, .ref kx, .ref be, .ref tc, .int (nI td)])), (nw, .inl (cy 0, 29, .inl f)), (tr, .inl (cy 0, 29, .inl gt)), (ml, .inl (cy 0, 8, .inl fl)), (mm, .inl (cy 0, 8, .inl fz)), (mit, .inl (cy 0, 320, .inl fi))]) [5, 0, 1, 2, 3, 4] (by decide) rfl
            exact q_wiret (v := (-1000011)) hx hb hr hlocks dX7_fits_52 hP9 hD9 hS (⟨_, _, by simp only [oFits, q_cl (by omega : c < 2147483648), q_cl (by omega : k < 2147483648), q_cl (by omega : m < 2147483648), if_pos b2, if_pos b4, if_pos b6, if_pos b8, if_pos b10], rfl⟩)
          · have _ := b10
            refine lv_if_eq (tgt := 53) hx hb dX7_fits_44 (by decide) (fun _ => ?_) (fun c9 => absurd (by decide) c9)
            refine lv_aload_n hx hb dX7_fits_53 rfl (lv_at hl 0 rfl) ?_
            refine lv_iload_n hx hb dX7_fits_54 rfl (lv_at hl 2 rfl) ?_
            refine lv_iload_n hx hb dX7_fits_55 rfl (lv_at hl 3 rfl) ?_
            refine lv_iload hx hb dX7_fits_56 (lv_at hl 4 rfl) ?_
            refine q_rV (As := [.int (nI k), .int (i), .int (nI m)]) (rest := []) ⟨hx, hb, hml, hown, hts⟩ (c_X7_isPart l D cy m0 ml mm mit ms mt nw dr tr pa ig kx be tc st fk fp av sv ov vv tn ac td fz k (sz k) (by omega) (rmI_2 hrm (by omega)) (rmI_1 hrm (by omega)) i (nI m)) (cwV 3 hts gX7_fits_X7_isPart rfl rfl rfl (by decide +kernel) ⟨Nat.le_of_ble_eq_true rfl, Nat.le_of_ble_eq_true rfl⟩) hP hK [0, 4] rfl 0 rfl rfl rfl rfl hl.1 rfl (Nat.le_of_ble_eq_true rfl) dX7_fits_58 ⟨Nat.zero_le _, Nat.zero_le _⟩ (fun r13 hr13 => ?_)
            rcases hr13 with ⟨rfl, b14⟩ | ⟨rfl, b14⟩
            · have _ := b14
              refine lv_if_ne (tgt := 70) hx hb dX7_fits_61 (by decide) (fun _ => ?_) (fun c9 => absurd c9 (by decide))
              obtain ⟨i1, rfl, him⟩ := rwB_2 b14 hz40 (by omega)
              rcases (by omega : yv = 0 ∨ yv = 1) with rfl | rfl
              · refine lv_iconst (v := nI 5) hx hb dX7_fits_70 (by decide) ?_
                refine lv_iconst (v := nI 4) hx hb dX7_fits_71 (by decide) ?_
                refine lv_iload_n hx hb dX7_fits_72 rfl (lv_at hl 1 rfl) ?_
                refine lv_imul hx hb dX7_fits_73 ?_
                refine q_top (y := nI (4 * c)) (pk_mul _ _) ?_
                refine lv_iadd hx hb dX7_fits_74 ?_
                refine q_top (y := nI (5 + (4 * c))) (nI_add _ _) ?_
                refine lv_iload hx hb dX7_fits_75 (lv_at hl 5 rfl) ?_
                refine lv_if_ne (tgt := 84) hx hb dX7_fits_77 (by decide) (fun c9 => absurd (by decide) c9) (fun _ => ?_)
                refine lv_iconst (v := nI 0) hx hb dX7_fits_80 (by decide) ?_
                refine lv_goto (tgt := 85) hx hb dX7_fits_81 (by decide) ?_
                refine lv_iadd hx hb dX7_fits_85 ?_
                refine q_top (y := nI ((5 + (4 * c)) + 0)) (nI_add _ _) ?_
                refine lv_istore (lv' := [(6, .int (nI ((5 + (4 * c)) + 0))), (0, .ref m0), (1, .int (nI c)), (2, .int (nI k)), (3, .int (nI i1)), (4, .int (nI m)), (5, .int (nI 0))]) hx hb dX7_fits_86 hl (by decide) rfl (fun ls hl => ?_)
                refine lv_iload hx hb dX7_fits_88 (lv_at hl 6 rfl) ?_
                refine lv_if_ne (tgt := 97) hx hb dX7_fits_90 (by decide) (fun c9 => absurd (by decide) c9) (fun _ => ?_)
                refine lv_iconst (v := nI 1) hx hb dX7_fits_93 (by decide) ?_
                refine lv_goto (tgt := 98) hx hb dX7_fits_94 (by decide) ?_
                refine lv_istore (lv' := [(7, .int (nI 1)), (6, .int (nI ((5 + (4 * c)) + 0))), (0, .ref m0), (1, .int (nI c)), (2, .int (nI k)), (3, .int (nI i1)), (4, .int (nI m)), (5, .int (nI 0))]) hx hb dX7_fits_98 hl (by decide) rfl (fun ls hl => ?_)
                refine lv_iload hx hb dX7_fits_100 (lv_at hl 7 rfl) ?_
                refine lv_if_ne (tgt := 109) hx hb dX7_fits_102 (by decide) (fun c9 => absurd (by decide) c9) (fun _ => ?_)
                refine lv_iconst (v := nI 5) hx hb dX7_fits_105 (by decide) ?_
                refine lv_goto (tgt := 123) hx hb dX7_fits_106 (by decide) ?_
                refine lv_istore (lv' := [(8, .int (nI 5)), (7, .int (nI 1)), (6, .int (nI ((5 + (4 * c)) + 0))), (0, .ref m0), (1, .int (nI c)), (2, .int (nI k)), (3, .int (nI i1)), (4, .int (nI m)), (5, .int (nI 0))]) hx hb dX7_fits_123 hl (by decide) rfl (fun ls hl => ?_)
                refine lv_iconst (v := nI 0) hx hb dX7_fits_125 (by decide) ?_
                refine lv_istore (lv' := [(9, .int (nI 0)), (8, .int (nI 5)), (7, .int (nI 1)), (6, .int (nI ((5 + (4 * c)) + 0))), (0, .ref m0), (1, .int (nI c)), (2, .int (nI k)), (3, .int (nI i1)), (4, .int (nI m)), (5, .int (nI 0))]) hx hb dX7_fits_126 hl (by decide) rfl (fun ls hl => ?_)
                refine lv_aload_n hx hb dX7_fits_128 rfl (lv_at hl 4 rfl) ?_
                refine va_get (D := D) (ci := 7) (v := .ref nw) (C := RX7) (T := TX7) (N := 23) hx hb hts nX7_fits_0 hown hK.1 hP 0 rfl rfl 13 (by decide) (hts _ mX7_fits_1) (fun _ h9 => h9) rfl dX7_fits_129 ?_
                refine lv_iconst (v := nI 0) hx hb dX7_fits_132 (by decide) ?_
                refine lv_aload_n hx hb dX7_fits_133 rfl (lv_at hl 4 rfl) ?_
                refine va_get (D := D) (ci := 7) (v := .ref tr) (C := RX7) (T := TX7) (N := 23) hx hb hts nX7_fits_0 hown hK.1 hP 0 rfl rfl 15 (by decide) (hts _ mX7_fits_2) (fun _ h9 => h9) rfl dX7_fits_134 ?_
                refine lv_iconst (v := nI 0) hx hb dX7_fits_137 (by decide) ?_
                refine q_wvS (As := [.ref nw, .int (nI 0), .ref tr, .int (nI 0)]) (rest := []) (wr := [(m0, .inr (7, [.ref ml, .ref mm, .ref mit, .ref ms, .int (st), .ref mt, .int (nI tn), .int (fk), .int (fp), .int (av), .int (sv), .int (ov), .int (vv), .ref nw, .ref dr, .ref tr, .ref pa, .int (nI ac), .ref ig, .ref kx, .ref be, .ref tc, .int (nI td)])), (ml, .inl (cy 0, 8, .inl fl)), (mm, .inl (cy 0, 8, .inl fz)), (mit, .inl (cy 0, 320, .inl fi))]) ⟨hx, hb, hml, hown, hts⟩ (c_X7_copies l D cy nw tr 29 29 (by decide) (by decide) f gt 0 0 (by omega) (by omega)) (va_cwS 4 hts gX7_fits_X7_copies rfl rfl rfl (by decide +kernel) ⟨Nat.le_of_ble_eq_true rfl, Nat.le_of_ble_eq_true rfl⟩) hP hD hS hA hK [1, 2] [0, 3, 4, 5] rfl rfl (by decide) rfl (by decide) (by decide) rfl hl.1 rfl (Nat.le_of_ble_eq_true rfl) dX7_fits_138 ⟨Nat.zero_le _, Nat.zero_le _⟩ (fun u16 H locs hr15 hP hD hS => ?_)
                obtain rfl := hr15
                have hP : va_P D vwCl [(m0, .inr (7, [.ref ml, .ref mm, .ref mit, .ref ms, .int (st), .ref mt, .int (nI tn), .int (fk), .int (fp), .int (av), .int (sv), .int (ov), .int (vv), .ref nw, .ref dr, .ref tr, .ref pa, .int (nI ac), .ref ig, .ref kx, .ref be, .ref tc, .int (nI td)])), (ml, .inl (cy 0, 8, .inl fl)), (mm, .inl (cy 0, 8, .inl fz)), (mit, .inl (cy 0, 320, .inl fi)), (nw, .inl (cy 0, 29, .inl f)), (tr, .inl (cy 0, 29, .inl (va_cpy f gt 0 0 29)))] H := hP
                have hD : va_D A [(m0, .inr (7, [.ref ml, .ref mm, .ref mit, .ref ms, .int (st), .ref mt, .int (nI tn), .int (fk), .int (fp), .int (av), .int (sv), .int (ov), .int (vv), .ref nw, .ref dr, .ref tr, .ref pa, .int (nI ac), .ref ig, .ref kx, .ref be, .ref tc, .int (nI td)])), (ml, .inl (cy 0, 8, .inl fl)), (mm, .inl (cy 0, 8, .inl fz)), (mit, .inl (cy 0, 320, .inl fi)), (nw, .inl (cy 0, 29, .inl f)), (tr, .inl (cy 0, 29, .inl (va_cpy f gt 0 0 29)))] := hD
                have hmt : mwIs w (va_cpy f gt 0 0 29) := mwIs_cpy hm
                refine lv_iload hx hb dX7_fits_141 (lv_at hl 2 rfl) ?_
                refine lv_istore (lv' := [(10, .int (nI 1)), (9, .int (nI 0)), (8, .int (nI 5)), (7, .int (nI 1)), (6, .int (nI ((5 + (4 * c)) + 0))), (0, .ref m0), (1, .int (nI c)), (2, .int (nI k)), (3, .int (nI i1)), (4, .int (nI m)), (5, .int (nI 0))]) hx hb dX7_fits_143 hl (by decide) rfl (fun ls hl => ?_)
                have L145_101 : ∀ (fu v1 : Nat), v1 ≤ 6 → 6 < v1 + fu → ∀ (ga : Nat → Int32), 1 ≤ v1 → (∀ vz, mwIs (ctSet w (5 + 4 * c) vz) (upd ga (5 + 4 * c + 0) (nI vz))) → ∀ (H : Heap) (locs : List Loc), va_P D vwCl [(m0, .inr (7, [.ref ml, .ref mm, .ref mit, .ref ms, .int (st), .ref mt, .int (nI tn), .int (fk), .int (fp), .int (av), .int (sv), .int (ov), .int (vv), .ref nw, .ref dr, .ref tr, .ref pa, .int (nI ac), .ref ig, .ref kx, .ref be, .ref tc, .int (nI td)])), (nw, .inl (cy 0, 29, .inl f)), (tr, .inl (cy 0, 29, .inl ga)), (ml, .inl (cy 0, 8, .inl fl)), (mm, .inl (cy 0, 8, .inl fz)), (mit, .inl (cy 0, 320, .inl fi))] H → va_D A [(m0, .inr (7, [.ref ml, .ref mm, .ref mit, .ref ms, .int (st), .ref mt, .int (nI tn), .int (fk), .int (fp), .int (av), .int (sv), .int (ov), .int (vv), .ref nw, .ref dr, .ref tr, .ref pa, .int (nI ac), .ref ig, .ref kx, .ref be, .ref tc, .int (nI td)])), (nw, .inl (cy 0, 29, .inl f)), (tr, .inl (cy 0, 29, .inl ga)), (ml, .inl (cy 0, 8, .inl fl)), (mm, .inl (cy 0, 8, .inl fz)), (mit, .inl (cy 0, 320, .inl fi))] → va_S A s.heap H locs → ∀ ls : Array Slot, lv_has ls 11 [(0, .ref m0), (1, .int (nI c)), (2, .int (nI k)), (3, .int (nI i1)), (4, .int (nI m)), (5, .int (nI 0)), (6, .int (nI (5 + 4 * c + 0))), (8, .int (nI 5)), (9, .int (nI (ftN w (5 + 4 * c) (fun d => itS k (i1 + d)) m 1 v1))), (10, .int (nI v1))] → W pg l en (q_rm 6) s mi args below meth cd H locs 0 0 (MQ below (va_Qi (fun r u => ∃ (st2 : Int32) (gt2 : Nat → Int32), oFits w ln sz itS st (nI c) (nI k) (nI i1) (nI m) (nI (0)) = (r, st2) ∧ u = [(m0, .inr (7, [.ref ml, .ref mm, .ref mit, .ref ms, .int (st2), .ref mt, .int (nI tn), .int (fk), .int (fp), .int (av), .int (sv), .int (ov), .int (vv), .ref nw, .ref dr, .ref tr, .ref pa, .int (nI ac), .ref ig, .ref kx, .ref be, .ref tc, .int (nI td)])), (nw, .inl (cy 0, 29, .inl f)), (tr, .inl (cy 0, 29, .inl gt2)), (ml, .inl (cy 0, 8, .inl fl)), (mm, .inl (cy 0, 8, .inl fz)), (mit, .inl (cy 0, 320, .inl fi))]) (fun (u : va_W) t => va_P D vwCl u t.heap ∧ va_D A u) A) args s 0 0 A) (F0 mi 145 ls []) := by
                  intro fu
                  induction fu with
                  | zero =>
                    intro v1 h1 h2
                    exact absurd h2 (by omega)
                  | succ fu ih145 =>
                    intro v1 h1_145 h2_145 ga hf145_0 hf145_1 H locs hP hD hS ls hl
                    refine lv_iload hx hb dX7_fits_145 (lv_at hl 9 rfl) ?_
                    refine lv_iload hx hb dX7_fits_147 (lv_at hl 7 rfl) ?_
                    refine q_icmp_gt (tgt := 195) hx hb dX7_fits_149 (by decide) (by omega) (by decide) (fun c17 => ?_) (fun c17 => ?_)
                    · refine lv_aload_n hx hb dX7_fits_195 rfl (lv_at hl 0 rfl) ?_
                      refine lv_iload hx hb dX7_fits_196 (lv_at hl 8 rfl) ?_
                      have hz : v1 = 6 := by omega
                      refine q_top (y := nI (ftN w (5 + 4 * c) (fun d => itS k (i1 + d)) m 1 6)) (by rw [hz]) ?_
                      refine q_wiV (As := [.int (nI (ftN w (5 + 4 * c) (fun d => itS k (i1 + d)) m 1 6))]) (rest := []) (wr := [(nw, .inl (cy 0, 29, .inl f)), (tr, .inl (cy 0, 29, .inl ga)), (ml, .inl (cy 0, 8, .inl fl)), (mm, .inl (cy 0, 8, .inl fz)), (mit, .inl (cy 0, 320, .inl fi))]) ⟨hx, hb, hml, hown, hts⟩ (c_X7_well l D cy m0 ml mm mit ms mt nw dr tr pa ig kx be tc st fk fp av sv ov vv tn ac td (nI (ftN w (5 + 4 * c) (fun d => itS k (i1 + d)) m 1 6))) (cwV 1 hts gX7_fits_X7_well rfl rfl rfl (by decide +kernel) ⟨Nat.le_of_ble_eq_true rfl, Nat.le_of_ble_eq_true rfl⟩) hP hD hS hA hK [0] [1, 2, 3, 4, 5] rfl rfl (by decide) rfl (by decide) (by decide) 0 rfl rfl rfl rfl hl.1 rfl (Nat.le_of_ble_eq_true rfl) dX7_fits_198 ⟨Nat.zero_le _, Nat.zero_le _⟩ (fun r18 u19 H locs hr18 hP hD hS => ?_)
                      obtain ⟨rfl, rfl⟩ := hr18
                      have hP : va_P D vwCl [(nw, .inl (cy 0, 29, .inl f)), (tr, .inl (cy 0, 29, .inl ga)), (ml, .inl (cy 0, 8, .inl fl)), (mm, .inl (cy 0, 8, .inl fz)), (mit, .inl (cy 0, 320, .inl fi)), (m0, .inr (7, [.ref ml, .ref mm, .ref mit, .ref ms, .int (nI 0), .ref mt, .int (nI tn), .int (fk), .int (fp), .int (av), .int (sv), .int (ov), .int (vv), .ref nw, .ref dr, .ref tr, .ref pa, .int (nI ac), .ref ig, .ref kx, .ref be, .ref tc, .int (nI td)]))] H := hP
                      have hD : va_D A [(nw, .inl (cy 0, 29, .inl f)), (tr, .inl (cy 0, 29, .inl ga)), (ml, .inl (cy 0, 8, .inl fl)), (mm, .inl (cy 0, 8, .inl fz)), (mit, .inl (cy 0, 320, .inl fi)), (m0, .inr (7, [.ref ml, .ref mm, .ref mit, .ref ms, .int (nI 0), .ref mt, .int (nI tn), .int (fk), .int (fp), .int (av), .int (sv), .int (ov), .int (vv), .ref nw, .ref dr, .ref tr, .ref pa, .int (nI ac), .ref ig, .ref kx, .ref be, .ref tc, .int (nI td)]))] := hD
                      have hP9 := hP.sub (ws' := [(m0, .inr (7, [.ref ml, .ref mm, .ref mit, .ref ms, .int (nI 0), .ref mt, .int (nI tn), .int (fk), .int (fp), .int (av), .int (sv), .int (ov), .int (vv), .ref nw, .ref dr, .ref tr, .ref pa, .int (nI ac), .ref ig, .ref kx, .ref be, .ref tc, .int (nI td)])), (nw, .inl (cy 0, 29, .inl f)), (tr, .inl (cy 0, 29, .inl ga)), (ml, .inl (cy 0, 8, .inl fl)), (mm, .inl (cy 0, 8, .inl fz)), (mit, .inl (cy 0, 320, .inl fi))]) [5, 0, 1, 2, 3, 4] rfl
                      have hD9 := hD.sub (ws' := [(m0, .inr (7, [.ref ml, .ref mm, .ref mit, .ref ms, .int (nI 0), .ref mt, .int (nI tn), .int (fk), .int (fp), .int (av), .int (sv), .int (ov), .int (vv), .ref nw, .ref dr, .ref tr, .ref pa, .int (nI ac), .ref ig, .ref kx, .ref be, .ref tc, .int (nI td)])), (nw, .inl (cy 0, 29, .inl f)), (tr, .inl (cy 0, 29, .inl ga)), (ml, .inl (cy 0, 8, .inl fl)), (mm, .inl (cy 0, 8, .inl fz)), (mit, .inl (cy 0, 320, .inl fi))]) [5, 0, 1, 2, 3, 4] (by decide) rfl
                      exact q_wiret (v := nI (ftN w (5 + 4 * c) (fun d => itS k (i1 + d)) m 1 6)) hx hb hr hlocks dX7_fits_201 hP9 hD9 hS (⟨_, _, by simp only [oFits, q_cl (by omega : c < 2147483648), q_cl (by omega : k < 2147483648), q_cl (by omega : m < 2147483648), q_cl (by omega : i1 < 2147483648), q_cl (by omega : 0 < 2147483648), if_pos b2, if_pos b4, if_pos b6, if_pos b8, if_neg b10, if_pos b14, if_true], rfl⟩)
                    · refine lv_aload_n hx hb dX7_fits_152 rfl (lv_at hl 0 rfl) ?_
                      refine va_get (D := D) (ci := 7) (v := .ref tr) (C := RX7) (T := TX7) (N := 23) hx hb hts nX7_fits_0 hown hK.1 hP 0 rfl rfl 15 (by decide) (hts _ mX7_fits_2) (fun _ h9 => h9) rfl dX7_fits_153 ?_
                      refine lv_iload hx hb dX7_fits_156 (lv_at hl 6 rfl) ?_
                      refine lv_iload hx hb dX7_fits_158 (lv_at hl 9 rfl) ?_
                      refine q_iast (j := (5 + 4 * c + 0)) hx hb hK hP hD hS 2 rfl (by omega) (by decide) dX7_fits_160 (fun H locs hP hD hS => ?_)
                      have hP : va_P D vwCl [(m0, .inr (7, [.ref ml, .ref mm, .ref mit, .ref ms, .int (st), .ref mt, .int (nI tn), .int (fk), .int (fp), .int (av), .int (sv), .int (ov), .int (vv), .ref nw, .ref dr, .ref tr, .ref pa, .int (nI ac), .ref ig, .ref kx, .ref be, .ref tc, .int (nI td)])), (nw, .inl (cy 0, 29, .inl f)), (tr, .inl (cy 0, 29, .inl (upd ga (5 + 4 * c + 0) (nI v1)))), (ml, .inl (cy 0, 8, .inl fl)), (mm, .inl (cy 0, 8, .inl fz)), (mit, .inl (cy 0, 320, .inl fi))] H := hP
                      have hD : va_D A [(m0, .inr (7, [.ref ml, .ref mm, .ref mit, .ref ms, .int (st), .ref mt, .int (nI tn), .int (fk), .int (fp), .int (av), .int (sv), .int (ov), .int (vv), .ref nw, .ref dr, .ref tr, .ref pa, .int (nI ac), .ref ig, .ref kx, .ref be, .ref tc, .int (nI td)])), (nw, .inl (cy 0, 29, .inl f)), (tr, .inl (cy 0, 29, .inl (upd ga (5 + 4 * c + 0) (nI v1)))), (ml, .inl (cy 0, 8, .inl fl)), (mm, .inl (cy 0, 8, .inl fz)), (mit, .inl (cy 0, 320, .inl fi))] := hD
                      refine lv_iload hx hb dX7_fits_161 (lv_at hl 8 rfl) ?_
                      refine lv_aload_n hx hb dX7_fits_163 rfl (lv_at hl 0 rfl) ?_
                      refine lv_bipush (v := nI 40) hx hb dX7_fits_164 (by decide) ?_
                      refine lv_iload_n hx hb dX7_fits_166 rfl (lv_at hl 2 rfl) ?_
                      refine lv_imul hx hb dX7_fits_167 ?_
                      refine q_top (y := nI (40 * k)) (pk_mul _ _) ?_
                      refine lv_iload_n hx hb dX7_fits_168 rfl (lv_at hl 3 rfl) ?_
                      refine lv_iadd hx hb dX7_fits_169 ?_
                      refine q_top (y := nI ((40 * k) + i1)) (nI_add _ _) ?_
                      refine lv_iload hx hb dX7_fits_170 (lv_at hl 4 rfl) ?_
                      refine q_rV (As := [.int (nI ((40 * k) + i1)), .int (nI m)]) (rest := [.int (nI (ftN w (5 + 4 * c) (fun d => itS k (i1 + d)) m 1 v1))]) ⟨hx, hb, hml, hown, hts⟩ (c_X7_goesSo l D cy m0 ml mm mit ms mt nw dr tr pa ig kx be tc st fk fp av sv ov vv tn ac td (upd ga (5 + 4 * c + 0) (nI v1)) (ctSet w (5 + 4 * c) v1) (hf145_1 v1) (ctOk_Kx hv (by omega) (by omega)) fi ((40 * k) + i1) m (by omega) (by omega)) (cwV 2 hts gX7_fits_X7_goesSo rfl rfl rfl (by decide +kernel) ⟨Nat.le_of_ble_eq_true rfl, Nat.le_of_ble_eq_true rfl⟩) hP hK [0, 2, 5] rfl 0 rfl rfl rfl rfl hl.1 rfl (Nat.le_of_ble_eq_true rfl) dX7_fits_172 ⟨Nat.zero_le _, Nat.zero_le _⟩ (fun r20 hr20 => ?_)
                      rw [goM hrm (by omega) (by omega)] at hr20
                      rcases hr20 with ⟨rfl, b21⟩ | ⟨rfl, b21⟩
                      · refine lv_if_eq (tgt := 185) hx hb dX7_fits_175 (by decide) (fun c9 => absurd c9 (by decide)) (fun _ => ?_)
                        refine lv_iconst (v := nI 1) hx hb dX7_fits_178 (by decide) ?_
                        have hpw := q_pw6 v1 (by omega)
                        refine lv_iload hx hb dX7_fits_179 (lv_at hl 9 rfl) ?_
                        refine lv_ishl hx hb dX7_fits_181 ?_
                        refine q_top (y := nI (1 * 2 ^ v1)) (q_shl (by omega) (by omega)) ?_
                        refine lv_goto (tgt := 186) hx hb dX7_fits_182 (by decide) ?_
                        refine lv_ior hx hb dX7_fits_186 ?_
                        refine q_top (y := nI ((ftN w (5 + 4 * c) (fun d => itS k (i1 + d)) m 1 v1) ||| (1 * 2 ^ v1))) (q_or _ _) ?_
                        refine lv_istore (lv' := [(9, .int (nI ((ftN w (5 + 4 * c) (fun d => itS k (i1 + d)) m 1 v1) ||| (1 * 2 ^ v1)))), (0, .ref m0), (1, .int (nI c)), (2, .int (nI k)), (3, .int (nI i1)), (4, .int (nI m)), (5, .int (nI 0)), (6, .int (nI (5 + 4 * c + 0))), (8, .int (nI 5)), (10, .int (nI v1))]) hx hb dX7_fits_187 hl (by decide) rfl (fun ls hl => ?_)
                        refine lv_iinc (v := nI (v1 + 1)) (lv' := [(10, .int (nI (v1 + 1))), (9, .int (nI ((ftN w (5 + 4 * c) (fun d => itS k (i1 + d)) m 1 v1) ||| (1 * 2 ^ v1)))), (0, .ref m0), (1, .int (nI c)), (2, .int (nI k)), (3, .int (nI i1)), (4, .int (nI m)), (5, .int (nI 0)), (6, .int (nI (5 + 4 * c + 0))), (8, .int (nI 5))]) hx hb dX7_fits_189 hl (k := 9) rfl (q_inc v1 1) (by decide) rfl (fun ls hl => ?_)
                        refine lv_goto (tgt := 145) hx hb dX7_fits_192 (by decide) ?_
                        exact ih145 (v1 + 1) (by omega) (by omega) (upd ga (5 + 4 * c + 0) (nI v1)) (by omega) (fun vz => by rw [upd2]; exact hf145_1 vz) H locs hP hD hS ls (q_lset (lv_sub (l' := [(0, .ref m0), (1, .int (nI c)), (2, .int (nI k)), (3, .int (nI i1)), (4, .int (nI m)), (5, .int (nI 0)), (6, .int (nI (5 + 4 * c + 0))), (8, .int (nI 5)), (9, .int (nI ((ftN w (5 + 4 * c) (fun d => itS k (i1 + d)) m 1 v1) ||| (1 * 2 ^ v1)))), (10, .int (nI (v1 + 1)))]) hl [2, 3, 4, 5, 6, 7, 8, 9, 1, 0] rfl) (q_c1 (f := fun z9 => ([(0, .ref m0), (1, .int (nI c)), (2, .int (nI k)), (3, .int (nI i1)), (4, .int (nI m)), (5, .int (nI 0)), (6, .int (nI (5 + 4 * c + 0))), (8, .int (nI 5)), (9, .int (z9)), (10, .int (nI (v1 + 1)))] : List (Nat × Value))) (show (nI ((ftN w (5 + 4 * c) (fun d => itS k (i1 + d)) m 1 v1) ||| (1 * 2 ^ v1)) : Int32) = nI (ftN w (5 + 4 * c) (fun d => itS k (i1 + d)) m 1 (v1 + 1)) from (congrArg nI (ftN_y hf145_0 b21)).symm)))
                      · refine lv_if_eq (tgt := 185) hx hb dX7_fits_175 (by decide) (fun _ => ?_) (fun c9 => absurd (by decide) c9)
                        refine lv_iconst (v := nI 0) hx hb dX7_fits_185 (by decide) ?_
                        refine lv_ior hx hb dX7_fits_186 ?_
                        refine q_top (y := nI ((ftN w (5 + 4 * c) (fun d => itS k (i1 + d)) m 1 v1) ||| 0)) (q_or _ _) ?_
                        refine lv_istore (lv' := [(9, .int (nI ((ftN w (5 + 4 * c) (fun d => itS k (i1 + d)) m 1 v1) ||| 0))), (0, .ref m0), (1, .int (nI c)), (2, .int (nI k)), (3, .int (nI i1)), (4, .int (nI m)), (5, .int (nI 0)), (6, .int (nI (5 + 4 * c + 0))), (8, .int (nI 5)), (10, .int (nI v1))]) hx hb dX7_fits_187 hl (by decide) rfl (fun ls hl => ?_)
                        refine lv_iinc (v := nI (v1 + 1)) (lv' := [(10, .int (nI (v1 + 1))), (9, .int (nI ((ftN w (5 + 4 * c) (fun d => itS k (i1 + d)) m 1 v1) ||| 0))), (0, .ref m0), (1, .int (nI c)), (2, .int (nI k)), (3, .int (nI i1)), (4, .int (nI m)), (5, .int (nI 0)), (6, .int (nI (5 + 4 * c + 0))), (8, .int (nI 5))]) hx hb dX7_fits_189 hl (k := 9) rfl (q_inc v1 1) (by decide) rfl (fun ls hl => ?_)
                        refine lv_goto (tgt := 145) hx hb dX7_fits_192 (by decide) ?_
                        exact ih145 (v1 + 1) (by omega) (by omega) (upd ga (5 + 4 * c + 0) (nI v1)) (by omega) (fun vz => by rw [upd2]; exact hf145_1 vz) H locs hP hD hS ls (q_lset (lv_sub (l' := [(0, .ref m0), (1, .int (nI c)), (2, .int (nI k)), (3, .int (nI i1)), (4, .int (nI m)), (5, .int (nI 0)), (6, .int (nI (5 + 4 * c + 0))), (8, .int (nI 5)), (9, .int (nI ((ftN w (5 + 4 * c) (fun d => itS k (i1 + d)) m 1 v1) ||| 0))), (10, .int (nI (v1 + 1)))]) hl [2, 3, 4, 5, 6, 7, 8, 9, 1, 0] rfl) (q_c1 (f := fun z9 => ([(0, .ref m0), (1, .int (nI c)), (2, .int (nI k)), (3, .int (nI i1)), (4, .int (nI m)), (5, .int (nI 0)), (6, .int (nI (5 + 4 * c + 0))), (8, .int (nI 5)), (9, .int (z9)), (10, .int (nI (v1 + 1)))] : List (Nat × Value))) (show (nI ((ftN w (5 + 4 * c) (fun d => itS k (i1 + d)) m 1 v1) ||| 0) : Int32) = nI (ftN w (5 + 4 * c) (fun d => itS k (i1 + d)) m 1 (v1 + 1)) from (congrArg nI ((ftN_n b21).trans (Nat.or_zero _).symm)).symm)))
                have hP := hP.sub (ws' := [(m0, .inr (7, [.ref ml, .ref mm, .ref mit, .ref ms, .int (st), .ref mt, .int (nI tn), .int (fk), .int (fp), .int (av), .int (sv), .int (ov), .int (vv), .ref nw, .ref dr, .ref tr, .ref pa, .int (nI ac), .ref ig, .ref kx, .ref be, .ref tc, .int (nI td)])), (nw, .inl (cy 0, 29, .inl f)), (tr, .inl (cy 0, 29, .inl (va_cpy f gt 0 0 29))), (ml, .inl (cy 0, 8, .inl fl)), (mm, .inl (cy 0, 8, .inl fz)), (mit, .inl (cy 0, 320, .inl fi))]) [0, 4, 5, 1, 2, 3] rfl
                have hD := hD.sub (ws' := [(m0, .inr (7, [.ref ml, .ref mm, .ref mit, .ref ms, .int (st), .ref mt, .int (nI tn), .int (fk), .int (fp), .int (av), .int (sv), .int (ov), .int (vv), .ref nw, .ref dr, .ref tr, .ref pa, .int (nI ac), .ref ig, .ref kx, .ref be, .ref tc, .int (nI td)])), (nw, .inl (cy 0, 29, .inl f)), (tr, .inl (cy 0, 29, .inl (va_cpy f gt 0 0 29))), (ml, .inl (cy 0, 8, .inl fl)), (mm, .inl (cy 0, 8, .inl fz)), (mit, .inl (cy 0, 320, .inl fi))]) [0, 4, 5, 1, 2, 3] (by decide) rfl
                exact L145_101 (6 + 1) 1 (by omega) (by omega) (va_cpy f gt 0 0 29) (Nat.le_refl _) (fun _ => mwIs_set hmt (by omega) (by omega)) H locs hP hD hS ls (q_lset (lv_sub (l' := [(0, .ref m0), (1, .int (nI c)), (2, .int (nI k)), (3, .int (nI i1)), (4, .int (nI m)), (5, .int (nI 0)), (6, .int (nI ((5 + (4 * c)) + 0))), (8, .int (nI 5)), (9, .int (nI 0)), (10, .int (nI 1))]) hl [5, 6, 7, 8, 9, 10, 4, 2, 1, 0] rfl) (q_c2 (f := fun z6 z9 => ([(0, .ref m0), (1, .int (nI c)), (2, .int (nI k)), (3, .int (nI i1)), (4, .int (nI m)), (5, .int (nI 0)), (6, .int (z6)), (8, .int (nI 5)), (9, .int (z9)), (10, .int (nI 1))] : List (Nat × Value))) (show (nI ((5 + (4 * c)) + 0) : Int32) = nI (5 + 4 * c + 0) from rfl) (show (nI 0 : Int32) = nI (ftN w (5 + 4 * c) (fun d => itS k (i1 + d)) m 1 1) from rfl)))
              · refine lv_iconst (v := nI 5) hx hb dX7_fits_70 (by decide) ?_
                refine lv_iconst (v := nI 4) hx hb dX7_fits_71 (by decide) ?_
                refine lv_iload_n hx hb dX7_fits_72 rfl (lv_at hl 1 rfl) ?_
                refine lv_imul hx hb dX7_fits_73 ?_
                refine q_top (y := nI (4 * c)) (pk_mul _ _) ?_
                refine lv_iadd hx hb dX7_fits_74 ?_
                refine q_top (y := nI (5 + (4 * c))) (nI_add _ _) ?_
                refine lv_iload hx hb dX7_fits_75 (lv_at hl 5 rfl) ?_
                refine lv_if_ne (tgt := 84) hx hb dX7_fits_77 (by decide) (fun _ => ?_) (fun c9 => absurd c9 (by decide))
                refine lv_iconst (v := nI 3) hx hb dX7_fits_84 (by decide) ?_
                refine lv_iadd hx hb dX7_fits_85 ?_
                refine q_top (y := nI ((5 + (4 * c)) + 3)) (nI_add _ _) ?_
                refine lv_istore (lv' := [(6, .int (nI ((5 + (4 * c)) + 3))), (0, .ref m0), (1, .int (nI c)), (2, .int (nI k)), (3, .int (nI i1)), (4, .int (nI m)), (5, .int (nI 1))]) hx hb dX7_fits_86 hl (by decide) rfl (fun ls hl => ?_)
                refine lv_iload hx hb dX7_fits_88 (lv_at hl 6 rfl) ?_
                refine lv_if_ne (tgt := 97) hx hb dX7_fits_90 (by decide) (fun _ => ?_) (fun c9 => absurd c9 (by decide))
                refine lv_iconst (v := nI 0) hx hb dX7_fits_97 (by decide) ?_
                refine lv_istore (lv' := [(7, .int (nI 0)), (6, .int (nI ((5 + (4 * c)) + 3))), (0, .ref m0), (1, .int (nI c)), (2, .int (nI k)), (3, .int (nI i1)), (4, .int (nI m)), (5, .int (nI 1))]) hx hb dX7_fits_98 hl (by decide) rfl (fun ls hl => ?_)
                refine lv_iload hx hb dX7_fits_100 (lv_at hl 7 rfl) ?_
                refine lv_if_ne (tgt := 109) hx hb dX7_fits_102 (by decide) (fun _ => ?_) (fun c9 => absurd c9 (by decide))
                refine lv_aload_n hx hb dX7_fits_109 rfl (lv_at hl 2 rfl) ?_
                refine va_get (D := D) (ci := 7) (v := .ref nw) (C := RX7) (T := TX7) (N := 23) hx hb hts nX7_fits_0 hown hK.1 hP 0 rfl rfl 13 (by decide) (hts _ mX7_fits_1) (fun _ h9 => h9) rfl dX7_fits_110 ?_
                refine lv_iconst (v := nI 5) hx hb dX7_fits_113 (by decide) ?_
                refine lv_iconst (v := nI 4) hx hb dX7_fits_114 (by decide) ?_
                refine lv_iload_n hx hb dX7_fits_115 rfl (lv_at hl 3 rfl) ?_
                refine lv_imul hx hb dX7_fits_116 ?_
                refine q_top (y := nI (4 * c)) (pk_mul _ _) ?_
                refine lv_iadd hx hb dX7_fits_117 ?_
                refine q_top (y := nI (5 + (4 * c))) (nI_add _ _) ?_
                refine lv_iconst (v := nI 2) hx hb dX7_fits_118 (by decide) ?_
                refine lv_iadd hx hb dX7_fits_119 ?_
                refine q_top (y := nI ((5 + (4 * c)) + 2)) (nI_add _ _) ?_
                refine q_iald (j := ((5 + (4 * c)) + 2)) (v := nI (w ((5 + (4 * c)) + 2))) hx hb hK hP 1 rfl (by omega) (by decide) (hm _ (by omega)) dX7_fits_120 ?_
                refine q_top (y := nI (ctE w c)) (congrArg nI (ctE_e w c)) ?_
                refine lv_iconst (v := nI 1) hx hb dX7_fits_121 (by decide) ?_
                refine lv_isub hx hb dX7_fits_122 ?_
                refine q_top (y := nI ((ctE w c) - 1)) (pk_sub (by omega)) ?_
                refine lv_istore (lv' := [(8, .int (nI ((ctE w c) - 1))), (7, .int (nI 0)), (6, .int (nI ((5 + (4 * c)) + 3))), (0, .ref m0), (1, .int (nI c)), (2, .int (nI k)), (3, .int (nI i1)), (4, .int (nI m)), (5, .int (nI 1))]) hx hb dX7_fits_123 hl (by decide) rfl (fun ls hl => ?_)
                refine lv_iconst (v := nI 0) hx hb dX7_fits_125 (by decide) ?_
                refine lv_istore (lv' := [(9, .int (nI 0)), (8, .int (nI ((ctE w c) - 1))), (7, .int (nI 0)), (6, .int (nI ((5 + (4 * c)) + 3))), (0, .ref m0), (1, .int (nI c)), (2, .int (nI k)), (3, .int (nI i1)), (4, .int (nI m)), (5, .int (nI 1))]) hx hb dX7_fits_126 hl (by decide) rfl (fun ls hl => ?_)
                refine lv_aload_n hx hb dX7_fits_128 rfl (lv_at hl 4 rfl) ?_
                refine va_get (D := D) (ci := 7) (v := .ref nw) (C := RX7) (T := TX7) (N := 23) hx hb hts nX7_fits_0 hown hK.1 hP 0 rfl rfl 13 (by decide) (hts _ mX7_fits_1) (fun _ h9 => h9) rfl dX7_fits_129 ?_
                refine lv_iconst (v := nI 0) hx hb dX7_fits_132 (by decide) ?_
                refine lv_aload_n hx hb dX7_fits_133 rfl (lv_at hl 4 rfl) ?_
                refine va_get (D := D) (ci := 7) (v := .ref tr) (C := RX7) (T := TX7) (N := 23) hx hb hts nX7_fits_0 hown hK.1 hP 0 rfl rfl 15 (by decide) (hts _ mX7_fits_2) (fun _ h9 => h9) rfl dX7_fits_134 ?_
                refine lv_iconst (v := nI 0) hx hb dX7_fits_137 (by decide) ?_
                refine q_wvS (As := [.ref nw, .int (nI 0), .ref tr, .int (nI 0)]) (rest := []) (wr := [(m0, .inr (7, [.ref ml, .ref mm, .ref mit, .ref ms, .int (st), .ref mt, .int (nI tn), .int (fk), .int (fp), .int (av), .int (sv), .int (ov), .int (vv), .ref nw, .ref dr, .ref tr, .ref pa, .int (nI ac), .ref ig, .ref kx, .ref be, .ref tc, .int (nI td)])), (ml, .inl (cy 0, 8, .inl fl)), (mm, .inl (cy 0, 8, .inl fz)), (mit, .inl (cy 0, 320, .inl fi))]) ⟨hx, hb, hml, hown, hts⟩ (c_X7_copies l D cy nw tr 29 29 (by decide) (by decide) f gt 0 0 (by omega) (by omega)) (va_cwS 4 hts gX7_fits_X7_copies rfl rfl rfl (by decide +kernel) ⟨Nat.le_of_ble_eq_true rfl, Nat.le_of_ble_eq_true rfl⟩) hP hD hS hA hK [1, 2] [0, 3, 4, 5] rfl rfl (by decide) rfl (by decide) (by decide) rfl hl.1 rfl (Nat.le_of_ble_eq_true rfl) dX7_fits_138 ⟨Nat.zero_le _, Nat.zero_le _⟩ (fun u23 H locs hr22 hP hD hS => ?_)
                obtain rfl := hr22
                have hP : va_P D vwCl [(m0, .inr (7, [.ref ml, .ref mm, .ref mit, .ref ms, .int (st), .ref mt, .int (nI tn), .int (fk), .int (fp), .int (av), .int (sv), .int (ov), .int (vv), .ref nw, .ref dr, .ref tr, .ref pa, .int (nI ac), .ref ig, .ref kx, .ref be, .ref tc, .int (nI td)])), (ml, .inl (cy 0, 8, .inl fl)), (mm, .inl (cy 0, 8, .inl fz)), (mit, .inl (cy 0, 320, .inl fi)), (nw, .inl (cy 0, 29, .inl f)), (tr, .inl (cy 0, 29, .inl (va_cpy f gt 0 0 29)))] H := hP
                have hD : va_D A [(m0, .inr (7, [.ref ml, .ref mm, .ref mit, .ref ms, .int (st), .ref mt, .int (nI tn), .int (fk), .int (fp), .int (av), .int (sv), .int (ov), .int (vv), .ref nw, .ref dr, .ref tr, .ref pa, .int (nI ac), .ref ig, .ref kx, .ref be, .ref tc, .int (nI td)])), (ml, .inl (cy 0, 8, .inl fl)), (mm, .inl (cy 0, 8, .inl fz)), (mit, .inl (cy 0, 320, .inl fi)), (nw, .inl (cy 0, 29, .inl f)), (tr, .inl (cy 0, 29, .inl (va_cpy f gt 0 0 29)))] := hD
                have hmt : mwIs w (va_cpy f gt 0 0 29) := mwIs_cpy hm
                refine lv_iload hx hb dX7_fits_141 (lv_at hl 2 rfl) ?_
                refine lv_istore (lv' := [(10, .int (nI 0)), (9, .int (nI 0)), (8, .int (nI ((ctE w c) - 1))), (7, .int (nI 0)), (6, .int (nI ((5 + (4 * c)) + 3))), (0, .ref m0), (1, .int (nI c)), (2, .int (nI k)), (3, .int (nI i1)), (4, .int (nI m)), (5, .int (nI 1))]) hx hb dX7_fits_143 hl (by decide) rfl (fun ls hl => ?_)
                have L145_219 : ∀ (fu v1 : Nat), v1 ≤ ctE w c → ctE w c < v1 + fu → ∀ (ga : Nat → Int32), 0 ≤ v1 → (∀ vz, mwIs (ctSet w (8 + 4 * c) vz) (upd ga (5 + 4 * c + 3) (nI vz))) → ∀ (H : Heap) (locs : List Loc), va_P D vwCl [(m0, .inr (7, [.ref ml, .ref mm, .ref mit, .ref ms, .int (st), .ref mt, .int (nI tn), .int (fk), .int (fp), .int (av), .int (sv), .int (ov), .int (vv), .ref nw, .ref dr, .ref tr, .ref pa, .int (nI ac), .ref ig, .ref kx, .ref be, .ref tc, .int (nI td)])), (nw, .inl (cy 0, 29, .inl f)), (tr, .inl (cy 0, 29, .inl ga)), (ml, .inl (cy 0, 8, .inl fl)), (mm, .inl (cy 0, 8, .inl fz)), (mit, .inl (cy 0, 320, .inl fi))] H → va_D A [(m0, .inr (7, [.ref ml, .ref mm, .ref mit, .ref ms, .int (st), .ref mt, .int (nI tn), .int (fk), .int (fp), .int (av), .int (sv), .int (ov), .int (vv), .ref nw, .ref dr, .ref tr, .ref pa, .int (nI ac), .ref ig, .ref kx, .ref be, .ref tc, .int (nI td)])), (nw, .inl (cy 0, 29, .inl f)), (tr, .inl (cy 0, 29, .inl ga)), (ml, .inl (cy 0, 8, .inl fl)), (mm, .inl (cy 0, 8, .inl fz)), (mit, .inl (cy 0, 320, .inl fi))] → va_S A s.heap H locs → ∀ ls : Array Slot, lv_has ls 11 [(0, .ref m0), (1, .int (nI c)), (2, .int (nI k)), (3, .int (nI i1)), (4, .int (nI m)), (5, .int (nI 1)), (6, .int (nI (5 + 4 * c + 3))), (8, .int (nI ((ctE w c) - 1))), (9, .int (nI (ftN w (8 + 4 * c) (fun d => itS k (i1 + d)) m 0 v1))), (10, .int (nI v1))] → W pg l en (q_rm 6) s mi args below meth cd H locs 0 0 (MQ below (va_Qi (fun r u => ∃ (st2 : Int32) (gt2 : Nat → Int32), oFits w ln sz itS st (nI c) (nI k) (nI i1) (nI m) (nI (1)) = (r, st2) ∧ u = [(m0, .inr (7, [.ref ml, .ref mm, .ref mit, .ref ms, .int (st2), .ref mt, .int (nI tn), .int (fk), .int (fp), .int (av), .int (sv), .int (ov), .int (vv), .ref nw, .ref dr, .ref tr, .ref pa, .int (nI ac), .ref ig, .ref kx, .ref be, .ref tc, .int (nI td)])), (nw, .inl (cy 0, 29, .inl f)), (tr, .inl (cy 0, 29, .inl gt2)), (ml, .inl (cy 0, 8, .inl fl)), (mm, .inl (cy 0, 8, .inl fz)), (mit, .inl (cy 0, 320, .inl fi))]) (fun (u : va_W) t => va_P D vwCl u t.heap ∧ va_D A u) A) args s 0 0 A) (F0 mi 145 ls []) := by
                  intro fu
                  induction fu with
                  | zero =>
                    intro v1 h1 h2
                    exact absurd h2 (by omega)
                  | succ fu ih145 =>
                    intro v1 h1_145 h2_145 ga hf145_0 hf145_1 H locs hP hD hS ls hl
                    refine lv_iload hx hb dX7_fits_145 (lv_at hl 9 rfl) ?_
                    refine lv_iload hx hb dX7_fits_147 (lv_at hl 7 rfl) ?_
                    refine q_icmp_gt (tgt := 195) hx hb dX7_fits_149 (by decide) (by omega) (by omega) (fun c24 => ?_) (fun c24 => ?_)
                    · refine lv_aload_n hx hb dX7_fits_195 rfl (lv_at hl 0 rfl) ?_
                      refine lv_iload hx hb dX7_fits_196 (lv_at hl 8 rfl) ?_
                      have hz : v1 = (ctE w c) := by omega
                      refine q_top (y := nI (ftN w (8 + 4 * c) (fun d => itS k (i1 + d)) m 0 (ctE w c))) (by rw [hz]) ?_
                      refine q_wiV (As := [.int (nI (ftN w (8 + 4 * c) (fun d => itS k (i1 + d)) m 0 (ctE w c)))]) (rest := []) (wr := [(nw, .inl (cy 0, 29, .inl f)), (tr, .inl (cy 0, 29, .inl ga)), (ml, .inl (cy 0, 8, .inl fl)), (mm, .inl (cy 0, 8, .inl fz)), (mit, .inl (cy 0, 320, .inl fi))]) ⟨hx, hb, hml, hown, hts⟩ (c_X7_well l D cy m0 ml mm mit ms mt nw dr tr pa ig kx be tc st fk fp av sv ov vv tn ac td (nI (ftN w (8 + 4 * c) (fun d => itS k (i1 + d)) m 0 (ctE w c)))) (cwV 1 hts gX7_fits_X7_well rfl rfl rfl (by decide +kernel) ⟨Nat.le_of_ble_eq_true rfl, Nat.le_of_ble_eq_true rfl⟩) hP hD hS hA hK [0] [1, 2, 3, 4, 5] rfl rfl (by decide) rfl (by decide) (by decide) 0 rfl rfl rfl rfl hl.1 rfl (Nat.le_of_ble_eq_true rfl) dX7_fits_198 ⟨Nat.zero_le _, Nat.zero_le _⟩ (fun r25 u26 H locs hr25 hP hD hS => ?_)
                      obtain ⟨rfl, rfl⟩ := hr25
                      have hP : va_P D vwCl [(nw, .inl (cy 0, 29, .inl f)), (tr, .inl (cy 0, 29, .inl ga)), (ml, .inl (cy 0, 8, .inl fl)), (mm, .inl (cy 0, 8, .inl fz)), (mit, .inl (cy 0, 320, .inl fi)), (m0, .inr (7, [.ref ml, .ref mm, .ref mit, .ref ms, .int (nI 0), .ref mt, .int (nI tn), .int (fk), .int (fp), .int (av), .int (sv), .int (ov), .int (vv), .ref nw, .ref dr, .ref tr, .ref pa, .int (nI ac), .ref ig, .ref kx, .ref be, .ref tc, .int (nI td)]))] H := hP
                      have hD : va_D A [(nw, .inl (cy 0, 29, .inl f)), (tr, .inl (cy 0, 29, .inl ga)), (ml, .inl (cy 0, 8, .inl fl)), (mm, .inl (cy 0, 8, .inl fz)), (mit, .inl (cy 0, 320, .inl fi)), (m0, .inr (7, [.ref ml, .ref mm, .ref mit, .ref ms, .int (nI 0), .ref mt, .int (nI tn), .int (fk), .int (fp), .int (av), .int (sv), .int (ov), .int (vv), .ref nw, .ref dr, .ref tr, .ref pa, .int (nI ac), .ref ig, .ref kx, .ref be, .ref tc, .int (nI td)]))] := hD
                      have hP9 := hP.sub (ws' := [(m0, .inr (7, [.ref ml, .ref mm, .ref mit, .ref ms, .int (nI 0), .ref mt, .int (nI tn), .int (fk), .int (fp), .int (av), .int (sv), .int (ov), .int (vv), .ref nw, .ref dr, .ref tr, .ref pa, .int (nI ac), .ref ig, .ref kx, .ref be, .ref tc, .int (nI td)])), (nw, .inl (cy 0, 29, .inl f)), (tr, .inl (cy 0, 29, .inl ga)), (ml, .inl (cy 0, 8, .inl fl)), (mm, .inl (cy 0, 8, .inl fz)), (mit, .inl (cy 0, 320, .inl fi))]) [5, 0, 1, 2, 3, 4] rfl
                      have hD9 := hD.sub (ws' := [(m0, .inr (7, [.ref ml, .ref mm, .ref mit, .ref ms, .int (nI 0), .ref mt, .int (nI tn), .int (fk), .int (fp), .int (av), .int (sv), .int (ov), .int (vv), .ref nw, .ref dr, .ref tr, .ref pa, .int (nI ac), .ref ig, .ref kx, .ref be, .ref tc, .int (nI td)])), (nw, .inl (cy 0, 29, .inl f)), (tr, .inl (cy 0, 29, .inl ga)), (ml, .inl (cy 0, 8, .inl fl)), (mm, .inl (cy 0, 8, .inl fz)), (mit, .inl (cy 0, 320, .inl fi))]) [5, 0, 1, 2, 3, 4] (by decide) rfl
                      exact q_wiret (v := nI (ftN w (8 + 4 * c) (fun d => itS k (i1 + d)) m 0 (ctE w c))) hx hb hr hlocks dX7_fits_201 hP9 hD9 hS (⟨_, _, by simp only [oFits, q_cl (by omega : c < 2147483648), q_cl (by omega : k < 2147483648), q_cl (by omega : m < 2147483648), q_cl (by omega : i1 < 2147483648), q_cl (by omega : 1 < 2147483648), if_pos b2, if_pos b4, if_pos b6, if_pos b8, if_neg b10, if_pos b14, if_neg (by decide : ¬ 1 = 0)], rfl⟩)
                    · refine lv_aload_n hx hb dX7_fits_152 rfl (lv_at hl 0 rfl) ?_
                      refine va_get (D := D) (ci := 7) (v := .ref tr) (C := RX7) (T := TX7) (N := 23) hx hb hts nX7_fits_0 hown hK.1 hP 0 rfl rfl 15 (by decide) (hts _ mX7_fits_2) (fun _ h9 => h9) rfl dX7_fits_153 ?_
                      refine lv_iload hx hb dX7_fits_156 (lv_at hl 6 rfl) ?_
                      refine lv_iload hx hb dX7_fits_158 (lv_at hl 9 rfl) ?_
                      refine q_iast (j := (5 + 4 * c + 3)) hx hb hK hP hD hS 2 rfl (by omega) (by decide) dX7_fits_160 (fun H locs hP hD hS => ?_)
                      have hP : va_P D vwCl [(m0, .inr (7, [.ref ml, .ref mm, .ref mit, .ref ms, .int (st), .ref mt, .int (nI tn), .int (fk), .int (fp), .int (av), .int (sv), .int (ov), .int (vv), .ref nw, .ref dr, .ref tr, .ref pa, .int (nI ac), .ref ig, .ref kx, .ref be, .ref tc, .int (nI td)])), (nw, .inl (cy 0, 29, .inl f)), (tr, .inl (cy 0, 29, .inl (upd ga (5 + 4 * c + 3) (nI v1)))), (ml, .inl (cy 0, 8, .inl fl)), (mm, .inl (cy 0, 8, .inl fz)), (mit, .inl (cy 0, 320, .inl fi))] H := hP
                      have hD : va_D A [(m0, .inr (7, [.ref ml, .ref mm, .ref mit, .ref ms, .int (st), .ref mt, .int (nI tn), .int (fk), .int (fp), .int (av), .int (sv), .int (ov), .int (vv), .ref nw, .ref dr, .ref tr, .ref pa, .int (nI ac), .ref ig, .ref kx, .ref be, .ref tc, .int (nI td)])), (nw, .inl (cy 0, 29, .inl f)), (tr, .inl (cy 0, 29, .inl (upd ga (5 + 4 * c + 3) (nI v1)))), (ml, .inl (cy 0, 8, .inl fl)), (mm, .inl (cy 0, 8, .inl fz)), (mit, .inl (cy 0, 320, .inl fi))] := hD
                      refine lv_iload hx hb dX7_fits_161 (lv_at hl 8 rfl) ?_
                      refine lv_aload_n hx hb dX7_fits_163 rfl (lv_at hl 0 rfl) ?_
                      refine lv_bipush (v := nI 40) hx hb dX7_fits_164 (by decide) ?_
                      refine lv_iload_n hx hb dX7_fits_166 rfl (lv_at hl 2 rfl) ?_
                      refine lv_imul hx hb dX7_fits_167 ?_
                      refine q_top (y := nI (40 * k)) (pk_mul _ _) ?_
                      refine lv_iload_n hx hb dX7_fits_168 rfl (lv_at hl 3 rfl) ?_
                      refine lv_iadd hx hb dX7_fits_169 ?_
                      refine q_top (y := nI ((40 * k) + i1)) (nI_add _ _) ?_
                      refine lv_iload hx hb dX7_fits_170 (lv_at hl 4 rfl) ?_
                      refine q_rV (As := [.int (nI ((40 * k) + i1)), .int (nI m)]) (rest := [.int (nI (ftN w (8 + 4 * c) (fun d => itS k (i1 + d)) m 0 v1))]) ⟨hx, hb, hml, hown, hts⟩ (c_X7_goesSo l D cy m0 ml mm mit ms mt nw dr tr pa ig kx be tc st fk fp av sv ov vv tn ac td (upd ga (5 + 4 * c + 3) (nI v1)) (ctSet w (8 + 4 * c) v1) (hf145_1 v1) (ctOk_O hv hc (by omega)) fi ((40 * k) + i1) m (by omega) (by omega)) (cwV 2 hts gX7_fits_X7_goesSo rfl rfl rfl (by decide +kernel) ⟨Nat.le_of_ble_eq_true rfl, Nat.le_of_ble_eq_true rfl⟩) hP hK [0, 2, 5] rfl 0 rfl rfl rfl rfl hl.1 rfl (Nat.le_of_ble_eq_true rfl) dX7_fits_172 ⟨Nat.zero_le _, Nat.zero_le _⟩ (fun r27 hr27 => ?_)
                      rw [goM hrm (by omega) (by omega)] at hr27
                      rcases hr27 with ⟨rfl, b28⟩ | ⟨rfl, b28⟩
                      · refine lv_if_eq (tgt := 185) hx hb dX7_fits_175 (by decide) (fun c9 => absurd c9 (by decide)) (fun _ => ?_)
                        refine lv_iconst (v := nI 1) hx hb dX7_fits_178 (by decide) ?_
                        have hpw := q_pw6 v1 (by omega)
                        refine lv_iload hx hb dX7_fits_179 (lv_at hl 9 rfl) ?_
                        refine lv_ishl hx hb dX7_fits_181 ?_
                        refine q_top (y := nI (1 * 2 ^ v1)) (q_shl (by omega) (by omega)) ?_
                        refine lv_goto (tgt := 186) hx hb dX7_fits_182 (by decide) ?_
                        refine lv_ior hx hb dX7_fits_186 ?_
                        refine q_top (y := nI ((ftN w (8 + 4 * c) (fun d => itS k (i1 + d)) m 0 v1) ||| (1 * 2 ^ v1))) (q_or _ _) ?_
                        refine lv_istore (lv' := [(9, .int (nI ((ftN w (8 + 4 * c) (fun d => itS k (i1 + d)) m 0 v1) ||| (1 * 2 ^ v1)))), (0, .ref m0), (1, .int (nI c)), (2, .int (nI k)), (3, .int (nI i1)), (4, .int (nI m)), (5, .int (nI 1)), (6, .int (nI (5 + 4 * c + 3))), (8, .int (nI ((ctE w c) - 1))), (10, .int (nI v1))]) hx hb dX7_fits_187 hl (by decide) rfl (fun ls hl => ?_)
                        refine lv_iinc (v := nI (v1 + 1)) (lv' := [(10, .int (nI (v1 + 1))), (9, .int (nI ((ftN w (8 + 4 * c) (fun d => itS k (i1 + d)) m 0 v1) ||| (1 * 2 ^ v1)))), (0, .ref m0), (1, .int (nI c)), (2, .int (nI k)), (3, .int (nI i1)), (4, .int (nI m)), (5, .int (nI 1)), (6, .int (nI (5 + 4 * c + 3))), (8, .int (nI ((ctE w c) - 1)))]) hx hb dX7_fits_189 hl (k := 9) rfl (q_inc v1 1) (by decide) rfl (fun ls hl => ?_)
                        refine lv_goto (tgt := 145) hx hb dX7_fits_192 (by decide) ?_
                        exact ih145 (v1 + 1) (by omega) (by omega) (upd ga (5 + 4 * c + 3) (nI v1)) (by omega) (fun vz => by rw [upd2]; exact hf145_1 vz) H locs hP hD hS ls (q_lset (lv_sub (l' := [(0, .ref m0), (1, .int (nI c)), (2, .int (nI k)), (3, .int (nI i1)), (4, .int (nI m)), (5, .int (nI 1)), (6, .int (nI (5 + 4 * c + 3))), (8, .int (nI ((ctE w c) - 1))), (9, .int (nI ((ftN w (8 + 4 * c) (fun d => itS k (i1 + d)) m 0 v1) ||| (1 * 2 ^ v1)))), (10, .int (nI (v1 + 1)))]) hl [2, 3, 4, 5, 6, 7, 8, 9, 1, 0] rfl) (q_c1 (f := fun z9 => ([(0, .ref m0), (1, .int (nI c)), (2, .int (nI k)), (3, .int (nI i1)), (4, .int (nI m)), (5, .int (nI 1)), (6, .int (nI (5 + 4 * c + 3))), (8, .int (nI ((ctE w c) - 1))), (9, .int (z9)), (10, .int (nI (v1 + 1)))] : List (Nat × Value))) (show (nI ((ftN w (8 + 4 * c) (fun d => itS k (i1 + d)) m 0 v1) ||| (1 * 2 ^ v1)) : Int32) = nI (ftN w (8 + 4 * c) (fun d => itS k (i1 + d)) m 0 (v1 + 1)) from (congrArg nI (ftN_y hf145_0 b28)).symm)))
                      · refine lv_if_eq (tgt := 185) hx hb dX7_fits_175 (by decide) (fun _ => ?_) (fun c9 => absurd (by decide) c9)
                        refine lv_iconst (v := nI 0) hx hb dX7_fits_185 (by decide) ?_
                        refine lv_ior hx hb dX7_fits_186 ?_
                        refine q_top (y := nI ((ftN w (8 + 4 * c) (fun d => itS k (i1 + d)) m 0 v1) ||| 0)) (q_or _ _) ?_
                        refine lv_istore (lv' := [(9, .int (nI ((ftN w (8 + 4 * c) (fun d => itS k (i1 + d)) m 0 v1) ||| 0))), (0, .ref m0), (1, .int (nI c)), (2, .int (nI k)), (3, .int (nI i1)), (4, .int (nI m)), (5, .int (nI 1)), (6, .int (nI (5 + 4 * c + 3))), (8, .int (nI ((ctE w c) - 1))), (10, .int (nI v1))]) hx hb dX7_fits_187 hl (by decide) rfl (fun ls hl => ?_)
                        refine lv_iinc (v := nI (v1 + 1)) (lv' := [(10, .int (nI (v1 + 1))), (9, .int (nI ((ftN w (8 + 4 * c) (fun d => itS k (i1 + d)) m 0 v1) ||| 0))), (0, .ref m0), (1, .int (nI c)), (2, .int (nI k)), (3, .int (nI i1)), (4, .int (nI m)), (5, .int (nI 1)), (6, .int (nI (5 + 4 * c + 3))), (8, .int (nI ((ctE w c) - 1)))]) hx hb dX7_fits_189 hl (k := 9) rfl (q_inc v1 1) (by decide) rfl (fun ls hl => ?_)
                        refine lv_goto (tgt := 145) hx hb dX7_fits_192 (by decide) ?_
                        exact ih145 (v1 + 1) (by omega) (by omega) (upd ga (5 + 4 * c + 3) (nI v1)) (by omega) (fun vz => by rw [upd2]; exact hf145_1 vz) H locs hP hD hS ls (q_lset (lv_sub (l' := [(0, .ref m0), (1, .int (nI c)), (2, .int (nI k)), (3, .int (nI i1)), (4, .int (nI m)), (5, .int (nI 1)), (6, .int (nI (5 + 4 * c + 3))), (8, .int (nI ((ctE w c) - 1))), (9, .int (nI ((ftN w (8 + 4 * c) (fun d => itS k (i1 + d)) m 0 v1) ||| 0))), (10, .int (nI (v1 + 1)))]) hl [2, 3, 4, 5, 6, 7, 8, 9, 1, 0] rfl) (q_c1 (f := fun z9 => ([(0, .ref m0), (1, .int (nI c)), (2, .int (nI k)), (3, .int (nI i1)), (4, .int (nI m)), (5, .int (nI 1)), (6, .int (nI (5 + 4 * c + 3))), (8, .int (nI ((ctE w c) - 1))), (9, .int (z9)), (10, .int (nI (v1 + 1)))] : List (Nat × Value))) (show (nI ((ftN w (8 + 4 * c) (fun d => itS k (i1 + d)) m 0 v1) ||| 0) : Int32) = nI (ftN w (8 + 4 * c) (fun d => itS k (i1 + d)) m 0 (v1 + 1)) from (congrArg nI ((ftN_n b28).trans (Nat.or_zero _).symm)).symm)))
                have hP := hP.sub (ws' := [(m0, .inr (7, [.ref ml, .ref mm, .ref mit, .ref ms, .int (st), .ref mt, .int (nI tn), .int (fk), .int (fp), .int (av), .int (sv), .int (ov), .int (vv), .ref nw, .ref dr, .ref tr, .ref pa, .int (nI ac), .ref ig, .ref kx, .ref be, .ref tc, .int (nI td)])), (nw, .inl (cy 0, 29, .inl f)), (tr, .inl (cy 0, 29, .inl (va_cpy f gt 0 0 29))), (ml, .inl (cy 0, 8, .inl fl)), (mm, .inl (cy 0, 8, .inl fz)), (mit, .inl (cy 0, 320, .inl fi))]) [0, 4, 5, 1, 2, 3] rfl
                have hD := hD.sub (ws' := [(m0, .inr (7, [.ref ml, .ref mm, .ref mit, .ref ms, .int (st), .ref mt, .int (nI tn), .int (fk), .int (fp), .int (av), .int (sv), .int (ov), .int (vv), .ref nw, .ref dr, .ref tr, .ref pa, .int (nI ac), .ref ig, .ref kx, .ref be, .ref tc, .int (nI td)])), (nw, .inl (cy 0, 29, .inl f)), (tr, .inl (cy 0, 29, .inl (va_cpy f gt 0 0 29))), (ml, .inl (cy 0, 8, .inl fl)), (mm, .inl (cy 0, 8, .inl fz)), (mit, .inl (cy 0, 320, .inl fi))]) [0, 4, 5, 1, 2, 3] (by decide) rfl
                exact L145_219 ((ctE w c) + 1) 0 (by omega) (by omega) (va_cpy f gt 0 0 29) (Nat.le_refl _) (fun _ => mwIs_set hmt (by omega) (by omega)) H locs hP hD hS ls (q_lset (lv_sub (l' := [(0, .ref m0), (1, .int (nI c)), (2, .int (nI k)), (3, .int (nI i1)), (4, .int (nI m)), (5, .int (nI 1)), (6, .int (nI ((5 + (4 * c)) + 3))), (8, .int (nI ((ctE w c) - 1))), (9, .int (nI 0)), (10, .int (nI 0))]) hl [5, 6, 7, 8, 9, 10, 4, 2, 1, 0] rfl) (q_c2 (f := fun z6 z9 => ([(0, .ref m0), (1, .int (nI c)), (2, .int (nI k)), (3, .int (nI i1)), (4, .int (nI m)), (5, .int (nI 1)), (6, .int (z6)), (8, .int (nI ((ctE w c) - 1))), (9, .int (z9)), (10, .int (nI 0))] : List (Nat × Value))) (show (nI ((5 + (4 * c)) + 3) : Int32) = nI (5 + 4 * c + 3) from rfl) (show (nI 0 : Int32) = nI (ftN w (8 + 4 * c) (fun d => itS k (i1 + d)) m 0 0) from rfl)))
            · have _ := b14
              refine lv_if_ne (tgt := 70) hx hb dX7_fits_61 (by decide) (fun c9 => absurd (by decide) c9) (fun _ => ?_)
              refine lv_aload_n hx hb dX7_fits_64 rfl (lv_at hl 0 rfl) ?_
              refine lv_iconst (v := nI 2) hx hb dX7_fits_65 (by decide) ?_
              refine q_wiV (As := [.int (nI 2)]) (rest := []) (wr := [(nw, .inl (cy 0, 29, .inl f)), (tr, .inl (cy 0, 29, .inl gt)), (ml, .inl (cy 0, 8, .inl fl)), (mm, .inl (cy 0, 8, .inl fz)), (mit, .inl (cy 0, 320, .inl fi))]) ⟨hx, hb, hml, hown, hts⟩ (c_X7_found l D cy m0 ml mm mit ms mt nw dr tr pa ig kx be tc st fk fp av sv ov vv tn ac td (nI 2)) (cwV 1 hts gX7_fits_X7_found rfl rfl rfl (by decide +kernel) ⟨Nat.le_of_ble_eq_true rfl, Nat.le_of_ble_eq_true rfl⟩) hP hD hS hA hK [0] [1, 2, 3, 4, 5] rfl rfl (by decide) rfl (by decide) (by decide) 0 rfl rfl rfl rfl hl.1 rfl (Nat.le_of_ble_eq_true rfl) dX7_fits_66 ⟨Nat.zero_le _, Nat.zero_le _⟩ (fun r29 u30 H locs hr29 hP hD hS => ?_)
              obtain ⟨rfl, rfl⟩ := hr29
              have hP : va_P D vwCl [(nw, .inl (cy 0, 29, .inl f)), (tr, .inl (cy 0, 29, .inl gt)), (ml, .inl (cy 0, 8, .inl fl)), (mm, .inl (cy 0, 8, .inl fz)), (mit, .inl (cy 0, 320, .inl fi)), (m0, .inr (7, [.ref ml, .ref mm, .ref mit, .ref ms, .int (nI 2), .ref mt, .int (nI tn), .int (fk), .int (fp), .int (av), .int (sv), .int (ov), .int (vv), .ref nw, .ref dr, .ref tr, .ref pa, .int (nI ac), .ref ig, .ref kx, .ref be, .ref tc, .int (nI td)]))] H := hP
              have hD : va_D A [(nw, .inl (cy 0, 29, .inl f)), (tr, .inl (cy 0, 29, .inl gt)), (ml, .inl (cy 0, 8, .inl fl)), (mm, .inl (cy 0, 8, .inl fz)), (mit, .inl (cy 0, 320, .inl fi)), (m0, .inr (7, [.ref ml, .ref mm, .ref mit, .ref ms, .int (nI 2), .ref mt, .int (nI tn), .int (fk), .int (fp), .int (av), .int (sv), .int (ov), .int (vv), .ref nw, .ref dr, .ref tr, .ref pa, .int (nI ac), .ref ig, .ref kx, .ref be, .ref tc, .int (nI td)]))] := hD
              refine q_top (y := (-1000012)) (by decide) ?_
              have hP9 := hP.sub (ws' := [(m0, .inr (7, [.ref ml, .ref mm, .ref mit, .ref ms, .int (nI 2), .ref mt, .int (nI tn), .int (fk), .int (fp), .int (av), .int (sv), .int (ov), .int (vv), .ref nw, .ref dr, .ref tr, .ref pa, .int (nI ac), .ref ig, .ref kx, .ref be, .ref tc, .int (nI td)])), (nw, .inl (cy 0, 29, .inl f)), (tr, .inl (cy 0, 29, .inl gt)), (ml, .inl (cy 0, 8, .inl fl)), (mm, .inl (cy 0, 8, .inl fz)), (mit, .inl (cy 0, 320, .inl fi))]) [5, 0, 1, 2, 3, 4] rfl
              have hD9 := hD.sub (ws' := [(m0, .inr (7, [.ref ml, .ref mm, .ref mit, .ref ms, .int (nI 2), .ref mt, .int (nI tn), .int (fk), .int (fp), .int (av), .int (sv), .int (ov), .int (vv), .ref nw, .ref dr, .ref tr, .ref pa, .int (nI ac), .ref ig, .ref kx, .ref be, .ref tc, .int (nI td)])), (nw, .inl (cy 0, 29, .inl f)), (tr, .inl (cy 0, 29, .inl gt)), (ml, .inl (cy 0, 8, .inl fl)), (mm, .inl (cy 0, 8, .inl fz)), (mit, .inl (cy 0, 320, .inl fi))]) [5, 0, 1, 2, 3, 4] (by decide) rfl
              exact q_wiret (v := (-1000012)) hx hb hr hlocks dX7_fits_69 hP9 hD9 hS (⟨_, _, by simp only [oFits, q_cl (by omega : c < 2147483648), q_cl (by omega : k < 2147483648), q_cl (by omega : m < 2147483648), if_pos b2, if_pos b4, if_pos b6, if_pos b8, if_neg b10, if_neg b14], rfl⟩)
        · have _ := b8
          refine lv_if_ne (tgt := 39) hx hb dX7_fits_33 (by decide) (fun c9 => absurd (by decide) c9) (fun _ => ?_)
          refine lv_ldc (v := (-1000001)) hx hb hown (hts _ mX7_fits_3) dX7_fits_36 ?_
          have hP9 := hP
          have hD9 := hD
          exact q_wiret (v := (-1000001)) hx hb hr hlocks dX7_fits_38 hP9 hD9 hS (⟨_, _, by simp only [oFits, q_cl (by omega : c < 2147483648), if_pos b2, if_pos b4, if_pos b6, if_neg b8], rfl⟩)
      · have _ := b6
        refine lv_if_eq (tgt := 36) hx hb dX7_fits_23 (by decide) (fun _ => ?_) (fun c9 => absurd (by decide) c9)
        refine lv_ldc (v := (-1000001)) hx hb hown (hts _ mX7_fits_3) dX7_fits_36 ?_
        have hP9 := hP
        have hD9 := hD
        exact q_wiret (v := (-1000001)) hx hb hr hlocks dX7_fits_38 hP9 hD9 hS (⟨_, _, by simp only [oFits, q_cl (by omega : c < 2147483648), if_pos b2, if_pos b4, if_neg b6], rfl⟩)
    · have _ := b4
      refine lv_if_eq (tgt := 36) hx hb dX7_fits_12 (by decide) (fun _ => ?_) (fun c9 => absurd (by decide) c9)
      refine lv_ldc (v := (-1000001)) hx hb hown (hts _ mX7_fits_3) dX7_fits_36 ?_
      have hP9 := hP
      have hD9 := hD
      exact q_wiret (v := (-1000001)) hx hb hr hlocks dX7_fits_38 hP9 hD9 hS (⟨_, _, by simp only [oFits, q_cl (by omega : c < 2147483648), if_pos b2, if_neg b4], rfl⟩)
  · have _ := b2
    refine lv_if_eq (tgt := 36) hx hb dX7_fits_5 (by decide) (fun _ => ?_) (fun c9 => absurd (by decide) c9)
    refine lv_ldc (v := (-1000001)) hx hb hown (hts _ mX7_fits_3) dX7_fits_36 ?_
    have hP9 := hP
    have hD9 := hD
    exact q_wiret (v := (-1000001)) hx hb hr hlocks dX7_fits_38 hP9 hD9 hS (⟨_, _, by simp only [oFits, if_neg b2], rfl⟩)
theorem nX7_begins_0 : ∀ w ∈ wsX70, w ∈ wsX7_begins := by decide +kernel
theorem mX7_begins_1 : Cond.fieldLink RX7 205 "ClueLeaveModel" "traced" "I" ∈ wsX7_begins := by decide +kernel
theorem mX7_begins_2 : Cond.fieldLink RX7 47 "ClueLeaveModel" "trace" "[I" ∈ wsX7_begins := by decide +kernel
set_option maxHeartbeats 4000000 in
set_option maxRecDepth 100000 in
theorem c_X7_begins (l : Launch) (D : va_G) (cy : Nat → ClassId) (m0 ml mm mit ms mt nw dr tr pa ig kx be tc : Nat) (st fk fp av sv ov vv : Int32) (tn ac td : Nat) (tf : Nat → Int32) (htd : td < 16) (b : Int32) : q_Wv l yX7_begins wsX7_begins 1 D cy [(m0, .inr (7, [.ref ml, .ref mm, .ref mit, .ref ms, .int (st), .ref mt, .int (nI tn), .int (fk), .int (fp), .int (av), .int (sv), .int (ov), .int (vv), .ref nw, .ref dr, .ref tr, .ref pa, .int (nI ac), .ref ig, .ref kx, .ref be, .ref tc, .int (nI td)])), (tc, .inl (cy 0, 16, .inl tf))] [.ref m0, .int (b)] (fun u => u = [(m0, .inr (7, [.ref ml, .ref mm, .ref mit, .ref ms, .int (st), .ref mt, .int (nI tn), .int (fk), .int (fp), .int (av), .int (sv), .int (ov), .int (vv), .ref nw, .ref dr, .ref tr, .ref pa, .int (nI ac), .ref ig, .ref kx, .ref be, .ref tc, .int (nI (td + 1))])), (tc, .inl (cy 0, 16, .inl (upd tf td b)))]) := by
  refine q_wv_of (cc := cX7_begins) (maxL := 2) (ret := none) (by decide) rfl (Nat.le_of_ble_eq_true rfl) ?_
  intro pg en s mi args below meth cd A hC hA hK H locs hP hD hS ls hl
  obtain ⟨hx, hb, hr, hml, hown, hts, hlocks⟩ := hC
  have hl : lv_has ls 2 [(0, .ref m0), (1, .int (b))] := hl
  refine lv_aload_n hx hb dX7_begins_0 rfl (lv_at hl 0 rfl) ?_
  refine va_get (D := D) (ci := 7) (v := .int (nI td)) (C := RX7) (T := TX7) (N := 23) hx hb hts nX7_begins_0 hown hK.1 hP 0 rfl rfl 22 (by decide) (hts _ mX7_begins_1) (fun _ h9 => h9) rfl dX7_begins_1 ?_
  refine lv_bipush (v := nI 16) hx hb dX7_begins_4 (by decide) ?_
  refine q_icmp_ge (tgt := 29) hx hb dX7_begins_6 (by decide) (by omega) (by decide) (fun c1 => absurd c1 (by omega)) (fun c1 => ?_)
  refine lv_aload_n hx hb dX7_begins_9 rfl (lv_at hl 0 rfl) ?_
  refine va_get (D := D) (ci := 7) (v := .ref tc) (C := RX7) (T := TX7) (N := 23) hx hb hts nX7_begins_0 hown hK.1 hP 0 rfl rfl 21 (by decide) (hts _ mX7_begins_2) (fun _ h9 => h9) rfl dX7_begins_10 ?_
  refine lv_aload_n hx hb dX7_begins_13 rfl (lv_at hl 0 rfl) ?_
  refine va_get (D := D) (ci := 7) (v := .int (nI td)) (C := RX7) (T := TX7) (N := 23) hx hb hts nX7_begins_0 hown hK.1 hP 0 rfl rfl 22 (by decide) (hts _ mX7_begins_1) (fun _ h9 => h9) rfl dX7_begins_14 ?_
  refine lv_iload_n hx hb dX7_begins_17 rfl (lv_at hl 1 rfl) ?_
  refine q_iast (j := td) hx hb hK hP hD hS 1 rfl (by omega) (by decide) dX7_begins_18 (fun H locs hP hD hS => ?_)
  have hP : va_P D vwCl [(m0, .inr (7, [.ref ml, .ref mm, .ref mit, .ref ms, .int (st), .ref mt, .int (nI tn), .int (fk), .int (fp), .int (av), .int (sv), .int (ov), .int (vv), .ref nw, .ref dr, .ref tr, .ref pa, .int (nI ac), .ref ig, .ref kx, .ref be, .ref tc, .int (nI td)])), (tc, .inl (cy 0, 16, .inl (upd tf td b)))] H := hP
  have hD : va_D A [(m0, .inr (7, [.ref ml, .ref mm, .ref mit, .ref ms, .int (st), .ref mt, .int (nI tn), .int (fk), .int (fp), .int (av), .int (sv), .int (ov), .int (vv), .ref nw, .ref dr, .ref tr, .ref pa, .int (nI ac), .ref ig, .ref kx, .ref be, .ref tc, .int (nI td)])), (tc, .inl (cy 0, 16, .inl (upd tf td b)))] := hD
  refine lv_aload_n hx hb dX7_begins_19 rfl (lv_at hl 0 rfl) ?_
  refine lv_dup hx hb dX7_begins_20 rfl ?_
  refine va_get (D := D) (ci := 7) (v := .int (nI td)) (C := RX7) (T := TX7) (N := 23) hx hb hts nX7_begins_0 hown hK.1 hP 0 rfl rfl 22 (by decide) (hts _ mX7_begins_1) (fun _ h9 => h9) rfl dX7_begins_21 ?_
  refine lv_iconst (v := nI 1) hx hb dX7_begins_24 (by decide) ?_
  refine lv_iadd hx hb dX7_begins_25 ?_
  refine q_top (y := nI (td + 1)) (nI_add _ _) ?_
  refine va_put (D := D) (ci := 7) (v := .int (nI (td + 1))) (ty := .int) (C := RX7) (T := TX7) (N := 23) hx hb hts nX7_begins_0 tyX7 tyX7_ok nmX7 hown hK.1 hP hD hS 0 rfl rfl 22 (by decide) (hts _ mX7_begins_1) (fun _ h9 => h9) rfl (by decide +kernel) rfl rfl (Nat.le_of_ble_eq_true rfl) dX7_begins_26 (fun H locs hP hD hS => ?_)
  have hP : va_P D vwCl [(m0, .inr (7, [.ref ml, .ref mm, .ref mit, .ref ms, .int (st), .ref mt, .int (nI tn), .int (fk), .int (fp), .int (av), .int (sv), .int (ov), .int (vv), .ref nw, .ref dr, .ref tr, .ref pa, .int (nI ac), .ref ig, .ref kx, .ref be, .ref tc, .int (nI (td + 1))])), (tc, .inl (cy 0, 16, .inl (upd tf td b)))] H := hP
  have hD : va_D A [(m0, .inr (7, [.ref ml, .ref mm, .ref mit, .ref ms, .int (st), .ref mt, .int (nI tn), .int (fk), .int (fp), .int (av), .int (sv), .int (ov), .int (vv), .ref nw, .ref dr, .ref tr, .ref pa, .int (nI ac), .ref ig, .ref kx, .ref be, .ref tc, .int (nI (td + 1))])), (tc, .inl (cy 0, 16, .inl (upd tf td b)))] := hD
  have hP9 := hP
  have hD9 := hD
  exact q_wvret hx hb hr hlocks dX7_begins_29 hP9 hD9 hS (rfl)
theorem nX7_threadMark_1_0 : ∀ w ∈ wsX70, w ∈ wsX7_threadMark := by decide +kernel
theorem mX7_threadMark_1_1 : Cond.fieldLink RX7 25 "ClueLeaveModel" "now" "[I" ∈ wsX7_threadMark := by decide +kernel
set_option maxHeartbeats 4000000 in
set_option maxRecDepth 100000 in
theorem c_X7_threadMark_1 (l : Launch) (D : va_G) (cy : Nat → ClassId) (m0 ml mm mit ms mt nw dr tr pa ig kx be tc : Nat) (st fk fp av sv ov vv : Int32) (tn ac td : Nat) (f : Nat → Int32) (w : Nat → Nat) (hm : mwIs w f) (hv : ctOk w) (tf : Nat → Int32) (htd : td + 2 ≤ 16) (c : Nat) (hc : c < w 4) (hkd : ctK w c = 1) : q_Wi l yX7_threadMark wsX7_threadMark 2 D cy [(m0, .inr (7, [.ref ml, .ref mm, .ref mit, .ref ms, .int (st), .ref mt, .int (nI tn), .int (fk), .int (fp), .int (av), .int (sv), .int (ov), .int (vv), .ref nw, .ref dr, .ref tr, .ref pa, .int (nI ac), .ref ig, .ref kx, .ref be, .ref tc, .int (nI td)])), (nw, .inl (cy 0, 29, .inl f)), (tc, .inl (cy 0, 16, .inl tf))] [.ref m0, .int (nI c)] (fun r u => r = nI (c + ctO w c) ∧ u = [(m0, .inr (7, [.ref ml, .ref mm, .ref mit, .ref ms, .int (st), .ref mt, .int (nI tn), .int (fk), .int (fp), .int (av), .int (sv), .int (ov), .int (vv), .ref nw, .ref dr, .ref tr, .ref pa, .int (nI ac), .ref ig, .ref kx, .ref be, .ref tc, .int (nI (td + 2))])), (nw, .inl (cy 0, 29, .inl f)), (tc, .inl (cy 0, 16, .inl (trP tf td [21, 20])))]) := by
  refine q_wi_of (cc := cX7_threadMark) (maxL := 4) (ret := (some .int)) (by decide) rfl (Nat.le_of_ble_eq_true rfl) ?_
  intro pg en s mi args below meth cd A hC hA hK H locs hP hD hS ls hl
  obtain ⟨hx, hb, hr, hml, hown, hts, hlocks⟩ := hC
  have hl : lv_has ls 4 [(0, .ref m0), (1, .int (nI c))] := hl
  obtain ⟨hv0, hv1, hv2, hv3, hv4, hvc⟩ := id hv
  obtain ⟨hk1, hk5, ht1, ht2, he2, he4, ho1⟩ := hvc c hc
  refine lv_aload_n hx hb dX7_threadMark_0 rfl (lv_at hl 0 rfl) ?_
  refine lv_iload_n hx hb dX7_threadMark_1 rfl (lv_at hl 1 rfl) ?_
  refine q_rV (As := [.int (nI c)]) (rest := []) ⟨hx, hb, hml, hown, hts⟩ (c_X7_kindIn l D cy m0 ml mm mit ms mt nw dr tr pa ig kx be tc st fk fp av sv ov vv tn ac td f w hm hv c (by omega)) (cwV 1 hts gX7_threadMark_X7_kindIn rfl rfl rfl (by decide +kernel) ⟨Nat.le_of_ble_eq_true rfl, Nat.le_of_ble_eq_true rfl⟩) hP hK [0, 1] rfl 0 rfl rfl rfl rfl hl.1 rfl (Nat.le_of_ble_eq_true rfl) dX7_threadMark_2 ⟨Nat.zero_le _, Nat.zero_le _⟩ (fun r1 hr1 => ?_)
  obtain rfl := hr1
  refine q_top (y := nI 1) (by rw [hkd]) ?_
  refine lv_istore_n (lv' := [(2, .int (nI 1)), (0, .ref m0), (1, .int (nI c))]) hx hb dX7_threadMark_5 rfl hl (by decide) rfl (fun ls hl => ?_)
  refine lv_iload_n hx hb dX7_threadMark_6 rfl (lv_at hl 0 rfl) ?_
  refine lv_iconst (v := nI 1) hx hb dX7_threadMark_7 (by decide) ?_
  refine lv_icmp_eq (tgt := 27) hx hb dX7_threadMark_8 (by decide) (fun _ => ?_) (fun c9 => absurd (by decide) c9)
  refine lv_aload_n hx hb dX7_threadMark_27 rfl (lv_at hl 1 rfl) ?_
  refine lv_bipush (v := nI 21) hx hb dX7_threadMark_28 (by decide) ?_
  refine q_wvV (As := [.int (nI 21)]) (rest := []) (wr := [(nw, .inl (cy 0, 29, .inl f))]) ⟨hx, hb, hml, hown, hts⟩ (c_X7_begins l D cy m0 ml mm mit ms mt nw dr tr pa ig kx be tc st fk fp av sv ov vv tn ac td tf (by omega) (nI 21)) (cwV 1 hts gX7_threadMark_X7_begins rfl rfl rfl (by decide +kernel) ⟨Nat.le_of_ble_eq_true rfl, Nat.le_of_ble_eq_true rfl⟩) hP hD hS hA hK [0, 2] [1] rfl rfl (by decide) rfl (by decide) (by decide) 0 rfl rfl rfl rfl hl.1 rfl (Nat.le_of_ble_eq_true rfl) dX7_threadMark_30 ⟨Nat.zero_le _, Nat.zero_le _⟩ (fun u3 H locs hr2 hP hD hS => ?_)
  obtain rfl := hr2
  have hP : va_P D vwCl [(nw, .inl (cy 0, 29, .inl f)), (m0, .inr (7, [.ref ml, .ref mm, .ref mit, .ref ms, .int (st), .ref mt, .int (nI tn), .int (fk), .int (fp), .int (av), .int (sv), .int (ov), .int (vv), .ref nw, .ref dr, .ref tr, .ref pa, .int (nI ac), .ref ig, .ref kx, .ref be, .ref tc, .int (nI (td + 1))])), (tc, .inl (cy 0, 16, .inl (upd tf td (nI 21))))] H := hP
  have hD : va_D A [(nw, .inl (cy 0, 29, .inl f)), (m0, .inr (7, [.ref ml, .ref mm, .ref mit, .ref ms, .int (st), .ref mt, .int (nI tn), .int (fk), .int (fp), .int (av), .int (sv), .int (ov), .int (vv), .ref nw, .ref dr, .ref tr, .ref pa, .int (nI ac), .ref ig, .ref kx, .ref be, .ref tc, .int (nI (td + 1))])), (tc, .inl (cy 0, 16, .inl (upd tf td (nI 21))))] := hD
  refine lv_aload_n hx hb dX7_threadMark_33 rfl (lv_at hl 1 rfl) ?_
  refine lv_bipush (v := nI 20) hx hb dX7_threadMark_34 (by decide) ?_
  refine q_wvV (As := [.int (nI 20)]) (rest := []) (wr := [(nw, .inl (cy 0, 29, .inl f))]) ⟨hx, hb, hml, hown, hts⟩ (c_X7_begins l D cy m0 ml mm mit ms mt nw dr tr pa ig kx be tc st fk fp av sv ov vv tn ac (td + 1) (upd tf td (nI 21)) (by omega) (nI 20)) (cwV 1 hts gX7_threadMark_X7_begins rfl rfl rfl (by decide +kernel) ⟨Nat.le_of_ble_eq_true rfl, Nat.le_of_ble_eq_true rfl⟩) hP hD hS hA hK [1, 2] [0] rfl rfl (by decide) rfl (by decide) (by decide) 1 rfl rfl rfl rfl hl.1 rfl (Nat.le_of_ble_eq_true rfl) dX7_threadMark_36 ⟨Nat.zero_le _, Nat.zero_le _⟩ (fun u5 H locs hr4 hP hD hS => ?_)
  obtain rfl := hr4
  have hP : va_P D vwCl [(nw, .inl (cy 0, 29, .inl f)), (m0, .inr (7, [.ref ml, .ref mm, .ref mit, .ref ms, .int (st), .ref mt, .int (nI tn), .int (fk), .int (fp), .int (av), .int (sv), .int (ov), .int (vv), .ref nw, .ref dr, .ref tr, .ref pa, .int (nI ac), .ref ig, .ref kx, .ref be, .ref tc, .int (nI ((td + 1) + 1))])), (tc, .inl (cy 0, 16, .inl (upd (upd tf td (nI 21)) (td + 1) (nI 20))))] H := hP
  have hD : va_D A [(nw, .inl (cy 0, 29, .inl f)), (m0, .inr (7, [.ref ml, .ref mm, .ref mit, .ref ms, .int (st), .ref mt, .int (nI tn), .int (fk), .int (fp), .int (av), .int (sv), .int (ov), .int (vv), .ref nw, .ref dr, .ref tr, .ref pa, .int (nI ac), .ref ig, .ref kx, .ref be, .ref tc, .int (nI ((td + 1) + 1))])), (tc, .inl (cy 0, 16, .inl (upd (upd tf td (nI 21)) (td + 1) (nI 20))))] := hD
  refine lv_iload_n hx hb dX7_threadMark_39 rfl (lv_at hl 2 rfl) ?_
  refine lv_aload_n hx hb dX7_threadMark_40 rfl (lv_at hl 1 rfl) ?_
  refine va_get (D := D) (ci := 7) (v := .ref nw) (C := RX7) (T := TX7) (N := 23) hx hb hts nX7_threadMark_1_0 hown hK.1 hP 1 rfl rfl 13 (by decide) (hts _ mX7_threadMark_1_1) (fun _ h9 => h9) rfl dX7_threadMark_41 ?_
  refine lv_iconst (v := nI 5) hx hb dX7_threadMark_44 (by decide) ?_
  refine lv_iconst (v := nI 4) hx hb dX7_threadMark_45 (by decide) ?_
  refine lv_iload_n hx hb dX7_threadMark_46 rfl (lv_at hl 2 rfl) ?_
  refine lv_imul hx hb dX7_threadMark_47 ?_
  refine q_top (y := nI (4 * c)) (pk_mul _ _) ?_
  refine lv_iadd hx hb dX7_threadMark_48 ?_
  refine q_top (y := nI (5 + (4 * c))) (nI_add _ _) ?_
  refine lv_iconst (v := nI 3) hx hb dX7_threadMark_49 (by decide) ?_
  refine lv_iadd hx hb dX7_threadMark_50 ?_
  refine q_top (y := nI ((5 + (4 * c)) + 3)) (nI_add _ _) ?_
  refine q_iald (j := ((5 + (4 * c)) + 3)) (v := nI (w ((5 + (4 * c)) + 3))) hx hb hK hP 0 rfl (by omega) (by decide) (hm _ (by omega)) dX7_threadMark_51 ?_
  refine q_top (y := nI (ctO w c)) (congrArg nI (ctO_e w c)) ?_
  refine lv_iadd hx hb dX7_threadMark_52 ?_
  refine q_top (y := nI (c + (ctO w c))) (nI_add _ _) ?_
  refine lv_istore_n (lv' := [(3, .int (nI (c + (ctO w c)))), (2, .int (nI 1)), (0, .ref m0), (1, .int (nI c))]) hx hb dX7_threadMark_53 rfl hl (by decide) rfl (fun ls hl => ?_)
  refine lv_iload_n hx hb dX7_threadMark_54 rfl (lv_at hl 1 rfl) ?_
  refine lv_iconst (v := nI 2) hx hb dX7_threadMark_55 (by decide) ?_
  refine lv_icmp_ne (tgt := 65) hx hb dX7_threadMark_56 (by decide) (fun _ => ?_) (fun c9 => absurd c9 (by decide))
  refine lv_iload_n hx hb dX7_threadMark_65 rfl (lv_at hl 1 rfl) ?_
  refine lv_iconst (v := nI 3) hx hb dX7_threadMark_66 (by decide) ?_
  refine lv_icmp_ne (tgt := 78) hx hb dX7_threadMark_67 (by decide) (fun _ => ?_) (fun c9 => absurd c9 (by decide))
  refine lv_iload_n hx hb dX7_threadMark_78 rfl (lv_at hl 0 rfl) ?_
  have hP9 := hP.sub (ws' := [(m0, .inr (7, [.ref ml, .ref mm, .ref mit, .ref ms, .int (st), .ref mt, .int (nI tn), .int (fk), .int (fp), .int (av), .int (sv), .int (ov), .int (vv), .ref nw, .ref dr, .ref tr, .ref pa, .int (nI ac), .ref ig, .ref kx, .ref be, .ref tc, .int (nI ((td + 1) + 1))])), (nw, .inl (cy 0, 29, .inl f)), (tc, .inl (cy 0, 16, .inl (upd (upd tf td (nI 21)) (td + 1) (nI 20))))]) [1, 0, 2] rfl
  have hD9 := hD.sub (ws' := [(m0, .inr (7, [.ref ml, .ref mm, .ref mit, .ref ms, .int (st), .ref mt, .int (nI tn), .int (fk), .int (fp), .int (av), .int (sv), .int (ov), .int (vv), .ref nw, .ref dr, .ref tr, .ref pa, .int (nI ac), .ref ig, .ref kx, .ref be, .ref tc, .int (nI ((td + 1) + 1))])), (nw, .inl (cy 0, 29, .inl f)), (tc, .inl (cy 0, 16, .inl (upd (upd tf td (nI 21)) (td + 1) (nI 20))))]) [1, 0, 2] (by decide) rfl
  exact q_wiret (v := nI (c + (ctO w c))) hx hb hr hlocks dX7_threadMark_79 hP9 hD9 hS (⟨rfl, rfl⟩)
theorem nX7_threadMark_2_0 : ∀ w ∈ wsX70, w ∈ wsX7_threadMark := by decide +kernel
theorem mX7_threadMark_2_1 : Cond.fieldLink RX7 25 "ClueLeaveModel" "now" "[I" ∈ wsX7_threadMark := by decide +kernel
set_option maxHeartbeats 4000000 in
set_option maxRecDepth 100000 in
theorem c_X7_threadMark_2 (l : Launch) (D : va_G) (cy : Nat → ClassId) (m0 ml mm mit ms mt nw dr tr pa ig kx be tc : Nat) (st fk fp av sv ov vv : Int32) (tn ac td : Nat) (f : Nat → Int32) (w : Nat → Nat) (hm : mwIs w f) (hv : ctOk w) (tf : Nat → Int32) (htd : td + 3 ≤ 16) (c : Nat) (hc : c < w 4) (hkd : ctK w c = 2) : q_Wi l yX7_threadMark wsX7_threadMark 2 D cy [(m0, .inr (7, [.ref ml, .ref mm, .ref mit, .ref ms, .int (st), .ref mt, .int (nI tn), .int (fk), .int (fp), .int (av), .int (sv), .int (ov), .int (vv), .ref nw, .ref dr, .ref tr, .ref pa, .int (nI ac), .ref ig, .ref kx, .ref be, .ref tc, .int (nI td)])), (nw, .inl (cy 0, 29, .inl f)), (tc, .inl (cy 0, 16, .inl tf))] [.ref m0, .int (nI c)] (fun r u => r = nI (2 * (c + ctO w c)) ∧ u = [(m0, .inr (7, [.ref ml, .ref mm, .ref mit, .ref ms, .int (st), .ref mt, .int (nI tn), .int (fk), .int (fp), .int (av), .int (sv), .int (ov), .int (vv), .ref nw, .ref dr, .ref tr, .ref pa, .int (nI ac), .ref ig, .ref kx, .ref be, .ref tc, .int (nI (td + 3))])), (nw, .inl (cy 0, 29, .inl f)), (tc, .inl (cy 0, 16, .inl (trP tf td [24, 21, 20])))]) := by
  refine q_wi_of (cc := cX7_threadMark) (maxL := 4) (ret := (some .int)) (by decide) rfl (Nat.le_of_ble_eq_true rfl) ?_
  intro pg en s mi args below meth cd A hC hA hK H locs hP hD hS ls hl
  obtain ⟨hx, hb, hr, hml, hown, hts, hlocks⟩ := hC
  have hl : lv_has ls 4 [(0, .ref m0), (1, .int (nI c))] := hl
  obtain ⟨hv0, hv1, hv2, hv3, hv4, hvc⟩ := id hv
  obtain ⟨hk1, hk5, ht1, ht2, he2, he4, ho1⟩ := hvc c hc
  refine lv_aload_n hx hb dX7_threadMark_0 rfl (lv_at hl 0 rfl) ?_
  refine lv_iload_n hx hb dX7_threadMark_1 rfl (lv_at hl 1 rfl) ?_
  refine q_rV (As := [.int (nI c)]) (rest := []) ⟨hx, hb, hml, hown, hts⟩ (c_X7_kindIn l D cy m0 ml mm mit ms mt nw dr tr pa ig kx be tc st fk fp av sv ov vv tn ac td f w hm hv c (by omega)) (cwV 1 hts gX7_threadMark_X7_kindIn rfl rfl rfl (by decide +kernel) ⟨Nat.le_of_ble_eq_true rfl, Nat.le_of_ble_eq_true rfl⟩) hP hK [0, 1] rfl 0 rfl rfl rfl rfl hl.1 rfl (Nat.le_of_ble_eq_true rfl) dX7_threadMark_2 ⟨Nat.zero_le _, Nat.zero_le _⟩ (fun r1 hr1 => ?_)
  obtain rfl := hr1
  refine q_top (y := nI 2) (by rw [hkd]) ?_
  refine lv_istore_n (lv' := [(2, .int (nI 2)), (0, .ref m0), (1, .int (nI c))]) hx hb dX7_threadMark_5 rfl hl (by decide) rfl (fun ls hl => ?_)
  refine lv_iload_n hx hb dX7_threadMark_6 rfl (lv_at hl 0 rfl) ?_
  refine lv_iconst (v := nI 1) hx hb dX7_threadMark_7 (by decide) ?_
  refine lv_icmp_eq (tgt := 27) hx hb dX7_threadMark_8 (by decide) (fun c9 => absurd c9 (by decide)) (fun _ => ?_)
  refine lv_aload_n hx hb dX7_threadMark_11 rfl (lv_at hl 1 rfl) ?_
  refine lv_iload_n hx hb dX7_threadMark_12 rfl (lv_at hl 0 rfl) ?_
  refine lv_iconst (v := nI 2) hx hb dX7_threadMark_13 (by decide) ?_
  refine lv_icmp_ne (tgt := 22) hx hb dX7_threadMark_14 (by decide) (fun c9 => absurd (by decide) c9) (fun _ => ?_)
  refine lv_bipush (v := nI 24) hx hb dX7_threadMark_17 (by decide) ?_
  refine lv_goto (tgt := 24) hx hb dX7_threadMark_19 (by decide) ?_
  refine q_wvV (As := [.int (nI 24)]) (rest := []) (wr := [(nw, .inl (cy 0, 29, .inl f))]) ⟨hx, hb, hml, hown, hts⟩ (c_X7_begins l D cy m0 ml mm mit ms mt nw dr tr pa ig kx be tc st fk fp av sv ov vv tn ac td tf (by omega) (nI 24)) (cwV 1 hts gX7_threadMark_X7_begins rfl rfl rfl (by decide +kernel) ⟨Nat.le_of_ble_eq_true rfl, Nat.le_of_ble_eq_true rfl⟩) hP hD hS hA hK [0, 2] [1] rfl rfl (by decide) rfl (by decide) (by decide) 0 rfl rfl rfl rfl hl.1 rfl (Nat.le_of_ble_eq_true rfl) dX7_threadMark_24 ⟨Nat.zero_le _, Nat.zero_le _⟩ (fun u3 H locs hr2 hP hD hS => ?_)
  obtain rfl := hr2
  have hP : va_P D vwCl [(nw, .inl (cy 0, 29, .inl f)), (m0, .inr (7, [.ref ml, .ref mm, .ref mit, .ref ms, .int (st), .ref mt, .int (nI tn), .int (fk), .int (fp), .int (av), .int (sv), .int (ov), .int (vv), .ref nw, .ref dr, .ref tr, .ref pa, .int (nI ac), .ref ig, .ref kx, .ref be, .ref tc, .int (nI (td + 1))])), (tc, .inl (cy 0, 16, .inl (upd tf td (nI 24))))] H := hP
  have hD : va_D A [(nw, .inl (cy 0, 29, .inl f)), (m0, .inr (7, [.ref ml, .ref mm, .ref mit, .ref ms, .int (st), .ref mt, .int (nI tn), .int (fk), .int (fp), .int (av), .int (sv), .int (ov), .int (vv), .ref nw, .ref dr, .ref tr, .ref pa, .int (nI ac), .ref ig, .ref kx, .ref be, .ref tc, .int (nI (td + 1))])), (tc, .inl (cy 0, 16, .inl (upd tf td (nI 24))))] := hD
  refine lv_aload_n hx hb dX7_threadMark_27 rfl (lv_at hl 1 rfl) ?_
  refine lv_bipush (v := nI 21) hx hb dX7_threadMark_28 (by decide) ?_
  refine q_wvV (As := [.int (nI 21)]) (rest := []) (wr := [(nw, .inl (cy 0, 29, .inl f))]) ⟨hx, hb, hml, hown, hts⟩ (c_X7_begins l D cy m0 ml mm mit ms mt nw dr tr pa ig kx be tc st fk fp av sv ov vv tn ac (td + 1) (upd tf td (nI 24)) (by omega) (nI 21)) (cwV 1 hts gX7_threadMark_X7_begins rfl rfl rfl (by decide +kernel) ⟨Nat.le_of_ble_eq_true rfl, Nat.le_of_ble_eq_true rfl⟩) hP hD hS hA hK [1, 2] [0] rfl rfl (by decide) rfl (by decide) (by decide) 1 rfl rfl rfl rfl hl.1 rfl (Nat.le_of_ble_eq_true rfl) dX7_threadMark_30 ⟨Nat.zero_le _, Nat.zero_le _⟩ (fun u5 H locs hr4 hP hD hS => ?_)
  obtain rfl := hr4
  have hP : va_P D vwCl [(nw, .inl (cy 0, 29, .inl f)), (m0, .inr (7, [.ref ml, .ref mm, .ref mit, .ref ms, .int (st), .ref mt, .int (nI tn), .int (fk), .int (fp), .int (av), .int (sv), .int (ov), .int (vv), .ref nw, .ref dr, .ref tr, .ref pa, .int (nI ac), .ref ig, .ref kx, .ref be, .ref tc, .int (nI ((td + 1) + 1))])), (tc, .inl (cy 0, 16, .inl (upd (upd tf td (nI 24)) (td + 1) (nI 21))))] H := hP
  have hD : va_D A [(nw, .inl (cy 0, 29, .inl f)), (m0, .inr (7, [.ref ml, .ref mm, .ref mit, .ref ms, .int (st), .ref mt, .int (nI tn), .int (fk), .int (fp), .int (av), .int (sv), .int (ov), .int (vv), .ref nw, .ref dr, .ref tr, .ref pa, .int (nI ac), .ref ig, .ref kx, .ref be, .ref tc, .int (nI ((td + 1) + 1))])), (tc, .inl (cy 0, 16, .inl (upd (upd tf td (nI 24)) (td + 1) (nI 21))))] := hD
  refine lv_aload_n hx hb dX7_threadMark_33 rfl (lv_at hl 1 rfl) ?_
  refine lv_bipush (v := nI 20) hx hb dX7_threadMark_34 (by decide) ?_
  refine q_wvV (As := [.int (nI 20)]) (rest := []) (wr := [(nw, .inl (cy 0, 29, .inl f))]) ⟨hx, hb, hml, hown, hts⟩ (c_X7_begins l D cy m0 ml mm mit ms mt nw dr tr pa ig kx be tc st fk fp av sv ov vv tn ac ((td + 1) + 1) (upd (upd tf td (nI 24)) (td + 1) (nI 21)) (by omega) (nI 20)) (cwV 1 hts gX7_threadMark_X7_begins rfl rfl rfl (by decide +kernel) ⟨Nat.le_of_ble_eq_true rfl, Nat.le_of_ble_eq_true rfl⟩) hP hD hS hA hK [1, 2] [0] rfl rfl (by decide) rfl (by decide) (by decide) 1 rfl rfl rfl rfl hl.1 rfl (Nat.le_of_ble_eq_true rfl) dX7_threadMark_36 ⟨Nat.zero_le _, Nat.zero_le _⟩ (fun u7 H locs hr6 hP hD hS => ?_)
  obtain rfl := hr6
  have hP : va_P D vwCl [(nw, .inl (cy 0, 29, .inl f)), (m0, .inr (7, [.ref ml, .ref mm, .ref mit, .ref ms, .int (st), .ref mt, .int (nI tn), .int (fk), .int (fp), .int (av), .int (sv), .int (ov), .int (vv), .ref nw, .ref dr, .ref tr, .ref pa, .int (nI ac), .ref ig, .ref kx, .ref be, .ref tc, .int (nI (((td + 1) + 1) + 1))])), (tc, .inl (cy 0, 16, .inl (upd (upd (upd tf td (nI 24)) (td + 1) (nI 21)) ((td + 1) + 1) (nI 20))))] H := hP
  have hD : va_D A [(nw, .inl (cy 0, 29, .inl f)), (m0, .inr (7, [.ref ml, .ref mm, .ref mit, .ref ms, .int (st), .ref mt, .int (nI tn), .int (fk), .int (fp), .int (av), .int (sv), .int (ov), .int (vv), .ref nw, .ref dr, .ref tr, .ref pa, .int (nI ac), .ref ig, .ref kx, .ref be, .ref tc, .int (nI (((td + 1) + 1) + 1))])), (tc, .inl (cy 0, 16, .inl (upd (upd (upd tf td (nI 24)) (td + 1) (nI 21)) ((td + 1) + 1) (nI 20))))] := hD
  refine lv_iload_n hx hb dX7_threadMark_39 rfl (lv_at hl 2 rfl) ?_
  refine lv_aload_n hx hb dX7_threadMark_40 rfl (lv_at hl 1 rfl) ?_
  refine va_get (D := D) (ci := 7) (v := .ref nw) (C := RX7) (T := TX7) (N := 23) hx hb hts nX7_threadMark_2_0 hown hK.1 hP 1 rfl rfl 13 (by decide) (hts _ mX7_threadMark_2_1) (fun _ h9 => h9) rfl dX7_threadMark_41 ?_
  refine lv_iconst (v := nI 5) hx hb dX7_threadMark_44 (by decide) ?_
  refine lv_iconst (v := nI 4) hx hb dX7_threadMark_45 (by decide) ?_
  refine lv_iload_n hx hb dX7_threadMark_46 rfl (lv_at hl 2 rfl) ?_
  refine lv_imul hx hb dX7_threadMark_47 ?_
  refine q_top (y := nI (4 * c)) (pk_mul _ _) ?_
  refine lv_iadd hx hb dX7_threadMark_48 ?_
  refine q_top (y := nI (5 + (4 * c))) (nI_add _ _) ?_
  refine lv_iconst (v := nI 3) hx hb dX7_threadMark_49 (by decide) ?_
  refine lv_iadd hx hb dX7_threadMark_50 ?_
  refine q_top (y := nI ((5 + (4 * c)) + 3)) (nI_add _ _) ?_
  refine q_iald (j := ((5 + (4 * c)) + 3)) (v := nI (w ((5 + (4 * c)) + 3))) hx hb hK hP 0 rfl (by omega) (by decide) (hm _ (by omega)) dX7_threadMark_51 ?_
  refine q_top (y := nI (ctO w c)) (congrArg nI (ctO_e w c)) ?_
  refine lv_iadd hx hb dX7_threadMark_52 ?_
  refine q_top (y := nI (c + (ctO w c))) (nI_add _ _) ?_
  refine lv_istore_n (lv' := [(3, .int (nI (c + (ctO w c)))), (2, .int (nI 2)), (0, .ref m0), (1, .int (nI c))]) hx hb dX7_threadMark_53 rfl hl (by decide) rfl (fun ls hl => ?_)
  refine lv_iload_n hx hb dX7_threadMark_54 rfl (lv_at hl 1 rfl) ?_
  refine lv_iconst (v := nI 2) hx hb dX7_threadMark_55 (by decide) ?_
  refine lv_icmp_ne (tgt := 65) hx hb dX7_threadMark_56 (by decide) (fun c9 => absurd (by decide) c9) (fun _ => ?_)
  refine lv_iconst (v := nI 2) hx hb dX7_threadMark_59 (by decide) ?_
  refine lv_iload_n hx hb dX7_threadMark_60 rfl (lv_at hl 0 rfl) ?_
  refine lv_imul hx hb dX7_threadMark_61 ?_
  refine q_top (y := nI (2 * (c + (ctO w c)))) (pk_mul _ _) ?_
  refine lv_goto (tgt := 79) hx hb dX7_threadMark_62 (by decide) ?_
  have hP9 := hP.sub (ws' := [(m0, .inr (7, [.ref ml, .ref mm, .ref mit, .ref ms, .int (st), .ref mt, .int (nI tn), .int (fk), .int (fp), .int (av), .int (sv), .int (ov), .int (vv), .ref nw, .ref dr, .ref tr, .ref pa, .int (nI ac), .ref ig, .ref kx, .ref be, .ref tc, .int (nI (((td + 1) + 1) + 1))])), (nw, .inl (cy 0, 29, .inl f)), (tc, .inl (cy 0, 16, .inl (upd (upd (upd tf td (nI 24)) (td + 1) (nI 21)) ((td + 1) + 1) (nI 20))))]) [1, 0, 2] rfl
  have hD9 := hD.sub (ws' := [(m0, .inr (7, [.ref ml, .ref mm, .ref mit, .ref ms, .int (st), .ref mt, .int (nI tn), .int (fk), .int (fp), .int (av), .int (sv), .int (ov), .int (vv), .ref nw, .ref dr, .ref tr, .ref pa, .int (nI ac), .ref ig, .ref kx, .ref be, .ref tc, .int (nI (((td + 1) + 1) + 1))])), (nw, .inl (cy 0, 29, .inl f)), (tc, .inl (cy 0, 16, .inl (upd (upd (upd tf td (nI 24)) (td + 1) (nI 21)) ((td + 1) + 1) (nI 20))))]) [1, 0, 2] (by decide) rfl
  exact q_wiret (v := nI (2 * (c + (ctO w c)))) hx hb hr hlocks dX7_threadMark_79 hP9 hD9 hS (⟨rfl, rfl⟩)
theorem nX7_threadMark_3_0 : ∀ w ∈ wsX70, w ∈ wsX7_threadMark := by decide +kernel
theorem mX7_threadMark_3_1 : Cond.fieldLink RX7 25 "ClueLeaveModel" "now" "[I" ∈ wsX7_threadMark := by decide +kernel
set_option maxHeartbeats 4000000 in
set_option maxRecDepth 100000 in
theorem c_X7_threadMark_3 (l : Launch) (D : va_G) (cy : Nat → ClassId) (m0 ml mm mit ms mt nw dr tr pa ig kx be tc : Nat) (st fk fp av sv ov vv : Int32) (tn ac td : Nat) (f : Nat → Int32) (w : Nat → Nat) (hm : mwIs w f) (hv : ctOk w) (tf : Nat → Int32) (htd : td + 3 ≤ 16) (c : Nat) (hc : c < w 4) (hkd : ctK w c = 3) : q_Wi l yX7_threadMark wsX7_threadMark 2 D cy [(m0, .inr (7, [.ref ml, .ref mm, .ref mit, .ref ms, .int (st), .ref mt, .int (nI tn), .int (fk), .int (fp), .int (av), .int (sv), .int (ov), .int (vv), .ref nw, .ref dr, .ref tr, .ref pa, .int (nI ac), .ref ig, .ref kx, .ref be, .ref tc, .int (nI td)])), (nw, .inl (cy 0, 29, .inl f)), (tc, .inl (cy 0, 16, .inl tf))] [.ref m0, .int (nI c)] (fun r u => r = nI (c + ctO w c) - nI 1000 ∧ u = [(m0, .inr (7, [.ref ml, .ref mm, .ref mit, .ref ms, .int (st), .ref mt, .int (nI tn), .int (fk), .int (fp), .int (av), .int (sv), .int (ov), .int (vv), .ref nw, .ref dr, .ref tr, .ref pa, .int (nI ac), .ref ig, .ref kx, .ref be, .ref tc, .int (nI (td + 3))])), (nw, .inl (cy 0, 29, .inl f)), (tc, .inl (cy 0, 16, .inl (trP tf td [22, 21, 20])))]) := by
  refine q_wi_of (cc := cX7_threadMark) (maxL := 4) (ret := (some .int)) (by decide) rfl (Nat.le_of_ble_eq_true rfl) ?_
  intro pg en s mi args below meth cd A hC hA hK H locs hP hD hS ls hl
  obtain ⟨hx, hb, hr, hml, hown, hts, hlocks⟩ := hC
  have hl : lv_has ls 4 [(0, .ref m0), (1, .int (nI c))] := hl
  obtain ⟨hv0, hv1, hv2, hv3, hv4, hvc⟩ := id hv
  obtain ⟨hk1, hk5, ht1, ht2, he2, he4, ho1⟩ := hvc c hc
  refine lv_aload_n hx hb dX7_threadMark_0 rfl (lv_at hl 0 rfl) ?_
  refine lv_iload_n hx hb dX7_threadMark_1 rfl (lv_at hl 1 rfl) ?_
  refine q_rV (As := [.int (nI c)]) (rest := []) ⟨hx, hb, hml, hown, hts⟩ (c_X7_kindIn l D cy m0 ml mm mit ms mt nw dr tr pa ig kx be tc st fk fp av sv ov vv tn ac td f w hm hv c (by omega)) (cwV 1 hts gX7_threadMark_X7_kindIn rfl rfl rfl (by decide +kernel) ⟨Nat.le_of_ble_eq_true rfl, Nat.le_of_ble_eq_true rfl⟩) hP hK [0, 1] rfl 0 rfl rfl rfl rfl hl.1 rfl (Nat.le_of_ble_eq_true rfl) dX7_threadMark_2 ⟨Nat.zero_le _, Nat.zero_le _⟩ (fun r1 hr1 => ?_)
  obtain rfl := hr1
  refine q_top (y := nI 3) (by rw [hkd]) ?_
  refine lv_istore_n (lv' := [(2, .int (nI 3)), (0, .ref m0), (1, .int (nI c))]) hx hb dX7_threadMark_5 rfl hl (by decide) rfl (fun ls hl => ?_)
  refine lv_iload_n hx hb dX7_threadMark_6 rfl (lv_at hl 0 rfl) ?_
  refine lv_iconst (v := nI 1) hx hb dX7_threadMark_7 (by decide) ?_
  refine lv_icmp_eq (tgt := 27) hx hb dX7_threadMark_8 (by decide) (fun c9 => absurd c9 (by decide)) (fun _ => ?_)
  refine lv_aload_n hx hb dX7_threadMark_11 rfl (lv_at hl 1 rfl) ?_
  refine lv_iload_n hx hb dX7_threadMark_12 rfl (lv_at hl 0 rfl) ?_
  refine lv_iconst (v := nI 2) hx hb dX7_threadMark_13 (by decide) ?_
  refine lv_icmp_ne (tgt := 22) hx hb dX7_threadMark_14 (by decide) (fun _ => ?_) (fun c9 => absurd c9 (by decide))
  refine lv_bipush (v := nI 22) hx hb dX7_threadMark_22 (by decide) ?_
  refine q_wvV (As := [.int (nI 22)]) (rest := []) (wr := [(nw, .inl (cy 0, 29, .inl f))]) ⟨hx, hb, hml, hown, hts⟩ (c_X7_begins l D cy m0 ml mm mit ms mt nw dr tr pa ig kx be tc st fk fp av sv ov vv tn ac td tf (by omega) (nI 22)) (cwV 1 hts gX7_threadMark_X7_begins rfl rfl rfl (by decide +kernel) ⟨Nat.le_of_ble_eq_true rfl, Nat.le_of_ble_eq_true rfl⟩) hP hD hS hA hK [0, 2] [1] rfl rfl (by decide) rfl (by decide) (by decide) 0 rfl rfl rfl rfl hl.1 rfl (Nat.le_of_ble_eq_true rfl) dX7_threadMark_24 ⟨Nat.zero_le _, Nat.zero_le _⟩ (fun u3 H locs hr2 hP hD hS => ?_)
  obtain rfl := hr2
  have hP : va_P D vwCl [(nw, .inl (cy 0, 29, .inl f)), (m0, .inr (7, [.ref ml, .ref mm, .ref mit, .ref ms, .int (st), .ref mt, .int (nI tn), .int (fk), .int (fp), .int (av), .int (sv), .int (ov), .int (vv), .ref nw, .ref dr, .ref tr, .ref pa, .int (nI ac), .ref ig, .ref kx, .ref be, .ref tc, .int (nI (td + 1))])), (tc, .inl (cy 0, 16, .inl (upd tf td (nI 22))))] H := hP
  have hD : va_D A [(nw, .inl (cy 0, 29, .inl f)), (m0, .inr (7, [.ref ml, .ref mm, .ref mit, .ref ms, .int (st), .ref mt, .int (nI tn), .int (fk), .int (fp), .int (av), .int (sv), .int (ov), .int (vv), .ref nw, .ref dr, .ref tr, .ref pa, .int (nI ac), .ref ig, .ref kx, .ref be, .ref tc, .int (nI (td + 1))])), (tc, .inl (cy 0, 16, .inl (upd tf td (nI 22))))] := hD
  refine lv_aload_n hx hb dX7_threadMark_27 rfl (lv_at hl 1 rfl) ?_
  refine lv_bipush (v := nI 21) hx hb dX7_threadMark_28 (by decide) ?_
  refine q_wvV (As := [.int (nI 21)]) (rest := []) (wr := [(nw, .inl (cy 0, 29, .inl f))]) ⟨hx, hb, hml, hown, hts⟩ (c_X7_begins l D cy m0 ml mm mit ms mt nw dr tr pa ig kx be tc st fk fp av sv ov vv tn ac (td + 1) (upd tf td (nI 22)) (by omega) (nI 21)) (cwV 1 hts gX7_threadMark_X7_begins rfl rfl rfl (by decide +kernel) ⟨Nat.le_of_ble_eq_true rfl, Nat.le_of_ble_eq_true rfl⟩) hP hD hS hA hK [1, 2] [0] rfl rfl (by decide) rfl (by decide) (by decide) 1 rfl rfl rfl rfl hl.1 rfl (Nat.le_of_ble_eq_true rfl) dX7_threadMark_30 ⟨Nat.zero_le _, Nat.zero_le _⟩ (fun u5 H locs hr4 hP hD hS => ?_)
  obtain rfl := hr4
  have hP : va_P D vwCl [(nw, .inl (cy 0, 29, .inl f)), (m0, .inr (7, [.ref ml, .ref mm, .ref mit, .ref ms, .int (st), .ref mt, .int (nI tn), .int (fk), .int (fp), .int (av), .int (sv), .int (ov), .int (vv), .ref nw, .ref dr, .ref tr, .ref pa, .int (nI ac), .ref ig, .ref kx, .ref be, .ref tc, .int (nI ((td + 1) + 1))])), (tc, .inl (cy 0, 16, .inl (upd (upd tf td (nI 22)) (td + 1) (nI 21))))] H := hP
  have hD : va_D A [(nw, .inl (cy 0, 29, .inl f)), (m0, .inr (7, [.ref ml, .ref mm, .ref mit, .ref ms, .int (st), .ref mt, .int (nI tn), .int (fk), .int (fp), .int (av), .int (sv), .int (ov), .int (vv), .ref nw, .ref dr, .ref tr, .ref pa, .int (nI ac), .ref ig, .ref kx, .ref be, .ref tc, .int (nI ((td + 1) + 1))])), (tc, .inl (cy 0, 16, .inl (upd (upd tf td (nI 22)) (td + 1) (nI 21))))] := hD
  refine lv_aload_n hx hb dX7_threadMark_33 rfl (lv_at hl 1 rfl) ?_
  refine lv_bipush (v := nI 20) hx hb dX7_threadMark_34 (by decide) ?_
  refine q_wvV (As := [.int (nI 20)]) (rest := []) (wr := [(nw, .inl (cy 0, 29, .inl f))]) ⟨hx, hb, hml, hown, hts⟩ (c_X7_begins l D cy m0 ml mm mit ms mt nw dr tr pa ig kx be tc st fk fp av sv ov vv tn ac ((td + 1) + 1) (upd (upd tf td (nI 22)) (td + 1) (nI 21)) (by omega) (nI 20)) (cwV 1 hts gX7_threadMark_X7_begins rfl rfl rfl (by decide +kernel) ⟨Nat.le_of_ble_eq_true rfl, Nat.le_of_ble_eq_true rfl⟩) hP hD hS hA hK [1, 2] [0] rfl rfl (by decide) rfl (by decide) (by decide) 1 rfl rfl rfl rfl hl.1 rfl (Nat.le_of_ble_eq_true rfl) dX7_threadMark_36 ⟨Nat.zero_le _, Nat.zero_le _⟩ (fun u7 H locs hr6 hP hD hS => ?_)
  obtain rfl := hr6
  have hP : va_P D vwCl [(nw, .inl (cy 0, 29, .inl f)), (m0, .inr (7, [.ref ml, .ref mm, .ref mit, .ref ms, .int (st), .ref mt, .int (nI tn), .int (fk), .int (fp), .int (av), .int (sv), .int (ov), .int (vv), .ref nw, .ref dr, .ref tr, .ref pa, .int (nI ac), .ref ig, .ref kx, .ref be, .ref tc, .int (nI (((td + 1) + 1) + 1))])), (tc, .inl (cy 0, 16, .inl (upd (upd (upd tf td (nI 22)) (td + 1) (nI 21)) ((td + 1) + 1) (nI 20))))] H := hP
  have hD : va_D A [(nw, .inl (cy 0, 29, .inl f)), (m0, .inr (7, [.ref ml, .ref mm, .ref mit, .ref ms, .int (st), .ref mt, .int (nI tn), .int (fk), .int (fp), .int (av), .int (sv), .int (ov), .int (vv), .ref nw, .ref dr, .ref tr, .ref pa, .int (nI ac), .ref ig, .ref kx, .ref be, .ref tc, .int (nI (((td + 1) + 1) + 1))])), (tc, .inl (cy 0, 16, .inl (upd (upd (upd tf td (nI 22)) (td + 1) (nI 21)) ((td + 1) + 1) (nI 20))))] := hD
  refine lv_iload_n hx hb dX7_threadMark_39 rfl (lv_at hl 2 rfl) ?_
  refine lv_aload_n hx hb dX7_threadMark_40 rfl (lv_at hl 1 rfl) ?_
  refine va_get (D := D) (ci := 7) (v := .ref nw) (C := RX7) (T := TX7) (N := 23) hx hb hts nX7_threadMark_3_0 hown hK.1 hP 1 rfl rfl 13 (by decide) (hts _ mX7_threadMark_3_1) (fun _ h9 => h9) rfl dX7_threadMark_41 ?_
  refine lv_iconst (v := nI 5) hx hb dX7_threadMark_44 (by decide) ?_
  refine lv_iconst (v := nI 4) hx hb dX7_threadMark_45 (by decide) ?_
  refine lv_iload_n hx hb dX7_threadMark_46 rfl (lv_at hl 2 rfl) ?_
  refine lv_imul hx hb dX7_threadMark_47 ?_
  refine q_top (y := nI (4 * c)) (pk_mul _ _) ?_
  refine lv_iadd hx hb dX7_threadMark_48 ?_
  refine q_top (y := nI (5 + (4 * c))) (nI_add _ _) ?_
  refine lv_iconst (v := nI 3) hx hb dX7_threadMark_49 (by decide) ?_
  refine lv_iadd hx hb dX7_threadMark_50 ?_
  refine q_top (y := nI ((5 + (4 * c)) + 3)) (nI_add _ _) ?_
  refine q_iald (j := ((5 + (4 * c)) + 3)) (v := nI (w ((5 + (4 * c)) + 3))) hx hb hK hP 0 rfl (by omega) (by decide) (hm _ (by omega)) dX7_threadMark_51 ?_
  refine q_top (y := nI (ctO w c)) (congrArg nI (ctO_e w c)) ?_
  refine lv_iadd hx hb dX7_threadMark_52 ?_
  refine q_top (y := nI (c + (ctO w c))) (nI_add _ _) ?_
  refine lv_istore_n (lv' := [(3, .int (nI (c + (ctO w c)))), (2, .int (nI 3)), (0, .ref m0), (1, .int (nI c))]) hx hb dX7_threadMark_53 rfl hl (by decide) rfl (fun ls hl => ?_)
  refine lv_iload_n hx hb dX7_threadMark_54 rfl (lv_at hl 1 rfl) ?_
  refine lv_iconst (v := nI 2) hx hb dX7_threadMark_55 (by decide) ?_
  refine lv_icmp_ne (tgt := 65) hx hb dX7_threadMark_56 (by decide) (fun _ => ?_) (fun c9 => absurd c9 (by decide))
  refine lv_iload_n hx hb dX7_threadMark_65 rfl (lv_at hl 1 rfl) ?_
  refine lv_iconst (v := nI 3) hx hb dX7_threadMark_66 (by decide) ?_
  refine lv_icmp_ne (tgt := 78) hx hb dX7_threadMark_67 (by decide) (fun c9 => absurd (by decide) c9) (fun _ => ?_)
  refine lv_iload_n hx hb dX7_threadMark_70 rfl (lv_at hl 0 rfl) ?_
  refine lv_sipush (v := nI 1000) hx hb dX7_threadMark_71 (by decide) ?_
  refine lv_isub hx hb dX7_threadMark_74 ?_
  refine lv_goto (tgt := 79) hx hb dX7_threadMark_75 (by decide) ?_
  have hP9 := hP.sub (ws' := [(m0, .inr (7, [.ref ml, .ref mm, .ref mit, .ref ms, .int (st), .ref mt, .int (nI tn), .int (fk), .int (fp), .int (av), .int (sv), .int (ov), .int (vv), .ref nw, .ref dr, .ref tr, .ref pa, .int (nI ac), .ref ig, .ref kx, .ref be, .ref tc, .int (nI (((td + 1) + 1) + 1))])), (nw, .inl (cy 0, 29, .inl f)), (tc, .inl (cy 0, 16, .inl (upd (upd (upd tf td (nI 22)) (td + 1) (nI 21)) ((td + 1) + 1) (nI 20))))]) [1, 0, 2] rfl
  have hD9 := hD.sub (ws' := [(m0, .inr (7, [.ref ml, .ref mm, .ref mit, .ref ms, .int (st), .ref mt, .int (nI tn), .int (fk), .int (fp), .int (av), .int (sv), .int (ov), .int (vv), .ref nw, .ref dr, .ref tr, .ref pa, .int (nI ac), .ref ig, .ref kx, .ref be, .ref tc, .int (nI (((td + 1) + 1) + 1))])), (nw, .inl (cy 0, 29, .inl f)), (tc, .inl (cy 0, 16, .inl (upd (upd (upd tf td (nI 22)) (td + 1) (nI 21)) ((td + 1) + 1) (nI 20))))]) [1, 0, 2] (by decide) rfl
  exact q_wiret (v := (nI (c + (ctO w c))) - (nI 1000)) hx hb hr hlocks dX7_threadMark_79 hP9 hD9 hS (⟨rfl, rfl⟩)
theorem nX7_stainSize_4_0 : ∀ w ∈ wsX70, w ∈ wsX7_stainSize := by decide +kernel
theorem mX7_stainSize_4_1 : Cond.fieldLink RX7 25 "ClueLeaveModel" "now" "[I" ∈ wsX7_stainSize := by decide +kernel
set_option maxHeartbeats 4000000 in
set_option maxRecDepth 100000 in
theorem c_X7_stainSize_4 (l : Launch) (D : va_G) (cy : Nat → ClassId) (m0 ml mm mit ms mt nw dr tr pa ig kx be tc : Nat) (st fk fp av sv ov vv : Int32) (tn ac td : Nat) (f : Nat → Int32) (w : Nat → Nat) (hm : mwIs w f) (hv : ctOk w) (tf : Nat → Int32) (htd : td + 2 ≤ 16) (c : Nat) (hc : c < w 4) (hkd : ctK w c = 4) : q_Wi l yX7_stainSize wsX7_stainSize 2 D cy [(m0, .inr (7, [.ref ml, .ref mm, .ref mit, .ref ms, .int (st), .ref mt, .int (nI tn), .int (fk), .int (fp), .int (av), .int (sv), .int (ov), .int (vv), .ref nw, .ref dr, .ref tr, .ref pa, .int (nI ac), .ref ig, .ref kx, .ref be, .ref tc, .int (nI td)])), (nw, .inl (cy 0, 29, .inl f)), (tc, .inl (cy 0, 16, .inl tf))] [.ref m0, .int (nI c)] (fun r u => r = nI (ctT w c) - nI 100 ∧ u = [(m0, .inr (7, [.ref ml, .ref mm, .ref mit, .ref ms, .int (st), .ref mt, .int (nI tn), .int (fk), .int (fp), .int (av), .int (sv), .int (ov), .int (vv), .ref nw, .ref dr, .ref tr, .ref pa, .int (nI ac), .ref ig, .ref kx, .ref be, .ref tc, .int (nI (td + 2))])), (nw, .inl (cy 0, 29, .inl f)), (tc, .inl (cy 0, 16, .inl (trP tf td [13, 10])))]) := by
  refine q_wi_of (cc := cX7_stainSize) (maxL := 4) (ret := (some .int)) (by decide) rfl (Nat.le_of_ble_eq_true rfl) ?_
  intro pg en s mi args below meth cd A hC hA hK H locs hP hD hS ls hl
  obtain ⟨hx, hb, hr, hml, hown, hts, hlocks⟩ := hC
  have hl : lv_has ls 4 [(0, .ref m0), (1, .int (nI c))] := hl
  obtain ⟨hv0, hv1, hv2, hv3, hv4, hvc⟩ := id hv
  obtain ⟨hk1, hk5, ht1, ht2, he2, he4, ho1⟩ := hvc c hc
  refine lv_aload_n hx hb dX7_stainSize_0 rfl (lv_at hl 0 rfl) ?_
  refine lv_iload_n hx hb dX7_stainSize_1 rfl (lv_at hl 1 rfl) ?_
  refine q_rV (As := [.int (nI c)]) (rest := []) ⟨hx, hb, hml, hown, hts⟩ (c_X7_kindIn l D cy m0 ml mm mit ms mt nw dr tr pa ig kx be tc st fk fp av sv ov vv tn ac td f w hm hv c (by omega)) (cwV 1 hts gX7_stainSize_X7_kindIn rfl rfl rfl (by decide +kernel) ⟨Nat.le_of_ble_eq_true rfl, Nat.le_of_ble_eq_true rfl⟩) hP hK [0, 1] rfl 0 rfl rfl rfl rfl hl.1 rfl (Nat.le_of_ble_eq_true rfl) dX7_stainSize_2 ⟨Nat.zero_le _, Nat.zero_le _⟩ (fun r1 hr1 => ?_)
  obtain rfl := hr1
  refine q_top (y := nI 4) (by rw [hkd]) ?_
  refine lv_iconst (v := nI 5) hx hb dX7_stainSize_5 (by decide) ?_
  refine lv_icmp_ne (tgt := 13) hx hb dX7_stainSize_6 (by decide) (fun _ => ?_) (fun c9 => absurd c9 (by decide))
  refine lv_iconst (v := nI 0) hx hb dX7_stainSize_13 (by decide) ?_
  refine lv_istore_n (lv' := [(2, .int (nI 0)), (0, .ref m0), (1, .int (nI c))]) hx hb dX7_stainSize_14 rfl hl (by decide) rfl (fun ls hl => ?_)
  refine lv_iload_n hx hb dX7_stainSize_15 rfl (lv_at hl 0 rfl) ?_
  refine lv_if_eq (tgt := 25) hx hb dX7_stainSize_16 (by decide) (fun _ => ?_) (fun c9 => absurd (by decide) c9)
  refine lv_aload_n hx hb dX7_stainSize_25 rfl (lv_at hl 1 rfl) ?_
  refine lv_bipush (v := nI 13) hx hb dX7_stainSize_26 (by decide) ?_
  refine q_wvV (As := [.int (nI 13)]) (rest := []) (wr := [(nw, .inl (cy 0, 29, .inl f))]) ⟨hx, hb, hml, hown, hts⟩ (c_X7_begins l D cy m0 ml mm mit ms mt nw dr tr pa ig kx be tc st fk fp av sv ov vv tn ac td tf (by omega) (nI 13)) (cwV 1 hts gX7_stainSize_X7_begins rfl rfl rfl (by decide +kernel) ⟨Nat.le_of_ble_eq_true rfl, Nat.le_of_ble_eq_true rfl⟩) hP hD hS hA hK [0, 2] [1] rfl rfl (by decide) rfl (by decide) (by decide) 0 rfl rfl rfl rfl hl.1 rfl (Nat.le_of_ble_eq_true rfl) dX7_stainSize_28 ⟨Nat.zero_le _, Nat.zero_le _⟩ (fun u3 H locs hr2 hP hD hS => ?_)
  obtain rfl := hr2
  have hP : va_P D vwCl [(nw, .inl (cy 0, 29, .inl f)), (m0, .inr (7, [.ref ml, .ref mm, .ref mit, .ref ms, .int (st), .ref mt, .int (nI tn), .int (fk), .int (fp), .int (av), .int (sv), .int (ov), .int (vv), .ref nw, .ref dr, .ref tr, .ref pa, .int (nI ac), .ref ig, .ref kx, .ref be, .ref tc, .int (nI (td + 1))])), (tc, .inl (cy 0, 16, .inl (upd tf td (nI 13))))] H := hP
  have hD : va_D A [(nw, .inl (cy 0, 29, .inl f)), (m0, .inr (7, [.ref ml, .ref mm, .ref mit, .ref ms, .int (st), .ref mt, .int (nI tn), .int (fk), .int (fp), .int (av), .int (sv), .int (ov), .int (vv), .ref nw, .ref dr, .ref tr, .ref pa, .int (nI ac), .ref ig, .ref kx, .ref be, .ref tc, .int (nI (td + 1))])), (tc, .inl (cy 0, 16, .inl (upd tf td (nI 13))))] := hD
  refine lv_aload_n hx hb dX7_stainSize_31 rfl (lv_at hl 1 rfl) ?_
  refine lv_bipush (v := nI 10) hx hb dX7_stainSize_32 (by decide) ?_
  refine q_wvV (As := [.int (nI 10)]) (rest := []) (wr := [(nw, .inl (cy 0, 29, .inl f))]) ⟨hx, hb, hml, hown, hts⟩ (c_X7_begins l D cy m0 ml mm mit ms mt nw dr tr pa ig kx be tc st fk fp av sv ov vv tn ac (td + 1) (upd tf td (nI 13)) (by omega) (nI 10)) (cwV 1 hts gX7_stainSize_X7_begins rfl rfl rfl (by decide +kernel) ⟨Nat.le_of_ble_eq_true rfl, Nat.le_of_ble_eq_true rfl⟩) hP hD hS hA hK [1, 2] [0] rfl rfl (by decide) rfl (by decide) (by decide) 1 rfl rfl rfl rfl hl.1 rfl (Nat.le_of_ble_eq_true rfl) dX7_stainSize_34 ⟨Nat.zero_le _, Nat.zero_le _⟩ (fun u5 H locs hr4 hP hD hS => ?_)
  obtain rfl := hr4
  have hP : va_P D vwCl [(nw, .inl (cy 0, 29, .inl f)), (m0, .inr (7, [.ref ml, .ref mm, .ref mit, .ref ms, .int (st), .ref mt, .int (nI tn), .int (fk), .int (fp), .int (av), .int (sv), .int (ov), .int (vv), .ref nw, .ref dr, .ref tr, .ref pa, .int (nI ac), .ref ig, .ref kx, .ref be, .ref tc, .int (nI ((td + 1) + 1))])), (tc, .inl (cy 0, 16, .inl (upd (upd tf td (nI 13)) (td + 1) (nI 10))))] H := hP
  have hD : va_D A [(nw, .inl (cy 0, 29, .inl f)), (m0, .inr (7, [.ref ml, .ref mm, .ref mit, .ref ms, .int (st), .ref mt, .int (nI tn), .int (fk), .int (fp), .int (av), .int (sv), .int (ov), .int (vv), .ref nw, .ref dr, .ref tr, .ref pa, .int (nI ac), .ref ig, .ref kx, .ref be, .ref tc, .int (nI ((td + 1) + 1))])), (tc, .inl (cy 0, 16, .inl (upd (upd tf td (nI 13)) (td + 1) (nI 10))))] := hD
  refine lv_aload_n hx hb dX7_stainSize_37 rfl (lv_at hl 1 rfl) ?_
  refine va_get (D := D) (ci := 7) (v := .ref nw) (C := RX7) (T := TX7) (N := 23) hx hb hts nX7_stainSize_4_0 hown hK.1 hP 1 rfl rfl 13 (by decide) (hts _ mX7_stainSize_4_1) (fun _ h9 => h9) rfl dX7_stainSize_38 ?_
  refine lv_iconst (v := nI 5) hx hb dX7_stainSize_41 (by decide) ?_
  refine lv_iconst (v := nI 4) hx hb dX7_stainSize_42 (by decide) ?_
  refine lv_iload_n hx hb dX7_stainSize_43 rfl (lv_at hl 2 rfl) ?_
  refine lv_imul hx hb dX7_stainSize_44 ?_
  refine q_top (y := nI (4 * c)) (pk_mul _ _) ?_
  refine lv_iadd hx hb dX7_stainSize_45 ?_
  refine q_top (y := nI (5 + (4 * c))) (nI_add _ _) ?_
  refine lv_iconst (v := nI 1) hx hb dX7_stainSize_46 (by decide) ?_
  refine lv_iadd hx hb dX7_stainSize_47 ?_
  refine q_top (y := nI ((5 + (4 * c)) + 1)) (nI_add _ _) ?_
  refine q_iald (j := ((5 + (4 * c)) + 1)) (v := nI (w ((5 + (4 * c)) + 1))) hx hb hK hP 0 rfl (by omega) (by decide) (hm _ (by omega)) dX7_stainSize_48 ?_
  refine q_top (y := nI (ctT w c)) (congrArg nI (ctT_e w c)) ?_
  refine lv_bipush (v := nI 100) hx hb dX7_stainSize_49 (by decide) ?_
  refine lv_isub hx hb dX7_stainSize_51 ?_
  refine lv_istore_n (lv' := [(3, .int ((nI (ctT w c)) - (nI 100))), (2, .int (nI 0)), (0, .ref m0), (1, .int (nI c))]) hx hb dX7_stainSize_52 rfl hl (by decide) rfl (fun ls hl => ?_)
  refine lv_iload_n hx hb dX7_stainSize_53 rfl (lv_at hl 1 rfl) ?_
  refine lv_if_eq (tgt := 63) hx hb dX7_stainSize_54 (by decide) (fun _ => ?_) (fun c9 => absurd (by decide) c9)
  refine lv_iload_n hx hb dX7_stainSize_63 rfl (lv_at hl 0 rfl) ?_
  have hP9 := hP.sub (ws' := [(m0, .inr (7, [.ref ml, .ref mm, .ref mit, .ref ms, .int (st), .ref mt, .int (nI tn), .int (fk), .int (fp), .int (av), .int (sv), .int (ov), .int (vv), .ref nw, .ref dr, .ref tr, .ref pa, .int (nI ac), .ref ig, .ref kx, .ref be, .ref tc, .int (nI ((td + 1) + 1))])), (nw, .inl (cy 0, 29, .inl f)), (tc, .inl (cy 0, 16, .inl (upd (upd tf td (nI 13)) (td + 1) (nI 10))))]) [1, 0, 2] rfl
  have hD9 := hD.sub (ws' := [(m0, .inr (7, [.ref ml, .ref mm, .ref mit, .ref ms, .int (st), .ref mt, .int (nI tn), .int (fk), .int (fp), .int (av), .int (sv), .int (ov), .int (vv), .ref nw, .ref dr, .ref tr, .ref pa, .int (nI ac), .ref ig, .ref kx, .ref be, .ref tc, .int (nI ((td + 1) + 1))])), (nw, .inl (cy 0, 29, .inl f)), (tc, .inl (cy 0, 16, .inl (upd (upd tf td (nI 13)) (td + 1) (nI 10))))]) [1, 0, 2] (by decide) rfl
  exact q_wiret (v := (nI (ctT w c)) - (nI 100)) hx hb hr hlocks dX7_stainSize_64 hP9 hD9 hS (⟨rfl, rfl⟩)
theorem nX7_stainSize_5_0 : ∀ w ∈ wsX70, w ∈ wsX7_stainSize := by decide +kernel
theorem mX7_stainSize_5_1 : Cond.fieldLink RX7 25 "ClueLeaveModel" "now" "[I" ∈ wsX7_stainSize := by decide +kernel
set_option maxHeartbeats 4000000 in
set_option maxRecDepth 100000 in
theorem c_X7_stainSize_5 (l : Launch) (D : va_G) (cy : Nat → ClassId) (m0 ml mm mit ms mt nw dr tr pa ig kx be tc : Nat) (st fk fp av sv ov vv : Int32) (tn ac td : Nat) (f : Nat → Int32) (w : Nat → Nat) (hm : mwIs w f) (hv : ctOk w) (tf : Nat → Int32) (htd : td + 3 ≤ 16) (c : Nat) (hc : c < w 4) (hkd : ctK w c = 5) : q_Wi l yX7_stainSize wsX7_stainSize 2 D cy [(m0, .inr (7, [.ref ml, .ref mm, .ref mit, .ref ms, .int (st), .ref mt, .int (nI tn), .int (fk), .int (fp), .int (av), .int (sv), .int (ov), .int (vv), .ref nw, .ref dr, .ref tr, .ref pa, .int (nI ac), .ref ig, .ref kx, .ref be, .ref tc, .int (nI td)])), (nw, .inl (cy 0, 29, .inl f)), (tc, .inl (cy 0, 16, .inl tf))] [.ref m0, .int (nI c)] (fun r u => r = (nI 2) * (nI (ctT w c) - nI 100) ∧ u = [(m0, .inr (7, [.ref ml, .ref mm, .ref mit, .ref ms, .int (st), .ref mt, .int (nI tn), .int (fk), .int (fp), .int (av), .int (sv), .int (ov), .int (vv), .ref nw, .ref dr, .ref tr, .ref pa, .int (nI ac), .ref ig, .ref kx, .ref be, .ref tc, .int (nI (td + 3))])), (nw, .inl (cy 0, 29, .inl f)), (tc, .inl (cy 0, 16, .inl (trP tf td [14, 13, 10])))]) := by
  refine q_wi_of (cc := cX7_stainSize) (maxL := 4) (ret := (some .int)) (by decide) rfl (Nat.le_of_ble_eq_true rfl) ?_
  intro pg en s mi args below meth cd A hC hA hK H locs hP hD hS ls hl
  obtain ⟨hx, hb, hr, hml, hown, hts, hlocks⟩ := hC
  have hl : lv_has ls 4 [(0, .ref m0), (1, .int (nI c))] := hl
  obtain ⟨hv0, hv1, hv2, hv3, hv4, hvc⟩ := id hv
  obtain ⟨hk1, hk5, ht1, ht2, he2, he4, ho1⟩ := hvc c hc
  refine lv_aload_n hx hb dX7_stainSize_0 rfl (lv_at hl 0 rfl) ?_
  refine lv_iload_n hx hb dX7_stainSize_1 rfl (lv_at hl 1 rfl) ?_
  refine q_rV (As := [.int (nI c)]) (rest := []) ⟨hx, hb, hml, hown, hts⟩ (c_X7_kindIn l D cy m0 ml mm mit ms mt nw dr tr pa ig kx be tc st fk fp av sv ov vv tn ac td f w hm hv c (by omega)) (cwV 1 hts gX7_stainSize_X7_kindIn rfl rfl rfl (by decide +kernel) ⟨Nat.le_of_ble_eq_true rfl, Nat.le_of_ble_eq_true rfl⟩) hP hK [0, 1] rfl 0 rfl rfl rfl rfl hl.1 rfl (Nat.le_of_ble_eq_true rfl) dX7_stainSize_2 ⟨Nat.zero_le _, Nat.zero_le _⟩ (fun r1 hr1 => ?_)
  obtain rfl := hr1
  refine q_top (y := nI 5) (by rw [hkd]) ?_
  refine lv_iconst (v := nI 5) hx hb dX7_stainSize_5 (by decide) ?_
  refine lv_icmp_ne (tgt := 13) hx hb dX7_stainSize_6 (by decide) (fun c9 => absurd (by decide) c9) (fun _ => ?_)
  refine lv_iconst (v := nI 1) hx hb dX7_stainSize_9 (by decide) ?_
  refine lv_goto (tgt := 14) hx hb dX7_stainSize_10 (by decide) ?_
  refine lv_istore_n (lv' := [(2, .int (nI 1)), (0, .ref m0), (1, .int (nI c))]) hx hb dX7_stainSize_14 rfl hl (by decide) rfl (fun ls hl => ?_)
  refine lv_iload_n hx hb dX7_stainSize_15 rfl (lv_at hl 0 rfl) ?_
  refine lv_if_eq (tgt := 25) hx hb dX7_stainSize_16 (by decide) (fun c9 => absurd c9 (by decide)) (fun _ => ?_)
  refine lv_aload_n hx hb dX7_stainSize_19 rfl (lv_at hl 1 rfl) ?_
  refine lv_bipush (v := nI 14) hx hb dX7_stainSize_20 (by decide) ?_
  refine q_wvV (As := [.int (nI 14)]) (rest := []) (wr := [(nw, .inl (cy 0, 29, .inl f))]) ⟨hx, hb, hml, hown, hts⟩ (c_X7_begins l D cy m0 ml mm mit ms mt nw dr tr pa ig kx be tc st fk fp av sv ov vv tn ac td tf (by omega) (nI 14)) (cwV 1 hts gX7_stainSize_X7_begins rfl rfl rfl (by decide +kernel) ⟨Nat.le_of_ble_eq_true rfl, Nat.le_of_ble_eq_true rfl⟩) hP hD hS hA hK [0, 2] [1] rfl rfl (by decide) rfl (by decide) (by decide) 0 rfl rfl rfl rfl hl.1 rfl (Nat.le_of_ble_eq_true rfl) dX7_stainSize_22 ⟨Nat.zero_le _, Nat.zero_le _⟩ (fun u3 H locs hr2 hP hD hS => ?_)
  obtain rfl := hr2
  have hP : va_P D vwCl [(nw, .inl (cy 0, 29, .inl f)), (m0, .inr (7, [.ref ml, .ref mm, .ref mit, .ref ms, .int (st), .ref mt, .int (nI tn), .int (fk), .int (fp), .int (av), .int (sv), .int (ov), .int (vv), .ref nw, .ref dr, .ref tr, .ref pa, .int (nI ac), .ref ig, .ref kx, .ref be, .ref tc, .int (nI (td + 1))])), (tc, .inl (cy 0, 16, .inl (upd tf td (nI 14))))] H := hP
  have hD : va_D A [(nw, .inl (cy 0, 29, .inl f)), (m0, .inr (7, [.ref ml, .ref mm, .ref mit, .ref ms, .int (st), .ref mt, .int (nI tn), .int (fk), .int (fp), .int (av), .int (sv), .int (ov), .int (vv), .ref nw, .ref dr, .ref tr, .ref pa, .int (nI ac), .ref ig, .ref kx, .ref be, .ref tc, .int (nI (td + 1))])), (tc, .inl (cy 0, 16, .inl (upd tf td (nI 14))))] := hD
  refine lv_aload_n hx hb dX7_stainSize_25 rfl (lv_at hl 1 rfl) ?_
  refine lv_bipush (v := nI 13) hx hb dX7_stainSize_26 (by decide) ?_
  refine q_wvV (As := [.int (nI 13)]) (rest := []) (wr := [(nw, .inl (cy 0, 29, .inl f))]) ⟨hx, hb, hml, hown, hts⟩ (c_X7_begins l D cy m0 ml mm mit ms mt nw dr tr pa ig kx be tc st fk fp av sv ov vv tn ac (td + 1) (upd tf td (nI 14)) (by omega) (nI 13)) (cwV 1 hts gX7_stainSize_X7_begins rfl rfl rfl (by decide +kernel) ⟨Nat.le_of_ble_eq_true rfl, Nat.le_of_ble_eq_true rfl⟩) hP hD hS hA hK [1, 2] [0] rfl rfl (by decide) rfl (by decide) (by decide) 1 rfl rfl rfl rfl hl.1 rfl (Nat.le_of_ble_eq_true rfl) dX7_stainSize_28 ⟨Nat.zero_le _, Nat.zero_le _⟩ (fun u5 H locs hr4 hP hD hS => ?_)
  obtain rfl := hr4
  have hP : va_P D vwCl [(nw, .inl (cy 0, 29, .inl f)), (m0, .inr (7, [.ref ml, .ref mm, .ref mit, .ref ms, .int (st), .ref mt, .int (nI tn), .int (fk), .int (fp), .int (av), .int (sv), .int (ov), .int (vv), .ref nw, .ref dr, .ref tr, .ref pa, .int (nI ac), .ref ig, .ref kx, .ref be, .ref tc, .int (nI ((td + 1) + 1))])), (tc, .inl (cy 0, 16, .inl (upd (upd tf td (nI 14)) (td + 1) (nI 13))))] H := hP
  have hD : va_D A [(nw, .inl (cy 0, 29, .inl f)), (m0, .inr (7, [.ref ml, .ref mm, .ref mit, .ref ms, .int (st), .ref mt, .int (nI tn), .int (fk), .int (fp), .int (av), .int (sv), .int (ov), .int (vv), .ref nw, .ref dr, .ref tr, .ref pa, .int (nI ac), .ref ig, .ref kx, .ref be, .ref tc, .int (nI ((td + 1) + 1))])), (tc, .inl (cy 0, 16, .inl (upd (upd tf td (nI 14)) (td + 1) (nI 13))))] := hD
  refine lv_aload_n hx hb dX7_stainSize_31 rfl (lv_at hl 1 rfl) ?_
  refine lv_bipush (v := nI 10) hx hb dX7_stainSize_32 (by decide) ?_
  refine q_wvV (As := [.int (nI 10)]) (rest := []) (wr := [(nw, .inl (cy 0, 29, .inl f))]) ⟨hx, hb, hml, hown, hts⟩ (c_X7_begins l D cy m0 ml mm mit ms mt nw dr tr pa ig kx be tc st fk fp av sv ov vv tn ac ((td + 1) + 1) (upd (upd tf td (nI 14)) (td + 1) (nI 13)) (by omega) (nI 10)) (cwV 1 hts gX7_stainSize_X7_begins rfl rfl rfl (by decide +kernel) ⟨Nat.le_of_ble_eq_true rfl, Nat.le_of_ble_eq_true rfl⟩) hP hD hS hA hK [1, 2] [0] rfl rfl (by decide) rfl (by decide) (by decide) 1 rfl rfl rfl rfl hl.1 rfl (Nat.le_of_ble_eq_true rfl) dX7_stainSize_34 ⟨Nat.zero_le _, Nat.zero_le _⟩ (fun u7 H locs hr6 hP hD hS => ?_)
  obtain rfl := hr6
  have hP : va_P D vwCl [(nw, .inl (cy 0, 29, .inl f)), (m0, .inr (7, [.ref ml, .ref mm, .ref mit, .ref ms, .int (st), .ref mt, .int (nI tn), .int (fk), .int (fp), .int (av), .int (sv), .int (ov), .int (vv), .ref nw, .ref dr, .ref tr, .ref pa, .int (nI ac), .ref ig, .ref kx, .ref be, .ref tc, .int (nI (((td + 1) + 1) + 1))])), (tc, .inl (cy 0, 16, .inl (upd (upd (upd tf td (nI 14)) (td + 1) (nI 13)) ((td + 1) + 1) (nI 10))))] H := hP
  have hD : va_D A [(nw, .inl (cy 0, 29, .inl f)), (m0, .inr (7, [.ref ml, .ref mm, .ref mit, .ref ms, .int (st), .ref mt, .int (nI tn), .int (fk), .int (fp), .int (av), .int (sv), .int (ov), .int (vv), .ref nw, .ref dr, .ref tr, .ref pa, .int (nI ac), .ref ig, .ref kx, .ref be, .ref tc, .int (nI (((td + 1) + 1) + 1))])), (tc, .inl (cy 0, 16, .inl (upd (upd (upd tf td (nI 14)) (td + 1) (nI 13)) ((td + 1) + 1) (nI 10))))] := hD
  refine lv_aload_n hx hb dX7_stainSize_37 rfl (lv_at hl 1 rfl) ?_
  refine va_get (D := D) (ci := 7) (v := .ref nw) (C := RX7) (T := TX7) (N := 23) hx hb hts nX7_stainSize_5_0 hown hK.1 hP 1 rfl rfl 13 (by decide) (hts _ mX7_stainSize_5_1) (fun _ h9 => h9) rfl dX7_stainSize_38 ?_
  refine lv_iconst (v := nI 5) hx hb dX7_stainSize_41 (by decide) ?_
  refine lv_iconst (v := nI 4) hx hb dX7_stainSize_42 (by decide) ?_
  refine lv_iload_n hx hb dX7_stainSize_43 rfl (lv_at hl 2 rfl) ?_
  refine lv_imul hx hb dX7_stainSize_44 ?_
  refine q_top (y := nI (4 * c)) (pk_mul _ _) ?_
  refine lv_iadd hx hb dX7_stainSize_45 ?_
  refine q_top (y := nI (5 + (4 * c))) (nI_add _ _) ?_
  refine lv_iconst (v := nI 1) hx hb dX7_stainSize_46 (by decide) ?_
  refine lv_iadd hx hb dX7_stainSize_47 ?_
  refine q_top (y := nI ((5 + (4 * c)) + 1)) (nI_add _ _) ?_
  refine q_iald (j := ((5 + (4 * c)) + 1)) (v := nI (w ((5 + (4 * c)) + 1))) hx hb hK hP 0 rfl (by omega) (by decide) (hm _ (by omega)) dX7_stainSize_48 ?_
  refine q_top (y := nI (ctT w c)) (congrArg nI (ctT_e w c)) ?_
  refine lv_bipush (v := nI 100) hx hb dX7_stainSize_49 (by decide) ?_
  refine lv_isub hx hb dX7_stainSize_51 ?_
  refine lv_istore_n (lv' := [(3, .int ((nI (ctT w c)) - (nI 100))), (2, .int (nI 1)), (0, .ref m0), (1, .int (nI c))]) hx hb dX7_stainSize_52 rfl hl (by decide) rfl (fun ls hl => ?_)
  refine lv_iload_n hx hb dX7_stainSize_53 rfl (lv_at hl 1 rfl) ?_
  refine lv_if_eq (tgt := 63) hx hb dX7_stainSize_54 (by decide) (fun c9 => absurd c9 (by decide)) (fun _ => ?_)
  refine lv_iconst (v := nI 2) hx hb dX7_stainSize_57 (by decide) ?_
  refine lv_iload_n hx hb dX7_stainSize_58 rfl (lv_at hl 0 rfl) ?_
  refine lv_imul hx hb dX7_stainSize_59 ?_
  refine lv_goto (tgt := 64) hx hb dX7_stainSize_60 (by decide) ?_
  have hP9 := hP.sub (ws' := [(m0, .inr (7, [.ref ml, .ref mm, .ref mit, .ref ms, .int (st), .ref mt, .int (nI tn), .int (fk), .int (fp), .int (av), .int (sv), .int (ov), .int (vv), .ref nw, .ref dr, .ref tr, .ref pa, .int (nI ac), .ref ig, .ref kx, .ref be, .ref tc, .int (nI (((td + 1) + 1) + 1))])), (nw, .inl (cy 0, 29, .inl f)), (tc, .inl (cy 0, 16, .inl (upd (upd (upd tf td (nI 14)) (td + 1) (nI 13)) ((td + 1) + 1) (nI 10))))]) [1, 0, 2] rfl
  have hD9 := hD.sub (ws' := [(m0, .inr (7, [.ref ml, .ref mm, .ref mit, .ref ms, .int (st), .ref mt, .int (nI tn), .int (fk), .int (fp), .int (av), .int (sv), .int (ov), .int (vv), .ref nw, .ref dr, .ref tr, .ref pa, .int (nI ac), .ref ig, .ref kx, .ref be, .ref tc, .int (nI (((td + 1) + 1) + 1))])), (nw, .inl (cy 0, 29, .inl f)), (tc, .inl (cy 0, 16, .inl (upd (upd (upd tf td (nI 14)) (td + 1) (nI 13)) ((td + 1) + 1) (nI 10))))]) [1, 0, 2] (by decide) rfl
  exact q_wiret (v := (nI 2) * ((nI (ctT w c)) - (nI 100))) hx hb hr hlocks dX7_stainSize_64 hP9 hD9 hS (⟨rfl, rfl⟩)
theorem nX7_threadSize_1_0 : ∀ w ∈ wsX70, w ∈ wsX7_threadSize := by decide +kernel
theorem mX7_threadSize_1_1 : Cond.fieldLink RX7 25 "ClueLeaveModel" "now" "[I" ∈ wsX7_threadSize := by decide +kernel
set_option maxHeartbeats 4000000 in
set_option maxRecDepth 100000 in
theorem c_X7_threadSize_1 (l : Launch) (D : va_G) (cy : Nat → ClassId) (m0 ml mm mit ms mt nw dr tr pa ig kx be tc : Nat) (st fk fp av sv ov vv : Int32) (tn ac td : Nat) (f : Nat → Int32) (w : Nat → Nat) (hm : mwIs w f) (hv : ctOk w) (tf : Nat → Int32) (htd : td + 4 ≤ 16) (c : Nat) (hc : c < w 4) (hkd : ctK w c = 1) : q_Wi l yX7_threadSize wsX7_threadSize 3 D cy [(m0, .inr (7, [.ref ml, .ref mm, .ref mit, .ref ms, .int (st), .ref mt, .int (nI tn), .int (fk), .int (fp), .int (av), .int (sv), .int (ov), .int (vv), .ref nw, .ref dr, .ref tr, .ref pa, .int (nI ac), .ref ig, .ref kx, .ref be, .ref tc, .int (nI td)])), (nw, .inl (cy 0, 29, .inl f)), (tc, .inl (cy 0, 16, .inl tf))] [.ref m0, .int (nI c)] (fun r u => r = nI (ctT w c + (c + ctO w c)) ∧ u = [(m0, .inr (7, [.ref ml, .ref mm, .ref mit, .ref ms, .int (st), .ref mt, .int (nI tn), .int (fk), .int (fp), .int (av), .int (sv), .int (ov), .int (vv), .ref nw, .ref dr, .ref tr, .ref pa, .int (nI ac), .ref ig, .ref kx, .ref be, .ref tc, .int (nI (td + 4))])), (nw, .inl (cy 0, 29, .inl f)), (tc, .inl (cy 0, 16, .inl (trP tf td [11, 10, 21, 20])))]) := by
  refine q_wi_of (cc := cX7_threadSize) (maxL := 4) (ret := (some .int)) (by decide) rfl (Nat.le_of_ble_eq_true rfl) ?_
  intro pg en s mi args below meth cd A hC hA hK H locs hP hD hS ls hl
  obtain ⟨hx, hb, hr, hml, hown, hts, hlocks⟩ := hC
  have hl : lv_has ls 4 [(0, .ref m0), (1, .int (nI c))] := hl
  obtain ⟨hv0, hv1, hv2, hv3, hv4, hvc⟩ := id hv
  obtain ⟨hk1, hk5, ht1, ht2, he2, he4, ho1⟩ := hvc c hc
  refine lv_aload_n hx hb dX7_threadSize_0 rfl (lv_at hl 0 rfl) ?_
  refine lv_iload_n hx hb dX7_threadSize_1 rfl (lv_at hl 1 rfl) ?_
  refine q_rV (As := [.int (nI c)]) (rest := []) ⟨hx, hb, hml, hown, hts⟩ (c_X7_kindIn l D cy m0 ml mm mit ms mt nw dr tr pa ig kx be tc st fk fp av sv ov vv tn ac td f w hm hv c (by omega)) (cwV 1 hts gX7_threadSize_X7_kindIn rfl rfl rfl (by decide +kernel) ⟨Nat.le_of_ble_eq_true rfl, Nat.le_of_ble_eq_true rfl⟩) hP hK [0, 1] rfl 0 rfl rfl rfl rfl hl.1 rfl (Nat.le_of_ble_eq_true rfl) dX7_threadSize_2 ⟨Nat.zero_le _, Nat.zero_le _⟩ (fun r1 hr1 => ?_)
  obtain rfl := hr1
  refine q_top (y := nI 1) (by rw [hkd]) ?_
  refine lv_iconst (v := nI 2) hx hb dX7_threadSize_5 (by decide) ?_
  refine lv_icmp_ne (tgt := 13) hx hb dX7_threadSize_6 (by decide) (fun _ => ?_) (fun c9 => absurd c9 (by decide))
  refine lv_iconst (v := nI 0) hx hb dX7_threadSize_13 (by decide) ?_
  refine lv_istore_n (lv' := [(2, .int (nI 0)), (0, .ref m0), (1, .int (nI c))]) hx hb dX7_threadSize_14 rfl hl (by decide) rfl (fun ls hl => ?_)
  refine lv_iload_n hx hb dX7_threadSize_15 rfl (lv_at hl 0 rfl) ?_
  refine lv_if_eq (tgt := 25) hx hb dX7_threadSize_16 (by decide) (fun _ => ?_) (fun c9 => absurd (by decide) c9)
  refine lv_aload_n hx hb dX7_threadSize_25 rfl (lv_at hl 1 rfl) ?_
  refine lv_bipush (v := nI 11) hx hb dX7_threadSize_26 (by decide) ?_
  refine q_wvV (As := [.int (nI 11)]) (rest := []) (wr := [(nw, .inl (cy 0, 29, .inl f))]) ⟨hx, hb, hml, hown, hts⟩ (c_X7_begins l D cy m0 ml mm mit ms mt nw dr tr pa ig kx be tc st fk fp av sv ov vv tn ac td tf (by omega) (nI 11)) (cwV 1 hts gX7_threadSize_X7_begins rfl rfl rfl (by decide +kernel) ⟨Nat.le_of_ble_eq_true rfl, Nat.le_of_ble_eq_true rfl⟩) hP hD hS hA hK [0, 2] [1] rfl rfl (by decide) rfl (by decide) (by decide) 0 rfl rfl rfl rfl hl.1 rfl (Nat.le_of_ble_eq_true rfl) dX7_threadSize_28 ⟨Nat.zero_le _, Nat.zero_le _⟩ (fun u3 H locs hr2 hP hD hS => ?_)
  obtain rfl := hr2
  have hP : va_P D vwCl [(nw, .inl (cy 0, 29, .inl f)), (m0, .inr (7, [.ref ml, .ref mm, .ref mit, .ref ms, .int (st), .ref mt, .int (nI tn), .int (fk), .int (fp), .int (av), .int (sv), .int (ov), .int (vv), .ref nw, .ref dr, .ref tr, .ref pa, .int (nI ac), .ref ig, .ref kx, .ref be, .ref tc, .int (nI (td + 1))])), (tc, .inl (cy 0, 16, .inl (upd tf td (nI 11))))] H := hP
  have hD : va_D A [(nw, .inl (cy 0, 29, .inl f)), (m0, .inr (7, [.ref ml, .ref mm, .ref mit, .ref ms, .int (st), .ref mt, .int (nI tn), .int (fk), .int (fp), .int (av), .int (sv), .int (ov), .int (vv), .ref nw, .ref dr, .ref tr, .ref pa, .int (nI ac), .ref ig, .ref kx, .ref be, .ref tc, .int (nI (td + 1))])), (tc, .inl (cy 0, 16, .inl (upd tf td (nI 11))))] := hD
  refine lv_aload_n hx hb dX7_threadSize_31 rfl (lv_at hl 1 rfl) ?_
  refine lv_bipush (v := nI 10) hx hb dX7_threadSize_32 (by decide) ?_
  refine q_wvV (As := [.int (nI 10)]) (rest := []) (wr := [(nw, .inl (cy 0, 29, .inl f))]) ⟨hx, hb, hml, hown, hts⟩ (c_X7_begins l D cy m0 ml mm mit ms mt nw dr tr pa ig kx be tc st fk fp av sv ov vv tn ac (td + 1) (upd tf td (nI 11)) (by omega) (nI 10)) (cwV 1 hts gX7_threadSize_X7_begins rfl rfl rfl (by decide +kernel) ⟨Nat.le_of_ble_eq_true rfl, Nat.le_of_ble_eq_true rfl⟩) hP hD hS hA hK [1, 2] [0] rfl rfl (by decide) rfl (by decide) (by decide) 1 rfl rfl rfl rfl hl.1 rfl (Nat.le_of_ble_eq_true rfl) dX7_threadSize_34 ⟨Nat.zero_le _, Nat.zero_le _⟩ (fun u5 H locs hr4 hP hD hS => ?_)
  obtain rfl := hr4
  have hP : va_P D vwCl [(nw, .inl (cy 0, 29, .inl f)), (m0, .inr (7, [.ref ml, .ref mm, .ref mit, .ref ms, .int (st), .ref mt, .int (nI tn), .int (fk), .int (fp), .int (av), .int (sv), .int (ov), .int (vv), .ref nw, .ref dr, .ref tr, .ref pa, .int (nI ac), .ref ig, .ref kx, .ref be, .ref tc, .int (nI ((td + 1) + 1))])), (tc, .inl (cy 0, 16, .inl (upd (upd tf td (nI 11)) (td + 1) (nI 10))))] H := hP
  have hD : va_D A [(nw, .inl (cy 0, 29, .inl f)), (m0, .inr (7, [.ref ml, .ref mm, .ref mit, .ref ms, .int (st), .ref mt, .int (nI tn), .int (fk), .int (fp), .int (av), .int (sv), .int (ov), .int (vv), .ref nw, .ref dr, .ref tr, .ref pa, .int (nI ac), .ref ig, .ref kx, .ref be, .ref tc, .int (nI ((td + 1) + 1))])), (tc, .inl (cy 0, 16, .inl (upd (upd tf td (nI 11)) (td + 1) (nI 10))))] := hD
  refine lv_aload_n hx hb dX7_threadSize_37 rfl (lv_at hl 1 rfl) ?_
  refine va_get (D := D) (ci := 7) (v := .ref nw) (C := RX7) (T := TX7) (N := 23) hx hb hts nX7_threadSize_1_0 hown hK.1 hP 1 rfl rfl 13 (by decide) (hts _ mX7_threadSize_1_1) (fun _ h9 => h9) rfl dX7_threadSize_38 ?_
  refine lv_iconst (v := nI 5) hx hb dX7_threadSize_41 (by decide) ?_
  refine lv_iconst (v := nI 4) hx hb dX7_threadSize_42 (by decide) ?_
  refine lv_iload_n hx hb dX7_threadSize_43 rfl (lv_at hl 2 rfl) ?_
  refine lv_imul hx hb dX7_threadSize_44 ?_
  refine q_top (y := nI (4 * c)) (pk_mul _ _) ?_
  refine lv_iadd hx hb dX7_threadSize_45 ?_
  refine q_top (y := nI (5 + (4 * c))) (nI_add _ _) ?_
  refine lv_iconst (v := nI 1) hx hb dX7_threadSize_46 (by decide) ?_
  refine lv_iadd hx hb dX7_threadSize_47 ?_
  refine q_top (y := nI ((5 + (4 * c)) + 1)) (nI_add _ _) ?_
  refine q_iald (j := ((5 + (4 * c)) + 1)) (v := nI (w ((5 + (4 * c)) + 1))) hx hb hK hP 0 rfl (by omega) (by decide) (hm _ (by omega)) dX7_threadSize_48 ?_
  refine q_top (y := nI (ctT w c)) (congrArg nI (ctT_e w c)) ?_
  refine lv_aload_n hx hb dX7_threadSize_49 rfl (lv_at hl 1 rfl) ?_
  refine lv_iload_n hx hb dX7_threadSize_50 rfl (lv_at hl 2 rfl) ?_
  refine q_wiV (As := [.int (nI c)]) (rest := [.int (nI (ctT w c))]) (wr := []) ⟨hx, hb, hml, hown, hts⟩ (c_X7_threadMark_1 l D cy m0 ml mm mit ms mt nw dr tr pa ig kx be tc st fk fp av sv ov vv tn ac ((td + 1) + 1) f w hm hv (upd (upd tf td (nI 11)) (td + 1) (nI 10)) (by omega) c hc hkd) (cwV 1 hts gX7_threadSize_X7_threadMark rfl rfl rfl (by decide +kernel) ⟨Nat.le_of_ble_eq_true rfl, Nat.le_of_ble_eq_true rfl⟩) hP hD hS hA hK [1, 0, 2] [] rfl rfl (by decide) rfl (by decide) (by decide) 1 rfl rfl rfl rfl hl.1 rfl (Nat.le_of_ble_eq_true rfl) dX7_threadSize_51 ⟨Nat.zero_le _, Nat.zero_le _⟩ (fun r6 u7 H locs hr6 hP hD hS => ?_)
  obtain ⟨rfl, rfl⟩ := hr6
  have hP : va_P D vwCl [(m0, .inr (7, [.ref ml, .ref mm, .ref mit, .ref ms, .int (st), .ref mt, .int (nI tn), .int (fk), .int (fp), .int (av), .int (sv), .int (ov), .int (vv), .ref nw, .ref dr, .ref tr, .ref pa, .int (nI ac), .ref ig, .ref kx, .ref be, .ref tc, .int (nI (((td + 1) + 1) + 2))])), (nw, .inl (cy 0, 29, .inl f)), (tc, .inl (cy 0, 16, .inl (trP (upd (upd tf td (nI 11)) (td + 1) (nI 10)) ((td + 1) + 1) [21, 20])))] H := hP
  have hD : va_D A [(m0, .inr (7, [.ref ml, .ref mm, .ref mit, .ref ms, .int (st), .ref mt, .int (nI tn), .int (fk), .int (fp), .int (av), .int (sv), .int (ov), .int (vv), .ref nw, .ref dr, .ref tr, .ref pa, .int (nI ac), .ref ig, .ref kx, .ref be, .ref tc, .int (nI (((td + 1) + 1) + 2))])), (nw, .inl (cy 0, 29, .inl f)), (tc, .inl (cy 0, 16, .inl (trP (upd (upd tf td (nI 11)) (td + 1) (nI 10)) ((td + 1) + 1) [21, 20])))] := hD
  refine lv_iadd hx hb dX7_threadSize_54 ?_
  refine q_top (y := nI ((ctT w c) + (c + ctO w c))) (nI_add _ _) ?_
  refine lv_istore_n (lv' := [(3, .int (nI ((ctT w c) + (c + ctO w c)))), (2, .int (nI 0)), (0, .ref m0), (1, .int (nI c))]) hx hb dX7_threadSize_55 rfl hl (by decide) rfl (fun ls hl => ?_)
  refine lv_iload_n hx hb dX7_threadSize_56 rfl (lv_at hl 1 rfl) ?_
  refine lv_if_eq (tgt := 65) hx hb dX7_threadSize_57 (by decide) (fun _ => ?_) (fun c9 => absurd (by decide) c9)
  refine lv_iload_n hx hb dX7_threadSize_65 rfl (lv_at hl 0 rfl) ?_
  have hP9 := hP
  have hD9 := hD
  exact q_wiret (v := nI ((ctT w c) + (c + ctO w c))) hx hb hr hlocks dX7_threadSize_66 hP9 hD9 hS (⟨rfl, rfl⟩)
theorem nX7_threadSize_2_0 : ∀ w ∈ wsX70, w ∈ wsX7_threadSize := by decide +kernel
theorem mX7_threadSize_2_1 : Cond.fieldLink RX7 25 "ClueLeaveModel" "now" "[I" ∈ wsX7_threadSize := by decide +kernel
set_option maxHeartbeats 4000000 in
set_option maxRecDepth 100000 in
theorem c_X7_threadSize_2 (l : Launch) (D : va_G) (cy : Nat → ClassId) (m0 ml mm mit ms mt nw dr tr pa ig kx be tc : Nat) (st fk fp av sv ov vv : Int32) (tn ac td : Nat) (f : Nat → Int32) (w : Nat → Nat) (hm : mwIs w f) (hv : ctOk w) (tf : Nat → Int32) (htd : td + 6 ≤ 16) (c : Nat) (hc : c < w 4) (hkd : ctK w c = 2) : q_Wi l yX7_threadSize wsX7_threadSize 3 D cy [(m0, .inr (7, [.ref ml, .ref mm, .ref mit, .ref ms, .int (st), .ref mt, .int (nI tn), .int (fk), .int (fp), .int (av), .int (sv), .int (ov), .int (vv), .ref nw, .ref dr, .ref tr, .ref pa, .int (nI ac), .ref ig, .ref kx, .ref be, .ref tc, .int (nI td)])), (nw, .inl (cy 0, 29, .inl f)), (tc, .inl (cy 0, 16, .inl tf))] [.ref m0, .int (nI c)] (fun r u => r = -(nI (ctT w c + (2 * (c + ctO w c)))) ∧ u = [(m0, .inr (7, [.ref ml, .ref mm, .ref mit, .ref ms, .int (st), .ref mt, .int (nI tn), .int (fk), .int (fp), .int (av), .int (sv), .int (ov), .int (vv), .ref nw, .ref dr, .ref tr, .ref pa, .int (nI ac), .ref ig, .ref kx, .ref be, .ref tc, .int (nI (td + 6))])), (nw, .inl (cy 0, 29, .inl f)), (tc, .inl (cy 0, 16, .inl (trP tf td [12, 11, 10, 24, 21, 20])))]) := by
  refine q_wi_of (cc := cX7_threadSize) (maxL := 4) (ret := (some .int)) (by decide) rfl (Nat.le_of_ble_eq_true rfl) ?_
  intro pg en s mi args below meth cd A hC hA hK H locs hP hD hS ls hl
  obtain ⟨hx, hb, hr, hml, hown, hts, hlocks⟩ := hC
  have hl : lv_has ls 4 [(0, .ref m0), (1, .int (nI c))] := hl
  obtain ⟨hv0, hv1, hv2, hv3, hv4, hvc⟩ := id hv
  obtain ⟨hk1, hk5, ht1, ht2, he2, he4, ho1⟩ := hvc c hc
  refine lv_aload_n hx hb dX7_threadSize_0 rfl (lv_at hl 0 rfl) ?_
  refine lv_iload_n hx hb dX7_threadSize_1 rfl (lv_at hl 1 rfl) ?_
  refine q_rV (As := [.int (nI c)]) (rest := []) ⟨hx, hb, hml, hown, hts⟩ (c_X7_kindIn l D cy m0 ml mm mit ms mt nw dr tr pa ig kx be tc st fk fp av sv ov vv tn ac td f w hm hv c (by omega)) (cwV 1 hts gX7_threadSize_X7_kindIn rfl rfl rfl (by decide +kernel) ⟨Nat.le_of_ble_eq_true rfl, Nat.le_of_ble_eq_true rfl⟩) hP hK [0, 1] rfl 0 rfl rfl rfl rfl hl.1 rfl (Nat.le_of_ble_eq_true rfl) dX7_threadSize_2 ⟨Nat.zero_le _, Nat.zero_le _⟩ (fun r1 hr1 => ?_)
  obtain rfl := hr1
  refine q_top (y := nI 2) (by rw [hkd]) ?_
  refine lv_iconst (v := nI 2) hx hb dX7_threadSize_5 (by decide) ?_
  refine lv_icmp_ne (tgt := 13) hx hb dX7_threadSize_6 (by decide) (fun c9 => absurd (by decide) c9) (fun _ => ?_)
  refine lv_iconst (v := nI 1) hx hb dX7_threadSize_9 (by decide) ?_
  refine lv_goto (tgt := 14) hx hb dX7_threadSize_10 (by decide) ?_
  refine lv_istore_n (lv' := [(2, .int (nI 1)), (0, .ref m0), (1, .int (nI c))]) hx hb dX7_threadSize_14 rfl hl (by decide) rfl (fun ls hl => ?_)
  refine lv_iload_n hx hb dX7_threadSize_15 rfl (lv_at hl 0 rfl) ?_
  refine lv_if_eq (tgt := 25) hx hb dX7_threadSize_16 (by decide) (fun c9 => absurd c9 (by decide)) (fun _ => ?_)
  refine lv_aload_n hx hb dX7_threadSize_19 rfl (lv_at hl 1 rfl) ?_
  refine lv_bipush (v := nI 12) hx hb dX7_threadSize_20 (by decide) ?_
  refine q_wvV (As := [.int (nI 12)]) (rest := []) (wr := [(nw, .inl (cy 0, 29, .inl f))]) ⟨hx, hb, hml, hown, hts⟩ (c_X7_begins l D cy m0 ml mm mit ms mt nw dr tr pa ig kx be tc st fk fp av sv ov vv tn ac td tf (by omega) (nI 12)) (cwV 1 hts gX7_threadSize_X7_begins rfl rfl rfl (by decide +kernel) ⟨Nat.le_of_ble_eq_true rfl, Nat.le_of_ble_eq_true rfl⟩) hP hD hS hA hK [0, 2] [1] rfl rfl (by decide) rfl (by decide) (by decide) 0 rfl rfl rfl rfl hl.1 rfl (Nat.le_of_ble_eq_true rfl) dX7_threadSize_22 ⟨Nat.zero_le _, Nat.zero_le _⟩ (fun u3 H locs hr2 hP hD hS => ?_)
  obtain rfl := hr2
  have hP : va_P D vwCl [(nw, .inl (cy 0, 29, .inl f)), (m0, .inr (7, [.ref ml, .ref mm, .ref mit, .ref ms, .int (st), .ref mt, .int (nI tn), .int (fk), .int (fp), .int (av), .int (sv), .int (ov), .int (vv), .ref nw, .ref dr, .ref tr, .ref pa, .int (nI ac), .ref ig, .ref kx, .ref be, .ref tc, .int (nI (td + 1))])), (tc, .inl (cy 0, 16, .inl (upd tf td (nI 12))))] H := hP
  have hD : va_D A [(nw, .inl (cy 0, 29, .inl f)), (m0, .inr (7, [.ref ml, .ref mm, .ref mit, .ref ms, .int (st), .ref mt, .int (nI tn), .int (fk), .int (fp), .int (av), .int (sv), .int (ov), .int (vv), .ref nw, .ref dr, .ref tr, .ref pa, .int (nI ac), .ref ig, .ref kx, .ref be, .ref tc, .int (nI (td + 1))])), (tc, .inl (cy 0, 16, .inl (upd tf td (nI 12))))] := hD
  refine lv_aload_n hx hb dX7_threadSize_25 rfl (lv_at hl 1 rfl) ?_
  refine lv_bipush (v := nI 11) hx hb dX7_threadSize_26 (by decide) ?_
  refine q_wvV (As := [.int (nI 11)]) (rest := []) (wr := [(nw, .inl (cy 0, 29, .inl f))]) ⟨hx, hb, hml, hown, hts⟩ (c_X7_begins l D cy m0 ml mm mit ms mt nw dr tr pa ig kx be tc st fk fp av sv ov vv tn ac (td + 1) (upd tf td (nI 12)) (by omega) (nI 11)) (cwV 1 hts gX7_threadSize_X7_begins rfl rfl rfl (by decide +kernel) ⟨Nat.le_of_ble_eq_true rfl, Nat.le_of_ble_eq_true rfl⟩) hP hD hS hA hK [1, 2] [0] rfl rfl (by decide) rfl (by decide) (by decide) 1 rfl rfl rfl rfl hl.1 rfl (Nat.le_of_ble_eq_true rfl) dX7_threadSize_28 ⟨Nat.zero_le _, Nat.zero_le _⟩ (fun u5 H locs hr4 hP hD hS => ?_)
  obtain rfl := hr4
  have hP : va_P D vwCl [(nw, .inl (cy 0, 29, .inl f)), (m0, .inr (7, [.ref ml, .ref mm, .ref mit, .ref ms, .int (st), .ref mt, .int (nI tn), .int (fk), .int (fp), .int (av), .int (sv), .int (ov), .int (vv), .ref nw, .ref dr, .ref tr, .ref pa, .int (nI ac), .ref ig, .ref kx, .ref be, .ref tc, .int (nI ((td + 1) + 1))])), (tc, .inl (cy 0, 16, .inl (upd (upd tf td (nI 12)) (td + 1) (nI 11))))] H := hP
  have hD : va_D A [(nw, .inl (cy 0, 29, .inl f)), (m0, .inr (7, [.ref ml, .ref mm, .ref mit, .ref ms, .int (st), .ref mt, .int (nI tn), .int (fk), .int (fp), .int (av), .int (sv), .int (ov), .int (vv), .ref nw, .ref dr, .ref tr, .ref pa, .int (nI ac), .ref ig, .ref kx, .ref be, .ref tc, .int (nI ((td + 1) + 1))])), (tc, .inl (cy 0, 16, .inl (upd (upd tf td (nI 12)) (td + 1) (nI 11))))] := hD
  refine lv_aload_n hx hb dX7_threadSize_31 rfl (lv_at hl 1 rfl) ?_
  refine lv_bipush (v := nI 10) hx hb dX7_threadSize_32 (by decide) ?_
  refine q_wvV (As := [.int (nI 10)]) (rest := []) (wr := [(nw, .inl (cy 0, 29, .inl f))]) ⟨hx, hb, hml, hown, hts⟩ (c_X7_begins l D cy m0 ml mm mit ms mt nw dr tr pa ig kx be tc st fk fp av sv ov vv tn ac ((td + 1) + 1) (upd (upd tf td (nI 12)) (td + 1) (nI 11)) (by omega) (nI 10)) (cwV 1 hts gX7_threadSize_X7_begins rfl rfl rfl (by decide +kernel) ⟨Nat.le_of_ble_eq_true rfl, Nat.le_of_ble_eq_true rfl⟩) hP hD hS hA hK [1, 2] [0] rfl rfl (by decide) rfl (by decide) (by decide) 1 rfl rfl rfl rfl hl.1 rfl (Nat.le_of_ble_eq_true rfl) dX7_threadSize_34 ⟨Nat.zero_le _, Nat.zero_le _⟩ (fun u7 H locs hr6 hP hD hS => ?_)
  obtain rfl := hr6
  have hP : va_P D vwCl [(nw, .inl (cy 0, 29, .inl f)), (m0, .inr (7, [.ref ml, .ref mm, .ref mit, .ref ms, .int (st), .ref mt, .int (nI tn), .int (fk), .int (fp), .int (av), .int (sv), .int (ov), .int (vv), .ref nw, .ref dr, .ref tr, .ref pa, .int (nI ac), .ref ig, .ref kx, .ref be, .ref tc, .int (nI (((td + 1) + 1) + 1))])), (tc, .inl (cy 0, 16, .inl (upd (upd (upd tf td (nI 12)) (td + 1) (nI 11)) ((td + 1) + 1) (nI 10))))] H := hP
  have hD : va_D A [(nw, .inl (cy 0, 29, .inl f)), (m0, .inr (7, [.ref ml, .ref mm, .ref mit, .ref ms, .int (st), .ref mt, .int (nI tn), .int (fk), .int (fp), .int (av), .int (sv), .int (ov), .int (vv), .ref nw, .ref dr, .ref tr, .ref pa, .int (nI ac), .ref ig, .ref kx, .ref be, .ref tc, .int (nI (((td + 1) + 1) + 1))])), (tc, .inl (cy 0, 16, .inl (upd (upd (upd tf td (nI 12)) (td + 1) (nI 11)) ((td + 1) + 1) (nI 10))))] := hD
  refine lv_aload_n hx hb dX7_threadSize_37 rfl (lv_at hl 1 rfl) ?_
  refine va_get (D := D) (ci := 7) (v := .ref nw) (C := RX7) (T := TX7) (N := 23) hx hb hts nX7_threadSize_2_0 hown hK.1 hP 1 rfl rfl 13 (by decide) (hts _ mX7_threadSize_2_1) (fun _ h9 => h9) rfl dX7_threadSize_38 ?_
  refine lv_iconst (v := nI 5) hx hb dX7_threadSize_41 (by decide) ?_
  refine lv_iconst (v := nI 4) hx hb dX7_threadSize_42 (by decide) ?_
  refine lv_iload_n hx hb dX7_threadSize_43 rfl (lv_at hl 2 rfl) ?_
  refine lv_imul hx hb dX7_threadSize_44 ?_
  refine q_top (y := nI (4 * c)) (pk_mul _ _) ?_
  refine lv_iadd hx hb dX7_threadSize_45 ?_
  refine q_top (y := nI (5 + (4 * c))) (nI_add _ _) ?_
  refine lv_iconst (v := nI 1) hx hb dX7_threadSize_46 (by decide) ?_
  refine lv_iadd hx hb dX7_threadSize_47 ?_
  refine q_top (y := nI ((5 + (4 * c)) + 1)) (nI_add _ _) ?_
  refine q_iald (j := ((5 + (4 * c)) + 1)) (v := nI (w ((5 + (4 * c)) + 1))) hx hb hK hP 0 rfl (by omega) (by decide) (hm _ (by omega)) dX7_threadSize_48 ?_
  refine q_top (y := nI (ctT w c)) (congrArg nI (ctT_e w c)) ?_
  refine lv_aload_n hx hb dX7_threadSize_49 rfl (lv_at hl 1 rfl) ?_
  refine lv_iload_n hx hb dX7_threadSize_50 rfl (lv_at hl 2 rfl) ?_
  refine q_wiV (As := [.int (nI c)]) (rest := [.int (nI (ctT w c))]) (wr := []) ⟨hx, hb, hml, hown, hts⟩ (c_X7_threadMark_2 l D cy m0 ml mm mit ms mt nw dr tr pa ig kx be tc st fk fp av sv ov vv tn ac (((td + 1) + 1) + 1) f w hm hv (upd (upd (upd tf td (nI 12)) (td + 1) (nI 11)) ((td + 1) + 1) (nI 10)) (by omega) c hc hkd) (cwV 1 hts gX7_threadSize_X7_threadMark rfl rfl rfl (by decide +kernel) ⟨Nat.le_of_ble_eq_true rfl, Nat.le_of_ble_eq_true rfl⟩) hP hD hS hA hK [1, 0, 2] [] rfl rfl (by decide) rfl (by decide) (by decide) 1 rfl rfl rfl rfl hl.1 rfl (Nat.le_of_ble_eq_true rfl) dX7_threadSize_51 ⟨Nat.zero_le _, Nat.zero_le _⟩ (fun r8 u9 H locs hr8 hP hD hS => ?_)
  obtain ⟨rfl, rfl⟩ := hr8
  have hP : va_P D vwCl [(m0, .inr (7, [.ref ml, .ref mm, .ref mit, .ref ms, .int (st), .ref mt, .int (nI tn), .int (fk), .int (fp), .int (av), .int (sv), .int (ov), .int (vv), .ref nw, .ref dr, .ref tr, .ref pa, .int (nI ac), .ref ig, .ref kx, .ref be, .ref tc, .int (nI ((((td + 1) + 1) + 1) + 3))])), (nw, .inl (cy 0, 29, .inl f)), (tc, .inl (cy 0, 16, .inl (trP (upd (upd (upd tf td (nI 12)) (td + 1) (nI 11)) ((td + 1) + 1) (nI 10)) (((td + 1) + 1) + 1) [24, 21, 20])))] H := hP
  have hD : va_D A [(m0, .inr (7, [.ref ml, .ref mm, .ref mit, .ref ms, .int (st), .ref mt, .int (nI tn), .int (fk), .int (fp), .int (av), .int (sv), .int (ov), .int (vv), .ref nw, .ref dr, .ref tr, .ref pa, .int (nI ac), .ref ig, .ref kx, .ref be, .ref tc, .int (nI ((((td + 1) + 1) + 1) + 3))])), (nw, .inl (cy 0, 29, .inl f)), (tc, .inl (cy 0, 16, .inl (trP (upd (upd (upd tf td (nI 12)) (td + 1) (nI 11)) ((td + 1) + 1) (nI 10)) (((td + 1) + 1) + 1) [24, 21, 20])))] := hD
  refine lv_iadd hx hb dX7_threadSize_54 ?_
  refine q_top (y := nI ((ctT w c) + (2 * (c + ctO w c)))) (nI_add _ _) ?_
  refine lv_istore_n (lv' := [(3, .int (nI ((ctT w c) + (2 * (c + ctO w c))))), (2, .int (nI 1)), (0, .ref m0), (1, .int (nI c))]) hx hb dX7_threadSize_55 rfl hl (by decide) rfl (fun ls hl => ?_)
  refine lv_iload_n hx hb dX7_threadSize_56 rfl (lv_at hl 1 rfl) ?_
  refine lv_if_eq (tgt := 65) hx hb dX7_threadSize_57 (by decide) (fun c9 => absurd c9 (by decide)) (fun _ => ?_)
  refine lv_iload_n hx hb dX7_threadSize_60 rfl (lv_at hl 0 rfl) ?_
  refine lv_ineg hx hb dX7_threadSize_61 ?_
  refine lv_goto (tgt := 66) hx hb dX7_threadSize_62 (by decide) ?_
  have hP9 := hP
  have hD9 := hD
  exact q_wiret (v := -(nI ((ctT w c) + (2 * (c + ctO w c))))) hx hb hr hlocks dX7_threadSize_66 hP9 hD9 hS (⟨rfl, rfl⟩)
theorem nX7_threadSize_3_0 : ∀ w ∈ wsX70, w ∈ wsX7_threadSize := by decide +kernel
theorem mX7_threadSize_3_1 : Cond.fieldLink RX7 25 "ClueLeaveModel" "now" "[I" ∈ wsX7_threadSize := by decide +kernel
set_option maxHeartbeats 4000000 in
set_option maxRecDepth 100000 in
theorem c_X7_threadSize_3 (l : Launch) (D : va_G) (cy : Nat → ClassId) (m0 ml mm mit ms mt nw dr tr pa ig kx be tc : Nat) (st fk fp av sv ov vv : Int32) (tn ac td : Nat) (f : Nat → Int32) (w : Nat → Nat) (hm : mwIs w f) (hv : ctOk w) (tf : Nat → Int32) (htd : td + 5 ≤ 16) (c : Nat) (hc : c < w 4) (hkd : ctK w c = 3) : q_Wi l yX7_threadSize wsX7_threadSize 3 D cy [(m0, .inr (7, [.ref ml, .ref mm, .ref mit, .ref ms, .int (st), .ref mt, .int (nI tn), .int (fk), .int (fp), .int (av), .int (sv), .int (ov), .int (vv), .ref nw, .ref dr, .ref tr, .ref pa, .int (nI ac), .ref ig, .ref kx, .ref be, .ref tc, .int (nI td)])), (nw, .inl (cy 0, 29, .inl f)), (tc, .inl (cy 0, 16, .inl tf))] [.ref m0, .int (nI c)] (fun r u => r = (nI (ctT w c)) + (nI (c + ctO w c) - nI 1000) ∧ u = [(m0, .inr (7, [.ref ml, .ref mm, .ref mit, .ref ms, .int (st), .ref mt, .int (nI tn), .int (fk), .int (fp), .int (av), .int (sv), .int (ov), .int (vv), .ref nw, .ref dr, .ref tr, .ref pa, .int (nI ac), .ref ig, .ref kx, .ref be, .ref tc, .int (nI (td + 5))])), (nw, .inl (cy 0, 29, .inl f)), (tc, .inl (cy 0, 16, .inl (trP tf td [11, 10, 22, 21, 20])))]) := by
  refine q_wi_of (cc := cX7_threadSize) (maxL := 4) (ret := (some .int)) (by decide) rfl (Nat.le_of_ble_eq_true rfl) ?_
  intro pg en s mi args below meth cd A hC hA hK H locs hP hD hS ls hl
  obtain ⟨hx, hb, hr, hml, hown, hts, hlocks⟩ := hC
  have hl : lv_has ls 4 [(0, .ref m0), (1, .int (nI c))] := hl
  obtain ⟨hv0, hv1, hv2, hv3, hv4, hvc⟩ := id hv
  obtain ⟨hk1, hk5, ht1, ht2, he2, he4, ho1⟩ := hvc c hc
  refine lv_aload_n hx hb dX7_threadSize_0 rfl (lv_at hl 0 rfl) ?_
  refine lv_iload_n hx hb dX7_threadSize_1 rfl (lv_at hl 1 rfl) ?_
  refine q_rV (As := [.int (nI c)]) (rest := []) ⟨hx, hb, hml, hown, hts⟩ (c_X7_kindIn l D cy m0 ml mm mit ms mt nw dr tr pa ig kx be tc st fk fp av sv ov vv tn ac td f w hm hv c (by omega)) (cwV 1 hts gX7_threadSize_X7_kindIn rfl rfl rfl (by decide +kernel) ⟨Nat.le_of_ble_eq_true rfl, Nat.le_of_ble_eq_true rfl⟩) hP hK [0, 1] rfl 0 rfl rfl rfl rfl hl.1 rfl (Nat.le_of_ble_eq_true rfl) dX7_threadSize_2 ⟨Nat.zero_le _, Nat.zero_le _⟩ (fun r1 hr1 => ?_)
  obtain rfl := hr1
  refine q_top (y := nI 3) (by rw [hkd]) ?_
  refine lv_iconst (v := nI 2) hx hb dX7_threadSize_5 (by decide) ?_
  refine lv_icmp_ne (tgt := 13) hx hb dX7_threadSize_6 (by decide) (fun _ => ?_) (fun c9 => absurd c9 (by decide))
  refine lv_iconst (v := nI 0) hx hb dX7_threadSize_13 (by decide) ?_
  refine lv_istore_n (lv' := [(2, .int (nI 0)), (0, .ref m0), (1, .int (nI c))]) hx hb dX7_threadSize_14 rfl hl (by decide) rfl (fun ls hl => ?_)
  refine lv_iload_n hx hb dX7_threadSize_15 rfl (lv_at hl 0 rfl) ?_
  refine lv_if_eq (tgt := 25) hx hb dX7_threadSize_16 (by decide) (fun _ => ?_) (fun c9 => absurd (by decide) c9)
  refine lv_aload_n hx hb dX7_threadSize_25 rfl (lv_at hl 1 rfl) ?_
  refine lv_bipush (v := nI 11) hx hb dX7_threadSize_26 (by decide) ?_
  refine q_wvV (As := [.int (nI 11)]) (rest := []) (wr := [(nw, .inl (cy 0, 29, .inl f))]) ⟨hx, hb, hml, hown, hts⟩ (c_X7_begins l D cy m0 ml mm mit ms mt nw dr tr pa ig kx be tc st fk fp av sv ov vv tn ac td tf (by omega) (nI 11)) (cwV 1 hts gX7_threadSize_X7_begins rfl rfl rfl (by decide +kernel) ⟨Nat.le_of_ble_eq_true rfl, Nat.le_of_ble_eq_true rfl⟩) hP hD hS hA hK [0, 2] [1] rfl rfl (by decide) rfl (by decide) (by decide) 0 rfl rfl rfl rfl hl.1 rfl (Nat.le_of_ble_eq_true rfl) dX7_threadSize_28 ⟨Nat.zero_le _, Nat.zero_le _⟩ (fun u3 H locs hr2 hP hD hS => ?_)
  obtain rfl := hr2
  have hP : va_P D vwCl [(nw, .inl (cy 0, 29, .inl f)), (m0, .inr (7, [.ref ml, .ref mm, .ref mit, .ref ms, .int (st), .ref mt, .int (nI tn), .int (fk), .int (fp), .int (av), .int (sv), .int (ov), .int (vv), .ref nw, .ref dr, .ref tr, .ref pa, .int (nI ac), .ref ig, .ref kx, .ref be, .ref tc, .int (nI (td + 1))])), (tc, .inl (cy 0, 16, .inl (upd tf td (nI 11))))] H := hP
  have hD : va_D A [(nw, .inl (cy 0, 29, .inl f)), (m0, .inr (7, [.ref ml, .ref mm, .ref mit, .ref ms, .int (st), .ref mt, .int (nI tn), .int (fk), .int (fp), .int (av), .int (sv), .int (ov), .int (vv), .ref nw, .ref dr, .ref tr, .ref pa, .int (nI ac), .ref ig, .ref kx, .ref be, .ref tc, .int (nI (td + 1))])), (tc, .inl (cy 0, 16, .inl (upd tf td (nI 11))))] := hD
  refine lv_aload_n hx hb dX7_threadSize_31 rfl (lv_at hl 1 rfl) ?_
  refine lv_bipush (v := nI 10) hx hb dX7_threadSize_32 (by decide) ?_
  refine q_wvV (As := [.int (nI 10)]) (rest := []) (wr := [(nw, .inl (cy 0, 29, .inl f))]) ⟨hx, hb, hml, hown, hts⟩ (c_X7_begins l D cy m0 ml mm mit ms mt nw dr tr pa ig kx be tc st fk fp av sv ov vv tn ac (td + 1) (upd tf td (nI 11)) (by omega) (nI 10)) (cwV 1 hts gX7_threadSize_X7_begins rfl rfl rfl (by decide +kernel) ⟨Nat.le_of_ble_eq_true rfl, Nat.le_of_ble_eq_true rfl⟩) hP hD hS hA hK [1, 2] [0] rfl rfl (by decide) rfl (by decide) (by decide) 1 rfl rfl rfl rfl hl.1 rfl (Nat.le_of_ble_eq_true rfl) dX7_threadSize_34 ⟨Nat.zero_le _, Nat.zero_le _⟩ (fun u5 H locs hr4 hP hD hS => ?_)
  obtain rfl := hr4
  have hP : va_P D vwCl [(nw, .inl (cy 0, 29, .inl f)), (m0, .inr (7, [.ref ml, .ref mm, .ref mit, .ref ms, .int (st), .ref mt, .int (nI tn), .int (fk), .int (fp), .int (av), .int (sv), .int (ov), .int (vv), .ref nw, .ref dr, .ref tr, .ref pa, .int (nI ac), .ref ig, .ref kx, .ref be, .ref tc, .int (nI ((td + 1) + 1))])), (tc, .inl (cy 0, 16, .inl (upd (upd tf td (nI 11)) (td + 1) (nI 10))))] H := hP
  have hD : va_D A [(nw, .inl (cy 0, 29, .inl f)), (m0, .inr (7, [.ref ml, .ref mm, .ref mit, .ref ms, .int (st), .ref mt, .int (nI tn), .int (fk), .int (fp), .int (av), .int (sv), .int (ov), .int (vv), .ref nw, .ref dr, .ref tr, .ref pa, .int (nI ac), .ref ig, .ref kx, .ref be, .ref tc, .int (nI ((td + 1) + 1))])), (tc, .inl (cy 0, 16, .inl (upd (upd tf td (nI 11)) (td + 1) (nI 10))))] := hD
  refine lv_aload_n hx hb dX7_threadSize_37 rfl (lv_at hl 1 rfl) ?_
  refine va_get (D := D) (ci := 7) (v := .ref nw) (C := RX7) (T := TX7) (N := 23) hx hb hts nX7_threadSize_3_0 hown hK.1 hP 1 rfl rfl 13 (by decide) (hts _ mX7_threadSize_3_1) (fun _ h9 => h9) rfl dX7_threadSize_38 ?_
  refine lv_iconst (v := nI 5) hx hb dX7_threadSize_41 (by decide) ?_
  refine lv_iconst (v := nI 4) hx hb dX7_threadSize_42 (by decide) ?_
  refine lv_iload_n hx hb dX7_threadSize_43 rfl (lv_at hl 2 rfl) ?_
  refine lv_imul hx hb dX7_threadSize_44 ?_
  refine q_top (y := nI (4 * c)) (pk_mul _ _) ?_
  refine lv_iadd hx hb dX7_threadSize_45 ?_
  refine q_top (y := nI (5 + (4 * c))) (nI_add _ _) ?_
  refine lv_iconst (v := nI 1) hx hb dX7_threadSize_46 (by decide) ?_
  refine lv_iadd hx hb dX7_threadSize_47 ?_
  refine q_top (y := nI ((5 + (4 * c)) + 1)) (nI_add _ _) ?_
  refine q_iald (j := ((5 + (4 * c)) + 1)) (v := nI (w ((5 + (4 * c)) + 1))) hx hb hK hP 0 rfl (by omega) (by decide) (hm _ (by omega)) dX7_threadSize_48 ?_
  refine q_top (y := nI (ctT w c)) (congrArg nI (ctT_e w c)) ?_
  refine lv_aload_n hx hb dX7_threadSize_49 rfl (lv_at hl 1 rfl) ?_
  refine lv_iload_n hx hb dX7_threadSize_50 rfl (lv_at hl 2 rfl) ?_
  refine q_wiV (As := [.int (nI c)]) (rest := [.int (nI (ctT w c))]) (wr := []) ⟨hx, hb, hml, hown, hts⟩ (c_X7_threadMark_3 l D cy m0 ml mm mit ms mt nw dr tr pa ig kx be tc st fk fp av sv ov vv tn ac ((td + 1) + 1) f w hm hv (upd (upd tf td (nI 11)) (td + 1) (nI 10)) (by omega) c hc hkd) (cwV 1 hts gX7_threadSize_X7_threadMark rfl rfl rfl (by decide +kernel) ⟨Nat.le_of_ble_eq_true rfl, Nat.le_of_ble_eq_true rfl⟩) hP hD hS hA hK [1, 0, 2] [] rfl rfl (by decide) rfl (by decide) (by decide) 1 rfl rfl rfl rfl hl.1 rfl (Nat.le_of_ble_eq_true rfl) dX7_threadSize_51 ⟨Nat.zero_le _, Nat.zero_le _⟩ (fun r6 u7 H locs hr6 hP hD hS => ?_)
  obtain ⟨rfl, rfl⟩ := hr6
  have hP : va_P D vwCl [(m0, .inr (7, [.ref ml, .ref mm, .ref mit, .ref ms, .int (st), .ref mt, .int (nI tn), .int (fk), .int (fp), .int (av), .int (sv), .int (ov), .int (vv), .ref nw, .ref dr, .ref tr, .ref pa, .int (nI ac), .ref ig, .ref kx, .ref be, .ref tc, .int (nI (((td + 1) + 1) + 3))])), (nw, .inl (cy 0, 29, .inl f)), (tc, .inl (cy 0, 16, .inl (trP (upd (upd tf td (nI 11)) (td + 1) (nI 10)) ((td + 1) + 1) [22, 21, 20])))] H := hP
  have hD : va_D A [(m0, .inr (7, [.ref ml, .ref mm, .ref mit, .ref ms, .int (st), .ref mt, .int (nI tn), .int (fk), .int (fp), .int (av), .int (sv), .int (ov), .int (vv), .ref nw, .ref dr, .ref tr, .ref pa, .int (nI ac), .ref ig, .ref kx, .ref be, .ref tc, .int (nI (((td + 1) + 1) + 3))])), (nw, .inl (cy 0, 29, .inl f)), (tc, .inl (cy 0, 16, .inl (trP (upd (upd tf td (nI 11)) (td + 1) (nI 10)) ((td + 1) + 1) [22, 21, 20])))] := hD
  refine lv_iadd hx hb dX7_threadSize_54 ?_
  refine lv_istore_n (lv' := [(3, .int ((nI (ctT w c)) + (nI (c + ctO w c) - nI 1000))), (2, .int (nI 0)), (0, .ref m0), (1, .int (nI c))]) hx hb dX7_threadSize_55 rfl hl (by decide) rfl (fun ls hl => ?_)
  refine lv_iload_n hx hb dX7_threadSize_56 rfl (lv_at hl 1 rfl) ?_
  refine lv_if_eq (tgt := 65) hx hb dX7_threadSize_57 (by decide) (fun _ => ?_) (fun c9 => absurd (by decide) c9)
  refine lv_iload_n hx hb dX7_threadSize_65 rfl (lv_at hl 0 rfl) ?_
  have hP9 := hP
  have hD9 := hD
  exact q_wiret (v := (nI (ctT w c)) + (nI (c + ctO w c) - nI 1000)) hx hb hr hlocks dX7_threadSize_66 hP9 hD9 hS (⟨rfl, rfl⟩)
set_option maxHeartbeats 4000000 in
set_option maxRecDepth 100000 in
theorem c_X7_stainMark_4 (l : Launch) (D : va_G) (cy : Nat → ClassId) (m0 ml mm mit ms mt nw dr tr pa ig kx be tc : Nat) (st fk fp av sv ov vv : Int32) (tn ac td : Nat) (f : Nat → Int32) (w : Nat → Nat) (hm : mwIs w f) (hv : ctOk w) (tf : Nat → Int32) (htd : td + 4 ≤ 16) (c : Nat) (hc : c < w 4) (hkd : ctK w c = 4) : q_Wi l yX7_stainMark wsX7_stainMark 3 D cy [(m0, .inr (7, [.ref ml, .ref mm, .ref mit, .ref ms, .int (st), .ref mt, .int (nI tn), .int (fk), .int (fp), .int (av), .int (sv), .int (ov), .int (vv), .ref nw, .ref dr, .ref tr, .ref pa, .int (nI ac), .ref ig, .ref kx, .ref be, .ref tc, .int (nI td)])), (nw, .inl (cy 0, 29, .inl f)), (tc, .inl (cy 0, 16, .inl tf))] [.ref m0, .int (nI c)] (fun r u => r = (nI c) - (nI (ctT w c) - nI 100) ∧ u = [(m0, .inr (7, [.ref ml, .ref mm, .ref mit, .ref ms, .int (st), .ref mt, .int (nI tn), .int (fk), .int (fp), .int (av), .int (sv), .int (ov), .int (vv), .ref nw, .ref dr, .ref tr, .ref pa, .int (nI ac), .ref ig, .ref kx, .ref be, .ref tc, .int (nI (td + 4))])), (nw, .inl (cy 0, 29, .inl f)), (tc, .inl (cy 0, 16, .inl (trP tf td [23, 20, 13, 10])))]) := by
  refine q_wi_of (cc := cX7_stainMark) (maxL := 2) (ret := (some .int)) (by decide) rfl (Nat.le_of_ble_eq_true rfl) ?_
  intro pg en s mi args below meth cd A hC hA hK H locs hP hD hS ls hl
  obtain ⟨hx, hb, hr, hml, hown, hts, hlocks⟩ := hC
  have hl : lv_has ls 2 [(0, .ref m0), (1, .int (nI c))] := hl
  obtain ⟨hv0, hv1, hv2, hv3, hv4, hvc⟩ := id hv
  obtain ⟨hk1, hk5, ht1, ht2, he2, he4, ho1⟩ := hvc c hc
  refine lv_aload_n hx hb dX7_stainMark_0 rfl (lv_at hl 0 rfl) ?_
  refine lv_bipush (v := nI 23) hx hb dX7_stainMark_1 (by decide) ?_
  refine q_wvV (As := [.int (nI 23)]) (rest := []) (wr := [(nw, .inl (cy 0, 29, .inl f))]) ⟨hx, hb, hml, hown, hts⟩ (c_X7_begins l D cy m0 ml mm mit ms mt nw dr tr pa ig kx be tc st fk fp av sv ov vv tn ac td tf (by omega) (nI 23)) (cwV 1 hts gX7_stainMark_X7_begins rfl rfl rfl (by decide +kernel) ⟨Nat.le_of_ble_eq_true rfl, Nat.le_of_ble_eq_true rfl⟩) hP hD hS hA hK [0, 2] [1] rfl rfl (by decide) rfl (by decide) (by decide) 0 rfl rfl rfl rfl hl.1 rfl (Nat.le_of_ble_eq_true rfl) dX7_stainMark_3 ⟨Nat.zero_le _, Nat.zero_le _⟩ (fun u2 H locs hr1 hP hD hS => ?_)
  obtain rfl := hr1
  have hP : va_P D vwCl [(nw, .inl (cy 0, 29, .inl f)), (m0, .inr (7, [.ref ml, .ref mm, .ref mit, .ref ms, .int (st), .ref mt, .int (nI tn), .int (fk), .int (fp), .int (av), .int (sv), .int (ov), .int (vv), .ref nw, .ref dr, .ref tr, .ref pa, .int (nI ac), .ref ig, .ref kx, .ref be, .ref tc, .int (nI (td + 1))])), (tc, .inl (cy 0, 16, .inl (upd tf td (nI 23))))] H := hP
  have hD : va_D A [(nw, .inl (cy 0, 29, .inl f)), (m0, .inr (7, [.ref ml, .ref mm, .ref mit, .ref ms, .int (st), .ref mt, .int (nI tn), .int (fk), .int (fp), .int (av), .int (sv), .int (ov), .int (vv), .ref nw, .ref dr, .ref tr, .ref pa, .int (nI ac), .ref ig, .ref kx, .ref be, .ref tc, .int (nI (td + 1))])), (tc, .inl (cy 0, 16, .inl (upd tf td (nI 23))))] := hD
  refine lv_aload_n hx hb dX7_stainMark_6 rfl (lv_at hl 0 rfl) ?_
  refine lv_bipush (v := nI 20) hx hb dX7_stainMark_7 (by decide) ?_
  refine q_wvV (As := [.int (nI 20)]) (rest := []) (wr := [(nw, .inl (cy 0, 29, .inl f))]) ⟨hx, hb, hml, hown, hts⟩ (c_X7_begins l D cy m0 ml mm mit ms mt nw dr tr pa ig kx be tc st fk fp av sv ov vv tn ac (td + 1) (upd tf td (nI 23)) (by omega) (nI 20)) (cwV 1 hts gX7_stainMark_X7_begins rfl rfl rfl (by decide +kernel) ⟨Nat.le_of_ble_eq_true rfl, Nat.le_of_ble_eq_true rfl⟩) hP hD hS hA hK [1, 2] [0] rfl rfl (by decide) rfl (by decide) (by decide) 1 rfl rfl rfl rfl hl.1 rfl (Nat.le_of_ble_eq_true rfl) dX7_stainMark_9 ⟨Nat.zero_le _, Nat.zero_le _⟩ (fun u4 H locs hr3 hP hD hS => ?_)
  obtain rfl := hr3
  have hP : va_P D vwCl [(nw, .inl (cy 0, 29, .inl f)), (m0, .inr (7, [.ref ml, .ref mm, .ref mit, .ref ms, .int (st), .ref mt, .int (nI tn), .int (fk), .int (fp), .int (av), .int (sv), .int (ov), .int (vv), .ref nw, .ref dr, .ref tr, .ref pa, .int (nI ac), .ref ig, .ref kx, .ref be, .ref tc, .int (nI ((td + 1) + 1))])), (tc, .inl (cy 0, 16, .inl (upd (upd tf td (nI 23)) (td + 1) (nI 20))))] H := hP
  have hD : va_D A [(nw, .inl (cy 0, 29, .inl f)), (m0, .inr (7, [.ref ml, .ref mm, .ref mit, .ref ms, .int (st), .ref mt, .int (nI tn), .int (fk), .int (fp), .int (av), .int (sv), .int (ov), .int (vv), .ref nw, .ref dr, .ref tr, .ref pa, .int (nI ac), .ref ig, .ref kx, .ref be, .ref tc, .int (nI ((td + 1) + 1))])), (tc, .inl (cy 0, 16, .inl (upd (upd tf td (nI 23)) (td + 1) (nI 20))))] := hD
  refine lv_iload_n hx hb dX7_stainMark_12 rfl (lv_at hl 1 rfl) ?_
  refine lv_aload_n hx hb dX7_stainMark_13 rfl (lv_at hl 0 rfl) ?_
  refine lv_iload_n hx hb dX7_stainMark_14 rfl (lv_at hl 1 rfl) ?_
  refine q_wiV (As := [.int (nI c)]) (rest := [.int (nI c)]) (wr := []) ⟨hx, hb, hml, hown, hts⟩ (c_X7_stainSize_4 l D cy m0 ml mm mit ms mt nw dr tr pa ig kx be tc st fk fp av sv ov vv tn ac ((td + 1) + 1) f w hm hv (upd (upd tf td (nI 23)) (td + 1) (nI 20)) (by omega) c hc hkd) (cwV 1 hts gX7_stainMark_X7_stainSize rfl rfl rfl (by decide +kernel) ⟨Nat.le_of_ble_eq_true rfl, Nat.le_of_ble_eq_true rfl⟩) hP hD hS hA hK [1, 0, 2] [] rfl rfl (by decide) rfl (by decide) (by decide) 1 rfl rfl rfl rfl hl.1 rfl (Nat.le_of_ble_eq_true rfl) dX7_stainMark_15 ⟨Nat.zero_le _, Nat.zero_le _⟩ (fun r5 u6 H locs hr5 hP hD hS => ?_)
  obtain ⟨rfl, rfl⟩ := hr5
  have hP : va_P D vwCl [(m0, .inr (7, [.ref ml, .ref mm, .ref mit, .ref ms, .int (st), .ref mt, .int (nI tn), .int (fk), .int (fp), .int (av), .int (sv), .int (ov), .int (vv), .ref nw, .ref dr, .ref tr, .ref pa, .int (nI ac), .ref ig, .ref kx, .ref be, .ref tc, .int (nI (((td + 1) + 1) + 2))])), (nw, .inl (cy 0, 29, .inl f)), (tc, .inl (cy 0, 16, .inl (trP (upd (upd tf td (nI 23)) (td + 1) (nI 20)) ((td + 1) + 1) [13, 10])))] H := hP
  have hD : va_D A [(m0, .inr (7, [.ref ml, .ref mm, .ref mit, .ref ms, .int (st), .ref mt, .int (nI tn), .int (fk), .int (fp), .int (av), .int (sv), .int (ov), .int (vv), .ref nw, .ref dr, .ref tr, .ref pa, .int (nI ac), .ref ig, .ref kx, .ref be, .ref tc, .int (nI (((td + 1) + 1) + 2))])), (nw, .inl (cy 0, 29, .inl f)), (tc, .inl (cy 0, 16, .inl (trP (upd (upd tf td (nI 23)) (td + 1) (nI 20)) ((td + 1) + 1) [13, 10])))] := hD
  refine lv_isub hx hb dX7_stainMark_18 ?_
  have hP9 := hP
  have hD9 := hD
  exact q_wiret (v := (nI c) - (nI (ctT w c) - nI 100)) hx hb hr hlocks dX7_stainMark_19 hP9 hD9 hS (⟨rfl, rfl⟩)
set_option maxHeartbeats 4000000 in
set_option maxRecDepth 100000 in
theorem c_X7_stainMark_5 (l : Launch) (D : va_G) (cy : Nat → ClassId) (m0 ml mm mit ms mt nw dr tr pa ig kx be tc : Nat) (st fk fp av sv ov vv : Int32) (tn ac td : Nat) (f : Nat → Int32) (w : Nat → Nat) (hm : mwIs w f) (hv : ctOk w) (tf : Nat → Int32) (htd : td + 5 ≤ 16) (c : Nat) (hc : c < w 4) (hkd : ctK w c = 5) : q_Wi l yX7_stainMark wsX7_stainMark 3 D cy [(m0, .inr (7, [.ref ml, .ref mm, .ref mit, .ref ms, .int (st), .ref mt, .int (nI tn), .int (fk), .int (fp), .int (av), .int (sv), .int (ov), .int (vv), .ref nw, .ref dr, .ref tr, .ref pa, .int (nI ac), .ref ig, .ref kx, .ref be, .ref tc, .int (nI td)])), (nw, .inl (cy 0, 29, .inl f)), (tc, .inl (cy 0, 16, .inl tf))] [.ref m0, .int (nI c)] (fun r u => r = (nI c) - ((nI 2) * (nI (ctT w c) - nI 100)) ∧ u = [(m0, .inr (7, [.ref ml, .ref mm, .ref mit, .ref ms, .int (st), .ref mt, .int (nI tn), .int (fk), .int (fp), .int (av), .int (sv), .int (ov), .int (vv), .ref nw, .ref dr, .ref tr, .ref pa, .int (nI ac), .ref ig, .ref kx, .ref be, .ref tc, .int (nI (td + 5))])), (nw, .inl (cy 0, 29, .inl f)), (tc, .inl (cy 0, 16, .inl (trP tf td [23, 20, 14, 13, 10])))]) := by
  refine q_wi_of (cc := cX7_stainMark) (maxL := 2) (ret := (some .int)) (by decide) rfl (Nat.le_of_ble_eq_true rfl) ?_
  intro pg en s mi args below meth cd A hC hA hK H locs hP hD hS ls hl
  obtain ⟨hx, hb, hr, hml, hown, hts, hlocks⟩ := hC
  have hl : lv_has ls 2 [(0, .ref m0), (1, .int (nI c))] := hl
  obtain ⟨hv0, hv1, hv2, hv3, hv4, hvc⟩ := id hv
  obtain ⟨hk1, hk5, ht1, ht2, he2, he4, ho1⟩ := hvc c hc
  refine lv_aload_n hx hb dX7_stainMark_0 rfl (lv_at hl 0 rfl) ?_
  refine lv_bipush (v := nI 23) hx hb dX7_stainMark_1 (by decide) ?_
  refine q_wvV (As := [.int (nI 23)]) (rest := []) (wr := [(nw, .inl (cy 0, 29, .inl f))]) ⟨hx, hb, hml, hown, hts⟩ (c_X7_begins l D cy m0 ml mm mit ms mt nw dr tr pa ig kx be tc st fk fp av sv ov vv tn ac td tf (by omega) (nI 23)) (cwV 1 hts gX7_stainMark_X7_begins rfl rfl rfl (by decide +kernel) ⟨Nat.le_of_ble_eq_true rfl, Nat.le_of_ble_eq_true rfl⟩) hP hD hS hA hK [0, 2] [1] rfl rfl (by decide) rfl (by decide) (by decide) 0 rfl rfl rfl rfl hl.1 rfl (Nat.le_of_ble_eq_true rfl) dX7_stainMark_3 ⟨Nat.zero_le _, Nat.zero_le _⟩ (fun u2 H locs hr1 hP hD hS => ?_)
  obtain rfl := hr1
  have hP : va_P D vwCl [(nw, .inl (cy 0, 29, .inl f)), (m0, .inr (7, [.ref ml, .ref mm, .ref mit, .ref ms, .int (st), .ref mt, .int (nI tn), .int (fk), .int (fp), .int (av), .int (sv), .int (ov), .int (vv), .ref nw, .ref dr, .ref tr, .ref pa, .int (nI ac), .ref ig, .ref kx, .ref be, .ref tc, .int (nI (td + 1))])), (tc, .inl (cy 0, 16, .inl (upd tf td (nI 23))))] H := hP
  have hD : va_D A [(nw, .inl (cy 0, 29, .inl f)), (m0, .inr (7, [.ref ml, .ref mm, .ref mit, .ref ms, .int (st), .ref mt, .int (nI tn), .int (fk), .int (fp), .int (av), .int (sv), .int (ov), .int (vv), .ref nw, .ref dr, .ref tr, .ref pa, .int (nI ac), .ref ig, .ref kx, .ref be, .ref tc, .int (nI (td + 1))])), (tc, .inl (cy 0, 16, .inl (upd tf td (nI 23))))] := hD
  refine lv_aload_n hx hb dX7_stainMark_6 rfl (lv_at hl 0 rfl) ?_
  refine lv_bipush (v := nI 20) hx hb dX7_stainMark_7 (by decide) ?_
  refine q_wvV (As := [.int (nI 20)]) (rest := []) (wr := [(nw, .inl (cy 0, 29, .inl f))]) ⟨hx, hb, hml, hown, hts⟩ (c_X7_begins l D cy m0 ml mm mit ms mt nw dr tr pa ig kx be tc st fk fp av sv ov vv tn ac (td + 1) (upd tf td (nI 23)) (by omega) (nI 20)) (cwV 1 hts gX7_stainMark_X7_begins rfl rfl rfl (by decide +kernel) ⟨Nat.le_of_ble_eq_true rfl, Nat.le_of_ble_eq_true rfl⟩) hP hD hS hA hK [1, 2] [0] rfl rfl (by decide) rfl (by decide) (by decide) 1 rfl rfl rfl rfl hl.1 rfl (Nat.le_of_ble_eq_true rfl) dX7_stainMark_9 ⟨Nat.zero_le _, Nat.zero_le _⟩ (fun u4 H locs hr3 hP hD hS => ?_)
  obtain rfl := hr3
  have hP : va_P D vwCl [(nw, .inl (cy 0, 29, .inl f)), (m0, .inr (7, [.ref ml, .ref mm, .ref mit, .ref ms, .int (st), .ref mt, .int (nI tn), .int (fk), .int (fp), .int (av), .int (sv), .int (ov), .int (vv), .ref nw, .ref dr, .ref tr, .ref pa, .int (nI ac), .ref ig, .ref kx, .ref be, .ref tc, .int (nI ((td + 1) + 1))])), (tc, .inl (cy 0, 16, .inl (upd (upd tf td (nI 23)) (td + 1) (nI 20))))] H := hP
  have hD : va_D A [(nw, .inl (cy 0, 29, .inl f)), (m0, .inr (7, [.ref ml, .ref mm, .ref mit, .ref ms, .int (st), .ref mt, .int (nI tn), .int (fk), .int (fp), .int (av), .int (sv), .int (ov), .int (vv), .ref nw, .ref dr, .ref tr, .ref pa, .int (nI ac), .ref ig, .ref kx, .ref be, .ref tc, .int (nI ((td + 1) + 1))])), (tc, .inl (cy 0, 16, .inl (upd (upd tf td (nI 23)) (td + 1) (nI 20))))] := hD
  refine lv_iload_n hx hb dX7_stainMark_12 rfl (lv_at hl 1 rfl) ?_
  refine lv_aload_n hx hb dX7_stainMark_13 rfl (lv_at hl 0 rfl) ?_
  refine lv_iload_n hx hb dX7_stainMark_14 rfl (lv_at hl 1 rfl) ?_
  refine q_wiV (As := [.int (nI c)]) (rest := [.int (nI c)]) (wr := []) ⟨hx, hb, hml, hown, hts⟩ (c_X7_stainSize_5 l D cy m0 ml mm mit ms mt nw dr tr pa ig kx be tc st fk fp av sv ov vv tn ac ((td + 1) + 1) f w hm hv (upd (upd tf td (nI 23)) (td + 1) (nI 20)) (by omega) c hc hkd) (cwV 1 hts gX7_stainMark_X7_stainSize rfl rfl rfl (by decide +kernel) ⟨Nat.le_of_ble_eq_true rfl, Nat.le_of_ble_eq_true rfl⟩) hP hD hS hA hK [1, 0, 2] [] rfl rfl (by decide) rfl (by decide) (by decide) 1 rfl rfl rfl rfl hl.1 rfl (Nat.le_of_ble_eq_true rfl) dX7_stainMark_15 ⟨Nat.zero_le _, Nat.zero_le _⟩ (fun r5 u6 H locs hr5 hP hD hS => ?_)
  obtain ⟨rfl, rfl⟩ := hr5
  have hP : va_P D vwCl [(m0, .inr (7, [.ref ml, .ref mm, .ref mit, .ref ms, .int (st), .ref mt, .int (nI tn), .int (fk), .int (fp), .int (av), .int (sv), .int (ov), .int (vv), .ref nw, .ref dr, .ref tr, .ref pa, .int (nI ac), .ref ig, .ref kx, .ref be, .ref tc, .int (nI (((td + 1) + 1) + 3))])), (nw, .inl (cy 0, 29, .inl f)), (tc, .inl (cy 0, 16, .inl (trP (upd (upd tf td (nI 23)) (td + 1) (nI 20)) ((td + 1) + 1) [14, 13, 10])))] H := hP
  have hD : va_D A [(m0, .inr (7, [.ref ml, .ref mm, .ref mit, .ref ms, .int (st), .ref mt, .int (nI tn), .int (fk), .int (fp), .int (av), .int (sv), .int (ov), .int (vv), .ref nw, .ref dr, .ref tr, .ref pa, .int (nI ac), .ref ig, .ref kx, .ref be, .ref tc, .int (nI (((td + 1) + 1) + 3))])), (nw, .inl (cy 0, 29, .inl f)), (tc, .inl (cy 0, 16, .inl (trP (upd (upd tf td (nI 23)) (td + 1) (nI 20)) ((td + 1) + 1) [14, 13, 10])))] := hD
  refine lv_isub hx hb dX7_stainMark_18 ?_
  have hP9 := hP
  have hD9 := hD
  exact q_wiret (v := (nI c) - ((nI 2) * (nI (ctT w c) - nI 100))) hx hb hr hlocks dX7_stainMark_19 hP9 hD9 hS (⟨rfl, rfl⟩)
theorem nX7_ask_0 : ∀ w ∈ wsX70, w ∈ wsX7_ask := by decide +kernel
theorem mX7_ask_1 : Cond.fieldLink RX7 205 "ClueLeaveModel" "traced" "I" ∈ wsX7_ask := by decide +kernel
theorem mX7_ask_2 : Cond.constant RX7 64 (-1000001) ∈ wsX7_ask := by decide +kernel
set_option maxHeartbeats 4000000 in
set_option maxRecDepth 100000 in
theorem c_X7_ask (l : Launch) (D : va_G) (cy : Nat → ClassId) (m0 ml mm mit ms mt nw dr tr pa ig kx be tc : Nat) (st fk fp av sv ov vv : Int32) (tn ac td : Nat) (f : Nat → Int32) (w : Nat → Nat) (hm : mwIs w f) (hv : ctOk w) (tf : Nat → Int32) (x y : Int32) : q_Wi l yX7_ask wsX7_ask 4 D cy [(m0, .inr (7, [.ref ml, .ref mm, .ref mit, .ref ms, .int (st), .ref mt, .int (nI tn), .int (fk), .int (fp), .int (av), .int (sv), .int (ov), .int (vv), .ref nw, .ref dr, .ref tr, .ref pa, .int (nI ac), .ref ig, .ref kx, .ref be, .ref tc, .int (nI td)])), (nw, .inl (cy 0, 29, .inl f)), (tc, .inl (cy 0, 16, .inl tf))] [.ref m0, .int (x), .int (y)] (fun r u => ∃ (tf2 : Nat → Int32) (td2 : Nat), oAsk w tf td x y = (r, tf2, td2) ∧ u = [(m0, .inr (7, [.ref ml, .ref mm, .ref mit, .ref ms, .int (st), .ref mt, .int (nI tn), .int (fk), .int (fp), .int (av), .int (sv), .int (ov), .int (vv), .ref nw, .ref dr, .ref tr, .ref pa, .int (nI ac), .ref ig, .ref kx, .ref be, .ref tc, .int (nI td2)])), (nw, .inl (cy 0, 29, .inl f)), (tc, .inl (cy 0, 16, .inl tf2))]) := by
  refine q_wi_of (cc := cX7_ask) (maxL := 4) (ret := (some .int)) (by decide) rfl (Nat.le_of_ble_eq_true rfl) ?_
  intro pg en s mi args below meth cd A hC hA hK H locs hP hD hS ls hl
  obtain ⟨hx, hb, hr, hml, hown, hts, hlocks⟩ := hC
  have hl : lv_has ls 4 [(0, .ref m0), (1, .int (x)), (2, .int (y))] := hl
  obtain ⟨hv0, hv1, hv2, hv3, hv4, hvc⟩ := id hv
  refine lv_aload_n hx hb dX7_ask_0 rfl (lv_at hl 0 rfl) ?_
  refine lv_iload_n hx hb dX7_ask_1 rfl (lv_at hl 1 rfl) ?_
  refine q_rV (As := [.int (x)]) (rest := []) ⟨hx, hb, hml, hown, hts⟩ (c_X7_isClue l D cy m0 ml mm mit ms mt nw dr tr pa ig kx be tc st fk fp av sv ov vv tn ac td f w hm hv x) (cwV 1 hts gX7_ask_X7_isClue rfl rfl rfl (by decide +kernel) ⟨Nat.le_of_ble_eq_true rfl, Nat.le_of_ble_eq_true rfl⟩) hP hK [0, 1] rfl 0 rfl rfl rfl rfl hl.1 rfl (Nat.le_of_ble_eq_true rfl) dX7_ask_2 ⟨Nat.zero_le _, Nat.zero_le _⟩ (fun r1 hr1 => ?_)
  rcases hr1 with ⟨rfl, b2⟩ | ⟨rfl, b2⟩
  · have _ := b2
    refine lv_if_eq (tgt := 17) hx hb dX7_ask_5 (by decide) (fun c9 => absurd c9 (by decide)) (fun _ => ?_)
    obtain ⟨c, hc, rfl⟩ := (inC_i (by omega)).mpr b2
    obtain ⟨hk1, hk5, ht1, ht2, he2, he4, ho1⟩ := hvc c hc
    refine lv_iload_n hx hb dX7_ask_8 rfl (lv_at hl 2 rfl) ?_
    refine lv_iconst (v := nI 0) hx hb dX7_ask_9 (by decide) ?_
    refine lv_iconst (v := nI 1) hx hb dX7_ask_10 (by decide) ?_
    refine q_rS (As := [.int (y), .int (nI 0), .int (nI 1)]) (rest := []) ⟨hx, hb, hml, hown, hts⟩ (c_X7_in l D cy y (nI 0) (nI 1)) (va_cwS 3 hts gX7_ask_X7_in rfl rfl rfl (by decide +kernel) ⟨Nat.le_of_ble_eq_true rfl, Nat.le_of_ble_eq_true rfl⟩) hP hK [] rfl rfl hl.1 rfl (Nat.le_of_ble_eq_true rfl) dX7_ask_11 ⟨Nat.zero_le _, Nat.zero_le _⟩ (fun r3 hr3 => ?_)
    rcases hr3 with ⟨rfl, b4⟩ | ⟨rfl, b4⟩
    · have _ := b4
      refine lv_if_ne (tgt := 20) hx hb dX7_ask_14 (by decide) (fun _ => ?_) (fun c9 => absurd c9 (by decide))
      obtain ⟨m, -, hx_m, rfl⟩ := q_rng b4 (by decide) (by decide)
      rcases q_15 hk1 hk5 with hkd | hkd | hkd | hkd | hkd
      · rcases (show m = 0 ∨ m = 1 by omega) with rfl | rfl
        · refine lv_aload_n hx hb dX7_ask_20 rfl (lv_at hl 0 rfl) ?_
          refine lv_iconst (v := nI 0) hx hb dX7_ask_21 (by decide) ?_
          refine va_put (D := D) (ci := 7) (v := .int (nI 0)) (ty := .int) (C := RX7) (T := TX7) (N := 23) hx hb hts nX7_ask_0 tyX7 tyX7_ok nmX7 hown hK.1 hP hD hS 0 rfl rfl 22 (by decide) (hts _ mX7_ask_1) (fun _ h9 => h9) rfl (by decide +kernel) rfl rfl (Nat.le_of_ble_eq_true rfl) dX7_ask_22 (fun H locs hP hD hS => ?_)
          have hP : va_P D vwCl [(m0, .inr (7, [.ref ml, .ref mm, .ref mit, .ref ms, .int (st), .ref mt, .int (nI tn), .int (fk), .int (fp), .int (av), .int (sv), .int (ov), .int (vv), .ref nw, .ref dr, .ref tr, .ref pa, .int (nI ac), .ref ig, .ref kx, .ref be, .ref tc, .int (nI 0)])), (nw, .inl (cy 0, 29, .inl f)), (tc, .inl (cy 0, 16, .inl tf))] H := hP
          have hD : va_D A [(m0, .inr (7, [.ref ml, .ref mm, .ref mit, .ref ms, .int (st), .ref mt, .int (nI tn), .int (fk), .int (fp), .int (av), .int (sv), .int (ov), .int (vv), .ref nw, .ref dr, .ref tr, .ref pa, .int (nI ac), .ref ig, .ref kx, .ref be, .ref tc, .int (nI 0)])), (nw, .inl (cy 0, 29, .inl f)), (tc, .inl (cy 0, 16, .inl tf))] := hD
          refine lv_aload_n hx hb dX7_ask_25 rfl (lv_at hl 0 rfl) ?_
          refine lv_iload_n hx hb dX7_ask_26 rfl (lv_at hl 1 rfl) ?_
          refine q_rV (As := [.int (nI c)]) (rest := []) ⟨hx, hb, hml, hown, hts⟩ (c_X7_kindIn l D cy m0 ml mm mit ms mt nw dr tr pa ig kx be tc st fk fp av sv ov vv tn ac 0 f w hm hv c (by omega)) (cwV 1 hts gX7_ask_X7_kindIn rfl rfl rfl (by decide +kernel) ⟨Nat.le_of_ble_eq_true rfl, Nat.le_of_ble_eq_true rfl⟩) hP hK [0, 1] rfl 0 rfl rfl rfl rfl hl.1 rfl (Nat.le_of_ble_eq_true rfl) dX7_ask_27 ⟨Nat.zero_le _, Nat.zero_le _⟩ (fun r5 hr5 => ?_)
          obtain rfl := hr5
          refine q_top (y := nI 1) (by rw [hkd]) ?_
          refine lv_iconst (v := nI 4) hx hb dX7_ask_30 (by decide) ?_
          refine lv_icmp_lt (tgt := 38) hx hb dX7_ask_31 (by decide) (fun _ => ?_) (fun c9 => absurd (by decide) c9)
          refine lv_iconst (v := nI 0) hx hb dX7_ask_38 (by decide) ?_
          refine lv_istore_n (lv' := [(3, .int (nI 0)), (0, .ref m0), (1, .int (nI c)), (2, .int (nI 0))]) hx hb dX7_ask_39 rfl hl (by decide) rfl (fun ls hl => ?_)
          refine lv_iload_n hx hb dX7_ask_40 rfl (lv_at hl 3 rfl) ?_
          refine lv_if_ne (tgt := 62) hx hb dX7_ask_41 (by decide) (fun c9 => absurd (by decide) c9) (fun _ => ?_)
          refine lv_iload_n hx hb dX7_ask_44 rfl (lv_at hl 0 rfl) ?_
          refine lv_if_eq (tgt := 56) hx hb dX7_ask_45 (by decide) (fun _ => ?_) (fun c9 => absurd (by decide) c9)
          refine lv_aload_n hx hb dX7_ask_56 rfl (lv_at hl 1 rfl) ?_
          refine lv_iload_n hx hb dX7_ask_57 rfl (lv_at hl 2 rfl) ?_
          refine q_wiV (As := [.int (nI c)]) (rest := []) (wr := []) ⟨hx, hb, hml, hown, hts⟩ (c_X7_threadSize_1 l D cy m0 ml mm mit ms mt nw dr tr pa ig kx be tc st fk fp av sv ov vv tn ac 0 f w hm hv tf (by omega) c hc hkd) (cwV 1 hts gX7_ask_X7_threadSize rfl rfl rfl (by decide +kernel) ⟨Nat.le_of_ble_eq_true rfl, Nat.le_of_ble_eq_true rfl⟩) hP hD hS hA hK [0, 1, 2] [] rfl rfl (by decide) rfl (by decide) (by decide) 0 rfl rfl rfl rfl hl.1 rfl (Nat.le_of_ble_eq_true rfl) dX7_ask_58 ⟨Nat.zero_le _, Nat.zero_le _⟩ (fun r6 u7 H locs hr6 hP hD hS => ?_)
          obtain ⟨rfl, rfl⟩ := hr6
          have hP : va_P D vwCl [(m0, .inr (7, [.ref ml, .ref mm, .ref mit, .ref ms, .int (st), .ref mt, .int (nI tn), .int (fk), .int (fp), .int (av), .int (sv), .int (ov), .int (vv), .ref nw, .ref dr, .ref tr, .ref pa, .int (nI ac), .ref ig, .ref kx, .ref be, .ref tc, .int (nI (0 + 4))])), (nw, .inl (cy 0, 29, .inl f)), (tc, .inl (cy 0, 16, .inl (trP tf 0 [11, 10, 21, 20])))] H := hP
          have hD : va_D A [(m0, .inr (7, [.ref ml, .ref mm, .ref mit, .ref ms, .int (st), .ref mt, .int (nI tn), .int (fk), .int (fp), .int (av), .int (sv), .int (ov), .int (vv), .ref nw, .ref dr, .ref tr, .ref pa, .int (nI ac), .ref ig, .ref kx, .ref be, .ref tc, .int (nI (0 + 4))])), (nw, .inl (cy 0, 29, .inl f)), (tc, .inl (cy 0, 16, .inl (trP tf 0 [11, 10, 21, 20])))] := hD
          have hP9 := hP
          have hD9 := hD
          exact q_wiret (v := nI (ctT w c + (c + ctO w c))) hx hb hr hlocks dX7_ask_61 hP9 hD9 hS (⟨_, _, by simp only [oAsk, if_pos b2, if_pos b4, q_cl (by omega : c < 2147483648), q_cl (by decide : 0 < 2147483648), askS, askM, askSL, askML, hkd]; rfl, rfl⟩)
        · refine lv_aload_n hx hb dX7_ask_20 rfl (lv_at hl 0 rfl) ?_
          refine lv_iconst (v := nI 0) hx hb dX7_ask_21 (by decide) ?_
          refine va_put (D := D) (ci := 7) (v := .int (nI 0)) (ty := .int) (C := RX7) (T := TX7) (N := 23) hx hb hts nX7_ask_0 tyX7 tyX7_ok nmX7 hown hK.1 hP hD hS 0 rfl rfl 22 (by decide) (hts _ mX7_ask_1) (fun _ h9 => h9) rfl (by decide +kernel) rfl rfl (Nat.le_of_ble_eq_true rfl) dX7_ask_22 (fun H locs hP hD hS => ?_)
          have hP : va_P D vwCl [(m0, .inr (7, [.ref ml, .ref mm, .ref mit, .ref ms, .int (st), .ref mt, .int (nI tn), .int (fk), .int (fp), .int (av), .int (sv), .int (ov), .int (vv), .ref nw, .ref dr, .ref tr, .ref pa, .int (nI ac), .ref ig, .ref kx, .ref be, .ref tc, .int (nI 0)])), (nw, .inl (cy 0, 29, .inl f)), (tc, .inl (cy 0, 16, .inl tf))] H := hP
          have hD : va_D A [(m0, .inr (7, [.ref ml, .ref mm, .ref mit, .ref ms, .int (st), .ref mt, .int (nI tn), .int (fk), .int (fp), .int (av), .int (sv), .int (ov), .int (vv), .ref nw, .ref dr, .ref tr, .ref pa, .int (nI ac), .ref ig, .ref kx, .ref be, .ref tc, .int (nI 0)])), (nw, .inl (cy 0, 29, .inl f)), (tc, .inl (cy 0, 16, .inl tf))] := hD
          refine lv_aload_n hx hb dX7_ask_25 rfl (lv_at hl 0 rfl) ?_
          refine lv_iload_n hx hb dX7_ask_26 rfl (lv_at hl 1 rfl) ?_
          refine q_rV (As := [.int (nI c)]) (rest := []) ⟨hx, hb, hml, hown, hts⟩ (c_X7_kindIn l D cy m0 ml mm mit ms mt nw dr tr pa ig kx be tc st fk fp av sv ov vv tn ac 0 f w hm hv c (by omega)) (cwV 1 hts gX7_ask_X7_kindIn rfl rfl rfl (by decide +kernel) ⟨Nat.le_of_ble_eq_true rfl, Nat.le_of_ble_eq_true rfl⟩) hP hK [0, 1] rfl 0 rfl rfl rfl rfl hl.1 rfl (Nat.le_of_ble_eq_true rfl) dX7_ask_27 ⟨Nat.zero_le _, Nat.zero_le _⟩ (fun r8 hr8 => ?_)
          obtain rfl := hr8
          refine q_top (y := nI 1) (by rw [hkd]) ?_
          refine lv_iconst (v := nI 4) hx hb dX7_ask_30 (by decide) ?_
          refine lv_icmp_lt (tgt := 38) hx hb dX7_ask_31 (by decide) (fun _ => ?_) (fun c9 => absurd (by decide) c9)
          refine lv_iconst (v := nI 0) hx hb dX7_ask_38 (by decide) ?_
          refine lv_istore_n (lv' := [(3, .int (nI 0)), (0, .ref m0), (1, .int (nI c)), (2, .int (nI 1))]) hx hb dX7_ask_39 rfl hl (by decide) rfl (fun ls hl => ?_)
          refine lv_iload_n hx hb dX7_ask_40 rfl (lv_at hl 3 rfl) ?_
          refine lv_if_ne (tgt := 62) hx hb dX7_ask_41 (by decide) (fun _ => ?_) (fun c9 => absurd c9 (by decide))
          refine lv_iload_n hx hb dX7_ask_62 rfl (lv_at hl 0 rfl) ?_
          refine lv_if_eq (tgt := 74) hx hb dX7_ask_63 (by decide) (fun _ => ?_) (fun c9 => absurd (by decide) c9)
          refine lv_aload_n hx hb dX7_ask_74 rfl (lv_at hl 1 rfl) ?_
          refine lv_iload_n hx hb dX7_ask_75 rfl (lv_at hl 2 rfl) ?_
          refine q_wiV (As := [.int (nI c)]) (rest := []) (wr := []) ⟨hx, hb, hml, hown, hts⟩ (c_X7_threadMark_1 l D cy m0 ml mm mit ms mt nw dr tr pa ig kx be tc st fk fp av sv ov vv tn ac 0 f w hm hv tf (by omega) c hc hkd) (cwV 1 hts gX7_ask_X7_threadMark rfl rfl rfl (by decide +kernel) ⟨Nat.le_of_ble_eq_true rfl, Nat.le_of_ble_eq_true rfl⟩) hP hD hS hA hK [0, 1, 2] [] rfl rfl (by decide) rfl (by decide) (by decide) 0 rfl rfl rfl rfl hl.1 rfl (Nat.le_of_ble_eq_true rfl) dX7_ask_76 ⟨Nat.zero_le _, Nat.zero_le _⟩ (fun r9 u10 H locs hr9 hP hD hS => ?_)
          obtain ⟨rfl, rfl⟩ := hr9
          have hP : va_P D vwCl [(m0, .inr (7, [.ref ml, .ref mm, .ref mit, .ref ms, .int (st), .ref mt, .int (nI tn), .int (fk), .int (fp), .int (av), .int (sv), .int (ov), .int (vv), .ref nw, .ref dr, .ref tr, .ref pa, .int (nI ac), .ref ig, .ref kx, .ref be, .ref tc, .int (nI (0 + 2))])), (nw, .inl (cy 0, 29, .inl f)), (tc, .inl (cy 0, 16, .inl (trP tf 0 [21, 20])))] H := hP
          have hD : va_D A [(m0, .inr (7, [.ref ml, .ref mm, .ref mit, .ref ms, .int (st), .ref mt, .int (nI tn), .int (fk), .int (fp), .int (av), .int (sv), .int (ov), .int (vv), .ref nw, .ref dr, .ref tr, .ref pa, .int (nI ac), .ref ig, .ref kx, .ref be, .ref tc, .int (nI (0 + 2))])), (nw, .inl (cy 0, 29, .inl f)), (tc, .inl (cy 0, 16, .inl (trP tf 0 [21, 20])))] := hD
          have hP9 := hP
          have hD9 := hD
          exact q_wiret (v := nI (c + ctO w c)) hx hb hr hlocks dX7_ask_79 hP9 hD9 hS (⟨_, _, by simp only [oAsk, if_pos b2, if_pos b4, q_cl (by omega : c < 2147483648), q_cl (by decide : 1 < 2147483648), askS, askM, askSL, askML, hkd]; rfl, rfl⟩)
      · rcases (show m = 0 ∨ m = 1 by omega) with rfl | rfl
        · refine lv_aload_n hx hb dX7_ask_20 rfl (lv_at hl 0 rfl) ?_
          refine lv_iconst (v := nI 0) hx hb dX7_ask_21 (by decide) ?_
          refine va_put (D := D) (ci := 7) (v := .int (nI 0)) (ty := .int) (C := RX7) (T := TX7) (N := 23) hx hb hts nX7_ask_0 tyX7 tyX7_ok nmX7 hown hK.1 hP hD hS 0 rfl rfl 22 (by decide) (hts _ mX7_ask_1) (fun _ h9 => h9) rfl (by decide +kernel) rfl rfl (Nat.le_of_ble_eq_true rfl) dX7_ask_22 (fun H locs hP hD hS => ?_)
          have hP : va_P D vwCl [(m0, .inr (7, [.ref ml, .ref mm, .ref mit, .ref ms, .int (st), .ref mt, .int (nI tn), .int (fk), .int (fp), .int (av), .int (sv), .int (ov), .int (vv), .ref nw, .ref dr, .ref tr, .ref pa, .int (nI ac), .ref ig, .ref kx, .ref be, .ref tc, .int (nI 0)])), (nw, .inl (cy 0, 29, .inl f)), (tc, .inl (cy 0, 16, .inl tf))] H := hP
          have hD : va_D A [(m0, .inr (7, [.ref ml, .ref mm, .ref mit, .ref ms, .int (st), .ref mt, .int (nI tn), .int (fk), .int (fp), .int (av), .int (sv), .int (ov), .int (vv), .ref nw, .ref dr, .ref tr, .ref pa, .int (nI ac), .ref ig, .ref kx, .ref be, .ref tc, .int (nI 0)])), (nw, .inl (cy 0, 29, .inl f)), (tc, .inl (cy 0, 16, .inl tf))] := hD
          refine lv_aload_n hx hb dX7_ask_25 rfl (lv_at hl 0 rfl) ?_
          refine lv_iload_n hx hb dX7_ask_26 rfl (lv_at hl 1 rfl) ?_
          refine q_rV (As := [.int (nI c)]) (rest := []) ⟨hx, hb, hml, hown, hts⟩ (c_X7_kindIn l D cy m0 ml mm mit ms mt nw dr tr pa ig kx be tc st fk fp av sv ov vv tn ac 0 f w hm hv c (by omega)) (cwV 1 hts gX7_ask_X7_kindIn rfl rfl rfl (by decide +kernel) ⟨Nat.le_of_ble_eq_true rfl, Nat.le_of_ble_eq_true rfl⟩) hP hK [0, 1] rfl 0 rfl rfl rfl rfl hl.1 rfl (Nat.le_of_ble_eq_true rfl) dX7_ask_27 ⟨Nat.zero_le _, Nat.zero_le _⟩ (fun r11 hr11 => ?_)
          obtain rfl := hr11
          refine q_top (y := nI 2) (by rw [hkd]) ?_
          refine lv_iconst (v := nI 4) hx hb dX7_ask_30 (by decide) ?_
          refine lv_icmp_lt (tgt := 38) hx hb dX7_ask_31 (by decide) (fun _ => ?_) (fun c9 => absurd (by decide) c9)
          refine lv_iconst (v := nI 0) hx hb dX7_ask_38 (by decide) ?_
          refine lv_istore_n (lv' := [(3, .int (nI 0)), (0, .ref m0), (1, .int (nI c)), (2, .int (nI 0))]) hx hb dX7_ask_39 rfl hl (by decide) rfl (fun ls hl => ?_)
          refine lv_iload_n hx hb dX7_ask_40 rfl (lv_at hl 3 rfl) ?_
          refine lv_if_ne (tgt := 62) hx hb dX7_ask_41 (by decide) (fun c9 => absurd (by decide) c9) (fun _ => ?_)
          refine lv_iload_n hx hb dX7_ask_44 rfl (lv_at hl 0 rfl) ?_
          refine lv_if_eq (tgt := 56) hx hb dX7_ask_45 (by decide) (fun _ => ?_) (fun c9 => absurd (by decide) c9)
          refine lv_aload_n hx hb dX7_ask_56 rfl (lv_at hl 1 rfl) ?_
          refine lv_iload_n hx hb dX7_ask_57 rfl (lv_at hl 2 rfl) ?_
          refine q_wiV (As := [.int (nI c)]) (rest := []) (wr := []) ⟨hx, hb, hml, hown, hts⟩ (c_X7_threadSize_2 l D cy m0 ml mm mit ms mt nw dr tr pa ig kx be tc st fk fp av sv ov vv tn ac 0 f w hm hv tf (by omega) c hc hkd) (cwV 1 hts gX7_ask_X7_threadSize rfl rfl rfl (by decide +kernel) ⟨Nat.le_of_ble_eq_true rfl, Nat.le_of_ble_eq_true rfl⟩) hP hD hS hA hK [0, 1, 2] [] rfl rfl (by decide) rfl (by decide) (by decide) 0 rfl rfl rfl rfl hl.1 rfl (Nat.le_of_ble_eq_true rfl) dX7_ask_58 ⟨Nat.zero_le _, Nat.zero_le _⟩ (fun r12 u13 H locs hr12 hP hD hS => ?_)
          obtain ⟨rfl, rfl⟩ := hr12
          have hP : va_P D vwCl [(m0, .inr (7, [.ref ml, .ref mm, .ref mit, .ref ms, .int (st), .ref mt, .int (nI tn), .int (fk), .int (fp), .int (av), .int (sv), .int (ov), .int (vv), .ref nw, .ref dr, .ref tr, .ref pa, .int (nI ac), .ref ig, .ref kx, .ref be, .ref tc, .int (nI (0 + 6))])), (nw, .inl (cy 0, 29, .inl f)), (tc, .inl (cy 0, 16, .inl (trP tf 0 [12, 11, 10, 24, 21, 20])))] H := hP
          have hD : va_D A [(m0, .inr (7, [.ref ml, .ref mm, .ref mit, .ref ms, .int (st), .ref mt, .int (nI tn), .int (fk), .int (fp), .int (av), .int (sv), .int (ov), .int (vv), .ref nw, .ref dr, .ref tr, .ref pa, .int (nI ac), .ref ig, .ref kx, .ref be, .ref tc, .int (nI (0 + 6))])), (nw, .inl (cy 0, 29, .inl f)), (tc, .inl (cy 0, 16, .inl (trP tf 0 [12, 11, 10, 24, 21, 20])))] := hD
          have hP9 := hP
          have hD9 := hD
          exact q_wiret (v := -(nI (ctT w c + (2 * (c + ctO w c))))) hx hb hr hlocks dX7_ask_61 hP9 hD9 hS (⟨_, _, by simp only [oAsk, if_pos b2, if_pos b4, q_cl (by omega : c < 2147483648), q_cl (by decide : 0 < 2147483648), askS, askM, askSL, askML, hkd]; rfl, rfl⟩)
        · refine lv_aload_n hx hb dX7_ask_20 rfl (lv_at hl 0 rfl) ?_
          refine lv_iconst (v := nI 0) hx hb dX7_ask_21 (by decide) ?_
          refine va_put (D := D) (ci := 7) (v := .int (nI 0)) (ty := .int) (C := RX7) (T := TX7) (N := 23) hx hb hts nX7_ask_0 tyX7 tyX7_ok nmX7 hown hK.1 hP hD hS 0 rfl rfl 22 (by decide) (hts _ mX7_ask_1) (fun _ h9 => h9) rfl (by decide +kernel) rfl rfl (Nat.le_of_ble_eq_true rfl) dX7_ask_22 (fun H locs hP hD hS => ?_)
          have hP : va_P D vwCl [(m0, .inr (7, [.ref ml, .ref mm, .ref mit, .ref ms, .int (st), .ref mt, .int (nI tn), .int (fk), .int (fp), .int (av), .int (sv), .int (ov), .int (vv), .ref nw, .ref dr, .ref tr, .ref pa, .int (nI ac), .ref ig, .ref kx, .ref be, .ref tc, .int (nI 0)])), (nw, .inl (cy 0, 29, .inl f)), (tc, .inl (cy 0, 16, .inl tf))] H := hP
          have hD : va_D A [(m0, .inr (7, [.ref ml, .ref mm, .ref mit, .ref ms, .int (st), .ref mt, .int (nI tn), .int (fk), .int (fp), .int (av), .int (sv), .int (ov), .int (vv), .ref nw, .ref dr, .ref tr, .ref pa, .int (nI ac), .ref ig, .ref kx, .ref be, .ref tc, .int (nI 0)])), (nw, .inl (cy 0, 29, .inl f)), (tc, .inl (cy 0, 16, .inl tf))] := hD
          refine lv_aload_n hx hb dX7_ask_25 rfl (lv_at hl 0 rfl) ?_
          refine lv_iload_n hx hb dX7_ask_26 rfl (lv_at hl 1 rfl) ?_
          refine q_rV (As := [.int (nI c)]) (rest := []) ⟨hx, hb, hml, hown, hts⟩ (c_X7_kindIn l D cy m0 ml mm mit ms mt nw dr tr pa ig kx be tc st fk fp av sv ov vv tn ac 0 f w hm hv c (by omega)) (cwV 1 hts gX7_ask_X7_kindIn rfl rfl rfl (by decide +kernel) ⟨Nat.le_of_ble_eq_true rfl, Nat.le_of_ble_eq_true rfl⟩) hP hK [0, 1] rfl 0 rfl rfl rfl rfl hl.1 rfl (Nat.le_of_ble_eq_true rfl) dX7_ask_27 ⟨Nat.zero_le _, Nat.zero_le _⟩ (fun r14 hr14 => ?_)
          obtain rfl := hr14
          refine q_top (y := nI 2) (by rw [hkd]) ?_
          refine lv_iconst (v := nI 4) hx hb dX7_ask_30 (by decide) ?_
          refine lv_icmp_lt (tgt := 38) hx hb dX7_ask_31 (by decide) (fun _ => ?_) (fun c9 => absurd (by decide) c9)
          refine lv_iconst (v := nI 0) hx hb dX7_ask_38 (by decide) ?_
          refine lv_istore_n (lv' := [(3, .int (nI 0)), (0, .ref m0), (1, .int (nI c)), (2, .int (nI 1))]) hx hb dX7_ask_39 rfl hl (by decide) rfl (fun ls hl => ?_)
          refine lv_iload_n hx hb dX7_ask_40 rfl (lv_at hl 3 rfl) ?_
          refine lv_if_ne (tgt := 62) hx hb dX7_ask_41 (by decide) (fun _ => ?_) (fun c9 => absurd c9 (by decide))
          refine lv_iload_n hx hb dX7_ask_62 rfl (lv_at hl 0 rfl) ?_
          refine lv_if_eq (tgt := 74) hx hb dX7_ask_63 (by decide) (fun _ => ?_) (fun c9 => absurd (by decide) c9)
          refine lv_aload_n hx hb dX7_ask_74 rfl (lv_at hl 1 rfl) ?_
          refine lv_iload_n hx hb dX7_ask_75 rfl (lv_at hl 2 rfl) ?_
          refine q_wiV (As := [.int (nI c)]) (rest := []) (wr := []) ⟨hx, hb, hml, hown, hts⟩ (c_X7_threadMark_2 l D cy m0 ml mm mit ms mt nw dr tr pa ig kx be tc st fk fp av sv ov vv tn ac 0 f w hm hv tf (by omega) c hc hkd) (cwV 1 hts gX7_ask_X7_threadMark rfl rfl rfl (by decide +kernel) ⟨Nat.le_of_ble_eq_true rfl, Nat.le_of_ble_eq_true rfl⟩) hP hD hS hA hK [0, 1, 2] [] rfl rfl (by decide) rfl (by decide) (by decide) 0 rfl rfl rfl rfl hl.1 rfl (Nat.le_of_ble_eq_true rfl) dX7_ask_76 ⟨Nat.zero_le _, Nat.zero_le _⟩ (fun r15 u16 H locs hr15 hP hD hS => ?_)
          obtain ⟨rfl, rfl⟩ := hr15
          have hP : va_P D vwCl [(m0, .inr (7, [.ref ml, .ref mm, .ref mit, .ref ms, .int (st), .ref mt, .int (nI tn), .int (fk), .int (fp), .int (av), .int (sv), .int (ov), .int (vv), .ref nw, .ref dr, .ref tr, .ref pa, .int (nI ac), .ref ig, .ref kx, .ref be, .ref tc, .int (nI (0 + 3))])), (nw, .inl (cy 0, 29, .inl f)), (tc, .inl (cy 0, 16, .inl (trP tf 0 [24, 21, 20])))] H := hP
          have hD : va_D A [(m0, .inr (7, [.ref ml, .ref mm, .ref mit, .ref ms, .int (st), .ref mt, .int (nI tn), .int (fk), .int (fp), .int (av), .int (sv), .int (ov), .int (vv), .ref nw, .ref dr, .ref tr, .ref pa, .int (nI ac), .ref ig, .ref kx, .ref be, .ref tc, .int (nI (0 + 3))])), (nw, .inl (cy 0, 29, .inl f)), (tc, .inl (cy 0, 16, .inl (trP tf 0 [24, 21, 20])))] := hD
          have hP9 := hP
          have hD9 := hD
          exact q_wiret (v := nI (2 * (c + ctO w c))) hx hb hr hlocks dX7_ask_79 hP9 hD9 hS (⟨_, _, by simp only [oAsk, if_pos b2, if_pos b4, q_cl (by omega : c < 2147483648), q_cl (by decide : 1 < 2147483648), askS, askM, askSL, askML, hkd]; rfl, rfl⟩)
      · rcases (show m = 0 ∨ m = 1 by omega) with rfl | rfl
        · refine lv_aload_n hx hb dX7_ask_20 rfl (lv_at hl 0 rfl) ?_
          refine lv_iconst (v := nI 0) hx hb dX7_ask_21 (by decide) ?_
          refine va_put (D := D) (ci := 7) (v := .int (nI 0)) (ty := .int) (C := RX7) (T := TX7) (N := 23) hx hb hts nX7_ask_0 tyX7 tyX7_ok nmX7 hown hK.1 hP hD hS 0 rfl rfl 22 (by decide) (hts _ mX7_ask_1) (fun _ h9 => h9) rfl (by decide +kernel) rfl rfl (Nat.le_of_ble_eq_true rfl) dX7_ask_22 (fun H locs hP hD hS => ?_)
          have hP : va_P D vwCl [(m0, .inr (7, [.ref ml, .ref mm, .ref mit, .ref ms, .int (st), .ref mt, .int (nI tn), .int (fk), .int (fp), .int (av), .int (sv), .int (ov), .int (vv), .ref nw, .ref dr, .ref tr, .ref pa, .int (nI ac), .ref ig, .ref kx, .ref be, .ref tc, .int (nI 0)])), (nw, .inl (cy 0, 29, .inl f)), (tc, .inl (cy 0, 16, .inl tf))] H := hP
          have hD : va_D A [(m0, .inr (7, [.ref ml, .ref mm, .ref mit, .ref ms, .int (st), .ref mt, .int (nI tn), .int (fk), .int (fp), .int (av), .int (sv), .int (ov), .int (vv), .ref nw, .ref dr, .ref tr, .ref pa, .int (nI ac), .ref ig, .ref kx, .ref be, .ref tc, .int (nI 0)])), (nw, .inl (cy 0, 29, .inl f)), (tc, .inl (cy 0, 16, .inl tf))] := hD
          refine lv_aload_n hx hb dX7_ask_25 rfl (lv_at hl 0 rfl) ?_
          refine lv_iload_n hx hb dX7_ask_26 rfl (lv_at hl 1 rfl) ?_
          refine q_rV (As := [.int (nI c)]) (rest := []) ⟨hx, hb, hml, hown, hts⟩ (c_X7_kindIn l D cy m0 ml mm mit ms mt nw dr tr pa ig kx be tc st fk fp av sv ov vv tn ac 0 f w hm hv c (by omega)) (cwV 1 hts gX7_ask_X7_kindIn rfl rfl rfl (by decide +kernel) ⟨Nat.le_of_ble_eq_true rfl, Nat.le_of_ble_eq_true rfl⟩) hP hK [0, 1] rfl 0 rfl rfl rfl rfl hl.1 rfl (Nat.le_of_ble_eq_true rfl) dX7_ask_27 ⟨Nat.zero_le _, Nat.zero_le _⟩ (fun r17 hr17 => ?_)
          obtain rfl := hr17
          refine q_top (y := nI 3) (by rw [hkd]) ?_
          refine lv_iconst (v := nI 4) hx hb dX7_ask_30 (by decide) ?_
          refine lv_icmp_lt (tgt := 38) hx hb dX7_ask_31 (by decide) (fun _ => ?_) (fun c9 => absurd (by decide) c9)
          refine lv_iconst (v := nI 0) hx hb dX7_ask_38 (by decide) ?_
          refine lv_istore_n (lv' := [(3, .int (nI 0)), (0, .ref m0), (1, .int (nI c)), (2, .int (nI 0))]) hx hb dX7_ask_39 rfl hl (by decide) rfl (fun ls hl => ?_)
          refine lv_iload_n hx hb dX7_ask_40 rfl (lv_at hl 3 rfl) ?_
          refine lv_if_ne (tgt := 62) hx hb dX7_ask_41 (by decide) (fun c9 => absurd (by decide) c9) (fun _ => ?_)
          refine lv_iload_n hx hb dX7_ask_44 rfl (lv_at hl 0 rfl) ?_
          refine lv_if_eq (tgt := 56) hx hb dX7_ask_45 (by decide) (fun _ => ?_) (fun c9 => absurd (by decide) c9)
          refine lv_aload_n hx hb dX7_ask_56 rfl (lv_at hl 1 rfl) ?_
          refine lv_iload_n hx hb dX7_ask_57 rfl (lv_at hl 2 rfl) ?_
          refine q_wiV (As := [.int (nI c)]) (rest := []) (wr := []) ⟨hx, hb, hml, hown, hts⟩ (c_X7_threadSize_3 l D cy m0 ml mm mit ms mt nw dr tr pa ig kx be tc st fk fp av sv ov vv tn ac 0 f w hm hv tf (by omega) c hc hkd) (cwV 1 hts gX7_ask_X7_threadSize rfl rfl rfl (by decide +kernel) ⟨Nat.le_of_ble_eq_true rfl, Nat.le_of_ble_eq_true rfl⟩) hP hD hS hA hK [0, 1, 2] [] rfl rfl (by decide) rfl (by decide) (by decide) 0 rfl rfl rfl rfl hl.1 rfl (Nat.le_of_ble_eq_true rfl) dX7_ask_58 ⟨Nat.zero_le _, Nat.zero_le _⟩ (fun r18 u19 H locs hr18 hP hD hS => ?_)
          obtain ⟨rfl, rfl⟩ := hr18
          have hP : va_P D vwCl [(m0, .inr (7, [.ref ml, .ref mm, .ref mit, .ref ms, .int (st), .ref mt, .int (nI tn), .int (fk), .int (fp), .int (av), .int (sv), .int (ov), .int (vv), .ref nw, .ref dr, .ref tr, .ref pa, .int (nI ac), .ref ig, .ref kx, .ref be, .ref tc, .int (nI (0 + 5))])), (nw, .inl (cy 0, 29, .inl f)), (tc, .inl (cy 0, 16, .inl (trP tf 0 [11, 10, 22, 21, 20])))] H := hP
          have hD : va_D A [(m0, .inr (7, [.ref ml, .ref mm, .ref mit, .ref ms, .int (st), .ref mt, .int (nI tn), .int (fk), .int (fp), .int (av), .int (sv), .int (ov), .int (vv), .ref nw, .ref dr, .ref tr, .ref pa, .int (nI ac), .ref ig, .ref kx, .ref be, .ref tc, .int (nI (0 + 5))])), (nw, .inl (cy 0, 29, .inl f)), (tc, .inl (cy 0, 16, .inl (trP tf 0 [11, 10, 22, 21, 20])))] := hD
          have hP9 := hP
          have hD9 := hD
          exact q_wiret (v := (nI (ctT w c)) + (nI (c + ctO w c) - nI 1000)) hx hb hr hlocks dX7_ask_61 hP9 hD9 hS (⟨_, _, by simp only [oAsk, if_pos b2, if_pos b4, q_cl (by omega : c < 2147483648), q_cl (by decide : 0 < 2147483648), askS, askM, askSL, askML, hkd]; rfl, rfl⟩)
        · refine lv_aload_n hx hb dX7_ask_20 rfl (lv_at hl 0 rfl) ?_
          refine lv_iconst (v := nI 0) hx hb dX7_ask_21 (by decide) ?_
          refine va_put (D := D) (ci := 7) (v := .int (nI 0)) (ty := .int) (C := RX7) (T := TX7) (N := 23) hx hb hts nX7_ask_0 tyX7 tyX7_ok nmX7 hown hK.1 hP hD hS 0 rfl rfl 22 (by decide) (hts _ mX7_ask_1) (fun _ h9 => h9) rfl (by decide +kernel) rfl rfl (Nat.le_of_ble_eq_true rfl) dX7_ask_22 (fun H locs hP hD hS => ?_)
          have hP : va_P D vwCl [(m0, .inr (7, [.ref ml, .ref mm, .ref mit, .ref ms, .int (st), .ref mt, .int (nI tn), .int (fk), .int (fp), .int (av), .int (sv), .int (ov), .int (vv), .ref nw, .ref dr, .ref tr, .ref pa, .int (nI ac), .ref ig, .ref kx, .ref be, .ref tc, .int (nI 0)])), (nw, .inl (cy 0, 29, .inl f)), (tc, .inl (cy 0, 16, .inl tf))] H := hP
          have hD : va_D A [(m0, .inr (7, [.ref ml, .ref mm, .ref mit, .ref ms, .int (st), .ref mt, .int (nI tn), .int (fk), .int (fp), .int (av), .int (sv), .int (ov), .int (vv), .ref nw, .ref dr, .ref tr, .ref pa, .int (nI ac), .ref ig, .ref kx, .ref be, .ref tc, .int (nI 0)])), (nw, .inl (cy 0, 29, .inl f)), (tc, .inl (cy 0, 16, .inl tf))] := hD
          refine lv_aload_n hx hb dX7_ask_25 rfl (lv_at hl 0 rfl) ?_
          refine lv_iload_n hx hb dX7_ask_26 rfl (lv_at hl 1 rfl) ?_
          refine q_rV (As := [.int (nI c)]) (rest := []) ⟨hx, hb, hml, hown, hts⟩ (c_X7_kindIn l D cy m0 ml mm mit ms mt nw dr tr pa ig kx be tc st fk fp av sv ov vv tn ac 0 f w hm hv c (by omega)) (cwV 1 hts gX7_ask_X7_kindIn rfl rfl rfl (by decide +kernel) ⟨Nat.le_of_ble_eq_true rfl, Nat.le_of_ble_eq_true rfl⟩) hP hK [0, 1] rfl 0 rfl rfl rfl rfl hl.1 rfl (Nat.le_of_ble_eq_true rfl) dX7_ask_27 ⟨Nat.zero_le _, Nat.zero_le _⟩ (fun r20 hr20 => ?_)
          obtain rfl := hr20
          refine q_top (y := nI 3) (by rw [hkd]) ?_
          refine lv_iconst (v := nI 4) hx hb dX7_ask_30 (by decide) ?_
          refine lv_icmp_lt (tgt := 38) hx hb dX7_ask_31 (by decide) (fun _ => ?_) (fun c9 => absurd (by decide) c9)
          refine lv_iconst (v := nI 0) hx hb dX7_ask_38 (by decide) ?_
          refine lv_istore_n (lv' := [(3, .int (nI 0)), (0, .ref m0), (1, .int (nI c)), (2, .int (nI 1))]) hx hb dX7_ask_39 rfl hl (by decide) rfl (fun ls hl => ?_)
          refine lv_iload_n hx hb dX7_ask_40 rfl (lv_at hl 3 rfl) ?_
          refine lv_if_ne (tgt := 62) hx hb dX7_ask_41 (by decide) (fun _ => ?_) (fun c9 => absurd c9 (by decide))
          refine lv_iload_n hx hb dX7_ask_62 rfl (lv_at hl 0 rfl) ?_
          refine lv_if_eq (tgt := 74) hx hb dX7_ask_63 (by decide) (fun _ => ?_) (fun c9 => absurd (by decide) c9)
          refine lv_aload_n hx hb dX7_ask_74 rfl (lv_at hl 1 rfl) ?_
          refine lv_iload_n hx hb dX7_ask_75 rfl (lv_at hl 2 rfl) ?_
          refine q_wiV (As := [.int (nI c)]) (rest := []) (wr := []) ⟨hx, hb, hml, hown, hts⟩ (c_X7_threadMark_3 l D cy m0 ml mm mit ms mt nw dr tr pa ig kx be tc st fk fp av sv ov vv tn ac 0 f w hm hv tf (by omega) c hc hkd) (cwV 1 hts gX7_ask_X7_threadMark rfl rfl rfl (by decide +kernel) ⟨Nat.le_of_ble_eq_true rfl, Nat.le_of_ble_eq_true rfl⟩) hP hD hS hA hK [0, 1, 2] [] rfl rfl (by decide) rfl (by decide) (by decide) 0 rfl rfl rfl rfl hl.1 rfl (Nat.le_of_ble_eq_true rfl) dX7_ask_76 ⟨Nat.zero_le _, Nat.zero_le _⟩ (fun r21 u22 H locs hr21 hP hD hS => ?_)
          obtain ⟨rfl, rfl⟩ := hr21
          have hP : va_P D vwCl [(m0, .inr (7, [.ref ml, .ref mm, .ref mit, .ref ms, .int (st), .ref mt, .int (nI tn), .int (fk), .int (fp), .int (av), .int (sv), .int (ov), .int (vv), .ref nw, .ref dr, .ref tr, .ref pa, .int (nI ac), .ref ig, .ref kx, .ref be, .ref tc, .int (nI (0 + 3))])), (nw, .inl (cy 0, 29, .inl f)), (tc, .inl (cy 0, 16, .inl (trP tf 0 [22, 21, 20])))] H := hP
          have hD : va_D A [(m0, .inr (7, [.ref ml, .ref mm, .ref mit, .ref ms, .int (st), .ref mt, .int (nI tn), .int (fk), .int (fp), .int (av), .int (sv), .int (ov), .int (vv), .ref nw, .ref dr, .ref tr, .ref pa, .int (nI ac), .ref ig, .ref kx, .ref be, .ref tc, .int (nI (0 + 3))])), (nw, .inl (cy 0, 29, .inl f)), (tc, .inl (cy 0, 16, .inl (trP tf 0 [22, 21, 20])))] := hD
          have hP9 := hP
          have hD9 := hD
          exact q_wiret (v := nI (c + ctO w c) - nI 1000) hx hb hr hlocks dX7_ask_79 hP9 hD9 hS (⟨_, _, by simp only [oAsk, if_pos b2, if_pos b4, q_cl (by omega : c < 2147483648), q_cl (by decide : 1 < 2147483648), askS, askM, askSL, askML, hkd]; rfl, rfl⟩)
      · rcases (show m = 0 ∨ m = 1 by omega) with rfl | rfl
        · refine lv_aload_n hx hb dX7_ask_20 rfl (lv_at hl 0 rfl) ?_
          refine lv_iconst (v := nI 0) hx hb dX7_ask_21 (by decide) ?_
          refine va_put (D := D) (ci := 7) (v := .int (nI 0)) (ty := .int) (C := RX7) (T := TX7) (N := 23) hx hb hts nX7_ask_0 tyX7 tyX7_ok nmX7 hown hK.1 hP hD hS 0 rfl rfl 22 (by decide) (hts _ mX7_ask_1) (fun _ h9 => h9) rfl (by decide +kernel) rfl rfl (Nat.le_of_ble_eq_true rfl) dX7_ask_22 (fun H locs hP hD hS => ?_)
          have hP : va_P D vwCl [(m0, .inr (7, [.ref ml, .ref mm, .ref mit, .ref ms, .int (st), .ref mt, .int (nI tn), .int (fk), .int (fp), .int (av), .int (sv), .int (ov), .int (vv), .ref nw, .ref dr, .ref tr, .ref pa, .int (nI ac), .ref ig, .ref kx, .ref be, .ref tc, .int (nI 0)])), (nw, .inl (cy 0, 29, .inl f)), (tc, .inl (cy 0, 16, .inl tf))] H := hP
          have hD : va_D A [(m0, .inr (7, [.ref ml, .ref mm, .ref mit, .ref ms, .int (st), .ref mt, .int (nI tn), .int (fk), .int (fp), .int (av), .int (sv), .int (ov), .int (vv), .ref nw, .ref dr, .ref tr, .ref pa, .int (nI ac), .ref ig, .ref kx, .ref be, .ref tc, .int (nI 0)])), (nw, .inl (cy 0, 29, .inl f)), (tc, .inl (cy 0, 16, .inl tf))] := hD
          refine lv_aload_n hx hb dX7_ask_25 rfl (lv_at hl 0 rfl) ?_
          refine lv_iload_n hx hb dX7_ask_26 rfl (lv_at hl 1 rfl) ?_
          refine q_rV (As := [.int (nI c)]) (rest := []) ⟨hx, hb, hml, hown, hts⟩ (c_X7_kindIn l D cy m0 ml mm mit ms mt nw dr tr pa ig kx be tc st fk fp av sv ov vv tn ac 0 f w hm hv c (by omega)) (cwV 1 hts gX7_ask_X7_kindIn rfl rfl rfl (by decide +kernel) ⟨Nat.le_of_ble_eq_true rfl, Nat.le_of_ble_eq_true rfl⟩) hP hK [0, 1] rfl 0 rfl rfl rfl rfl hl.1 rfl (Nat.le_of_ble_eq_true rfl) dX7_ask_27 ⟨Nat.zero_le _, Nat.zero_le _⟩ (fun r23 hr23 => ?_)
          obtain rfl := hr23
          refine q_top (y := nI 4) (by rw [hkd]) ?_
          refine lv_iconst (v := nI 4) hx hb dX7_ask_30 (by decide) ?_
          refine lv_icmp_lt (tgt := 38) hx hb dX7_ask_31 (by decide) (fun c9 => absurd c9 (by decide)) (fun _ => ?_)
          refine lv_iconst (v := nI 1) hx hb dX7_ask_34 (by decide) ?_
          refine lv_goto (tgt := 39) hx hb dX7_ask_35 (by decide) ?_
          refine lv_istore_n (lv' := [(3, .int (nI 1)), (0, .ref m0), (1, .int (nI c)), (2, .int (nI 0))]) hx hb dX7_ask_39 rfl hl (by decide) rfl (fun ls hl => ?_)
          refine lv_iload_n hx hb dX7_ask_40 rfl (lv_at hl 3 rfl) ?_
          refine lv_if_ne (tgt := 62) hx hb dX7_ask_41 (by decide) (fun c9 => absurd (by decide) c9) (fun _ => ?_)
          refine lv_iload_n hx hb dX7_ask_44 rfl (lv_at hl 0 rfl) ?_
          refine lv_if_eq (tgt := 56) hx hb dX7_ask_45 (by decide) (fun c9 => absurd c9 (by decide)) (fun _ => ?_)
          refine lv_aload_n hx hb dX7_ask_48 rfl (lv_at hl 1 rfl) ?_
          refine lv_iload_n hx hb dX7_ask_49 rfl (lv_at hl 2 rfl) ?_
          refine q_wiV (As := [.int (nI c)]) (rest := []) (wr := []) ⟨hx, hb, hml, hown, hts⟩ (c_X7_stainSize_4 l D cy m0 ml mm mit ms mt nw dr tr pa ig kx be tc st fk fp av sv ov vv tn ac 0 f w hm hv tf (by omega) c hc hkd) (cwV 1 hts gX7_ask_X7_stainSize rfl rfl rfl (by decide +kernel) ⟨Nat.le_of_ble_eq_true rfl, Nat.le_of_ble_eq_true rfl⟩) hP hD hS hA hK [0, 1, 2] [] rfl rfl (by decide) rfl (by decide) (by decide) 0 rfl rfl rfl rfl hl.1 rfl (Nat.le_of_ble_eq_true rfl) dX7_ask_50 ⟨Nat.zero_le _, Nat.zero_le _⟩ (fun r24 u25 H locs hr24 hP hD hS => ?_)
          obtain ⟨rfl, rfl⟩ := hr24
          have hP : va_P D vwCl [(m0, .inr (7, [.ref ml, .ref mm, .ref mit, .ref ms, .int (st), .ref mt, .int (nI tn), .int (fk), .int (fp), .int (av), .int (sv), .int (ov), .int (vv), .ref nw, .ref dr, .ref tr, .ref pa, .int (nI ac), .ref ig, .ref kx, .ref be, .ref tc, .int (nI (0 + 2))])), (nw, .inl (cy 0, 29, .inl f)), (tc, .inl (cy 0, 16, .inl (trP tf 0 [13, 10])))] H := hP
          have hD : va_D A [(m0, .inr (7, [.ref ml, .ref mm, .ref mit, .ref ms, .int (st), .ref mt, .int (nI tn), .int (fk), .int (fp), .int (av), .int (sv), .int (ov), .int (vv), .ref nw, .ref dr, .ref tr, .ref pa, .int (nI ac), .ref ig, .ref kx, .ref be, .ref tc, .int (nI (0 + 2))])), (nw, .inl (cy 0, 29, .inl f)), (tc, .inl (cy 0, 16, .inl (trP tf 0 [13, 10])))] := hD
          refine lv_goto (tgt := 61) hx hb dX7_ask_53 (by decide) ?_
          have hP9 := hP
          have hD9 := hD
          exact q_wiret (v := nI (ctT w c) - nI 100) hx hb hr hlocks dX7_ask_61 hP9 hD9 hS (⟨_, _, by simp only [oAsk, if_pos b2, if_pos b4, q_cl (by omega : c < 2147483648), q_cl (by decide : 0 < 2147483648), askS, askM, askSL, askML, hkd]; rfl, rfl⟩)
        · refine lv_aload_n hx hb dX7_ask_20 rfl (lv_at hl 0 rfl) ?_
          refine lv_iconst (v := nI 0) hx hb dX7_ask_21 (by decide) ?_
          refine va_put (D := D) (ci := 7) (v := .int (nI 0)) (ty := .int) (C := RX7) (T := TX7) (N := 23) hx hb hts nX7_ask_0 tyX7 tyX7_ok nmX7 hown hK.1 hP hD hS 0 rfl rfl 22 (by decide) (hts _ mX7_ask_1) (fun _ h9 => h9) rfl (by decide +kernel) rfl rfl (Nat.le_of_ble_eq_true rfl) dX7_ask_22 (fun H locs hP hD hS => ?_)
          have hP : va_P D vwCl [(m0, .inr (7, [.ref ml, .ref mm, .ref mit, .ref ms, .int (st), .ref mt, .int (nI tn), .int (fk), .int (fp), .int (av), .int (sv), .int (ov), .int (vv), .ref nw, .ref dr, .ref tr, .ref pa, .int (nI ac), .ref ig, .ref kx, .ref be, .ref tc, .int (nI 0)])), (nw, .inl (cy 0, 29, .inl f)), (tc, .inl (cy 0, 16, .inl tf))] H := hP
          have hD : va_D A [(m0, .inr (7, [.ref ml, .ref mm, .ref mit, .ref ms, .int (st), .ref mt, .int (nI tn), .int (fk), .int (fp), .int (av), .int (sv), .int (ov), .int (vv), .ref nw, .ref dr, .ref tr, .ref pa, .int (nI ac), .ref ig, .ref kx, .ref be, .ref tc, .int (nI 0)])), (nw, .inl (cy 0, 29, .inl f)), (tc, .inl (cy 0, 16, .inl tf))] := hD
          refine lv_aload_n hx hb dX7_ask_25 rfl (lv_at hl 0 rfl) ?_
          refine lv_iload_n hx hb dX7_ask_26 rfl (lv_at hl 1 rfl) ?_
          refine q_rV (As := [.int (nI c)]) (rest := []) ⟨hx, hb, hml, hown, hts⟩ (c_X7_kindIn l D cy m0 ml mm mit ms mt nw dr tr pa ig kx be tc st fk fp av sv ov vv tn ac 0 f w hm hv c (by omega)) (cwV 1 hts gX7_ask_X7_kindIn rfl rfl rfl (by decide +kernel) ⟨Nat.le_of_ble_eq_true rfl, Nat.le_of_ble_eq_true rfl⟩) hP hK [0, 1] rfl 0 rfl rfl rfl rfl hl.1 rfl (Nat.le_of_ble_eq_true rfl) dX7_ask_27 ⟨Nat.zero_le _, Nat.zero_le _⟩ (fun r26 hr26 => ?_)
          obtain rfl := hr26
          refine q_top (y := nI 4) (by rw [hkd]) ?_
          refine lv_iconst (v := nI 4) hx hb dX7_ask_30 (by decide) ?_
          refine lv_icmp_lt (tgt := 38) hx hb dX7_ask_31 (by decide) (fun c9 => absurd c9 (by decide)) (fun _ => ?_)
          refine lv_iconst (v := nI 1) hx hb dX7_ask_34 (by decide) ?_
          refine lv_goto (tgt := 39) hx hb dX7_ask_35 (by decide) ?_
          refine lv_istore_n (lv' := [(3, .int (nI 1)), (0, .ref m0), (1, .int (nI c)), (2, .int (nI 1))]) hx hb dX7_ask_39 rfl hl (by decide) rfl (fun ls hl => ?_)
          refine lv_iload_n hx hb dX7_ask_40 rfl (lv_at hl 3 rfl) ?_
          refine lv_if_ne (tgt := 62) hx hb dX7_ask_41 (by decide) (fun _ => ?_) (fun c9 => absurd c9 (by decide))
          refine lv_iload_n hx hb dX7_ask_62 rfl (lv_at hl 0 rfl) ?_
          refine lv_if_eq (tgt := 74) hx hb dX7_ask_63 (by decide) (fun c9 => absurd c9 (by decide)) (fun _ => ?_)
          refine lv_aload_n hx hb dX7_ask_66 rfl (lv_at hl 1 rfl) ?_
          refine lv_iload_n hx hb dX7_ask_67 rfl (lv_at hl 2 rfl) ?_
          refine q_wiV (As := [.int (nI c)]) (rest := []) (wr := []) ⟨hx, hb, hml, hown, hts⟩ (c_X7_stainMark_4 l D cy m0 ml mm mit ms mt nw dr tr pa ig kx be tc st fk fp av sv ov vv tn ac 0 f w hm hv tf (by omega) c hc hkd) (cwV 1 hts gX7_ask_X7_stainMark rfl rfl rfl (by decide +kernel) ⟨Nat.le_of_ble_eq_true rfl, Nat.le_of_ble_eq_true rfl⟩) hP hD hS hA hK [0, 1, 2] [] rfl rfl (by decide) rfl (by decide) (by decide) 0 rfl rfl rfl rfl hl.1 rfl (Nat.le_of_ble_eq_true rfl) dX7_ask_68 ⟨Nat.zero_le _, Nat.zero_le _⟩ (fun r27 u28 H locs hr27 hP hD hS => ?_)
          obtain ⟨rfl, rfl⟩ := hr27
          have hP : va_P D vwCl [(m0, .inr (7, [.ref ml, .ref mm, .ref mit, .ref ms, .int (st), .ref mt, .int (nI tn), .int (fk), .int (fp), .int (av), .int (sv), .int (ov), .int (vv), .ref nw, .ref dr, .ref tr, .ref pa, .int (nI ac), .ref ig, .ref kx, .ref be, .ref tc, .int (nI (0 + 4))])), (nw, .inl (cy 0, 29, .inl f)), (tc, .inl (cy 0, 16, .inl (trP tf 0 [23, 20, 13, 10])))] H := hP
          have hD : va_D A [(m0, .inr (7, [.ref ml, .ref mm, .ref mit, .ref ms, .int (st), .ref mt, .int (nI tn), .int (fk), .int (fp), .int (av), .int (sv), .int (ov), .int (vv), .ref nw, .ref dr, .ref tr, .ref pa, .int (nI ac), .ref ig, .ref kx, .ref be, .ref tc, .int (nI (0 + 4))])), (nw, .inl (cy 0, 29, .inl f)), (tc, .inl (cy 0, 16, .inl (trP tf 0 [23, 20, 13, 10])))] := hD
          refine lv_goto (tgt := 79) hx hb dX7_ask_71 (by decide) ?_
          have hP9 := hP
          have hD9 := hD
          exact q_wiret (v := (nI c) - (nI (ctT w c) - nI 100)) hx hb hr hlocks dX7_ask_79 hP9 hD9 hS (⟨_, _, by simp only [oAsk, if_pos b2, if_pos b4, q_cl (by omega : c < 2147483648), q_cl (by decide : 1 < 2147483648), askS, askM, askSL, askML, hkd]; rfl, rfl⟩)
      · rcases (show m = 0 ∨ m = 1 by omega) with rfl | rfl
        · refine lv_aload_n hx hb dX7_ask_20 rfl (lv_at hl 0 rfl) ?_
          refine lv_iconst (v := nI 0) hx hb dX7_ask_21 (by decide) ?_
          refine va_put (D := D) (ci := 7) (v := .int (nI 0)) (ty := .int) (C := RX7) (T := TX7) (N := 23) hx hb hts nX7_ask_0 tyX7 tyX7_ok nmX7 hown hK.1 hP hD hS 0 rfl rfl 22 (by decide) (hts _ mX7_ask_1) (fun _ h9 => h9) rfl (by decide +kernel) rfl rfl (Nat.le_of_ble_eq_true rfl) dX7_ask_22 (fun H locs hP hD hS => ?_)
          have hP : va_P D vwCl [(m0, .inr (7, [.ref ml, .ref mm, .ref mit, .ref ms, .int (st), .ref mt, .int (nI tn), .int (fk), .int (fp), .int (av), .int (sv), .int (ov), .int (vv), .ref nw, .ref dr, .ref tr, .ref pa, .int (nI ac), .ref ig, .ref kx, .ref be, .ref tc, .int (nI 0)])), (nw, .inl (cy 0, 29, .inl f)), (tc, .inl (cy 0, 16, .inl tf))] H := hP
          have hD : va_D A [(m0, .inr (7, [.ref ml, .ref mm, .ref mit, .ref ms, .int (st), .ref mt, .int (nI tn), .int (fk), .int (fp), .int (av), .int (sv), .int (ov), .int (vv), .ref nw, .ref dr, .ref tr, .ref pa, .int (nI ac), .ref ig, .ref kx, .ref be, .ref tc, .int (nI 0)])), (nw, .inl (cy 0, 29, .inl f)), (tc, .inl (cy 0, 16, .inl tf))] := hD
          refine lv_aload_n hx hb dX7_ask_25 rfl (lv_at hl 0 rfl) ?_
          refine lv_iload_n hx hb dX7_ask_26 rfl (lv_at hl 1 rfl) ?_
          refine q_rV (As := [.int (nI c)]) (rest := []) ⟨hx, hb, hml, hown, hts⟩ (c_X7_kindIn l D cy m0 ml mm mit ms mt nw dr tr pa ig kx be tc st fk fp av sv ov vv tn ac 0 f w hm hv c (by omega)) (cwV 1 hts gX7_ask_X7_kindIn rfl rfl rfl (by decide +kernel) ⟨Nat.le_of_ble_eq_true rfl, Nat.le_of_ble_eq_true rfl⟩) hP hK [0, 1] rfl 0 rfl rfl rfl rfl hl.1 rfl (Nat.le_of_ble_eq_true rfl) dX7_ask_27 ⟨Nat.zero_le _, Nat.zero_le _⟩ (fun r29 hr29 => ?_)
          obtain rfl := hr29
          refine q_top (y := nI 5) (by rw [hkd]) ?_
          refine lv_iconst (v := nI 4) hx hb dX7_ask_30 (by decide) ?_
          refine lv_icmp_lt (tgt := 38) hx hb dX7_ask_31 (by decide) (fun c9 => absurd c9 (by decide)) (fun _ => ?_)
          refine lv_iconst (v := nI 1) hx hb dX7_ask_34 (by decide) ?_
          refine lv_goto (tgt := 39) hx hb dX7_ask_35 (by decide) ?_
          refine lv_istore_n (lv' := [(3, .int (nI 1)), (0, .ref m0), (1, .int (nI c)), (2, .int (nI 0))]) hx hb dX7_ask_39 rfl hl (by decide) rfl (fun ls hl => ?_)
          refine lv_iload_n hx hb dX7_ask_40 rfl (lv_at hl 3 rfl) ?_
          refine lv_if_ne (tgt := 62) hx hb dX7_ask_41 (by decide) (fun c9 => absurd (by decide) c9) (fun _ => ?_)
          refine lv_iload_n hx hb dX7_ask_44 rfl (lv_at hl 0 rfl) ?_
          refine lv_if_eq (tgt := 56) hx hb dX7_ask_45 (by decide) (fun c9 => absurd c9 (by decide)) (fun _ => ?_)
          refine lv_aload_n hx hb dX7_ask_48 rfl (lv_at hl 1 rfl) ?_
          refine lv_iload_n hx hb dX7_ask_49 rfl (lv_at hl 2 rfl) ?_
          refine q_wiV (As := [.int (nI c)]) (rest := []) (wr := []) ⟨hx, hb, hml, hown, hts⟩ (c_X7_stainSize_5 l D cy m0 ml mm mit ms mt nw dr tr pa ig kx be tc st fk fp av sv ov vv tn ac 0 f w hm hv tf (by omega) c hc hkd) (cwV 1 hts gX7_ask_X7_stainSize rfl rfl rfl (by decide +kernel) ⟨Nat.le_of_ble_eq_true rfl, Nat.le_of_ble_eq_true rfl⟩) hP hD hS hA hK [0, 1, 2] [] rfl rfl (by decide) rfl (by decide) (by decide) 0 rfl rfl rfl rfl hl.1 rfl (Nat.le_of_ble_eq_true rfl) dX7_ask_50 ⟨Nat.zero_le _, Nat.zero_le _⟩ (fun r30 u31 H locs hr30 hP hD hS => ?_)
          obtain ⟨rfl, rfl⟩ := hr30
          have hP : va_P D vwCl [(m0, .inr (7, [.ref ml, .ref mm, .ref mit, .ref ms, .int (st), .ref mt, .int (nI tn), .int (fk), .int (fp), .int (av), .int (sv), .int (ov), .int (vv), .ref nw, .ref dr, .ref tr, .ref pa, .int (nI ac), .ref ig, .ref kx, .ref be, .ref tc, .int (nI (0 + 3))])), (nw, .inl (cy 0, 29, .inl f)), (tc, .inl (cy 0, 16, .inl (trP tf 0 [14, 13, 10])))] H := hP
          have hD : va_D A [(m0, .inr (7, [.ref ml, .ref mm, .ref mit, .ref ms, .int (st), .ref mt, .int (nI tn), .int (fk), .int (fp), .int (av), .int (sv), .int (ov), .int (vv), .ref nw, .ref dr, .ref tr, .ref pa, .int (nI ac), .ref ig, .ref kx, .ref be, .ref tc, .int (nI (0 + 3))])), (nw, .inl (cy 0, 29, .inl f)), (tc, .inl (cy 0, 16, .inl (trP tf 0 [14, 13, 10])))] := hD
          refine lv_goto (tgt := 61) hx hb dX7_ask_53 (by decide) ?_
          have hP9 := hP
          have hD9 := hD
          exact q_wiret (v := (nI 2) * (nI (ctT w c) - nI 100)) hx hb hr hlocks dX7_ask_61 hP9 hD9 hS (⟨_, _, by simp only [oAsk, if_pos b2, if_pos b4, q_cl (by omega : c < 2147483648), q_cl (by decide : 0 < 2147483648), askS, askM, askSL, askML, hkd]; rfl, rfl⟩)
        · refine lv_aload_n hx hb dX7_ask_20 rfl (lv_at hl 0 rfl) ?_
          refine lv_iconst (v := nI 0) hx hb dX7_ask_21 (by decide) ?_
          refine va_put (D := D) (ci := 7) (v := .int (nI 0)) (ty := .int) (C := RX7) (T := TX7) (N := 23) hx hb hts nX7_ask_0 tyX7 tyX7_ok nmX7 hown hK.1 hP hD hS 0 rfl rfl 22 (by decide) (hts _ mX7_ask_1) (fun _ h9 => h9) rfl (by decide +kernel) rfl rfl (Nat.le_of_ble_eq_true rfl) dX7_ask_22 (fun H locs hP hD hS => ?_)
          have hP : va_P D vwCl [(m0, .inr (7, [.ref ml, .ref mm, .ref mit, .ref ms, .int (st), .ref mt, .int (nI tn), .int (fk), .int (fp), .int (av), .int (sv), .int (ov), .int (vv), .ref nw, .ref dr, .ref tr, .ref pa, .int (nI ac), .ref ig, .ref kx, .ref be, .ref tc, .int (nI 0)])), (nw, .inl (cy 0, 29, .inl f)), (tc, .inl (cy 0, 16, .inl tf))] H := hP
          have hD : va_D A [(m0, .inr (7, [.ref ml, .ref mm, .ref mit, .ref ms, .int (st), .ref mt, .int (nI tn), .int (fk), .int (fp), .int (av), .int (sv), .int (ov), .int (vv), .ref nw, .ref dr, .ref tr, .ref pa, .int (nI ac), .ref ig, .ref kx, .ref be, .ref tc, .int (nI 0)])), (nw, .inl (cy 0, 29, .inl f)), (tc, .inl (cy 0, 16, .inl tf))] := hD
          refine lv_aload_n hx hb dX7_ask_25 rfl (lv_at hl 0 rfl) ?_
          refine lv_iload_n hx hb dX7_ask_26 rfl (lv_at hl 1 rfl) ?_
          refine q_rV (As := [.int (nI c)]) (rest := []) ⟨hx, hb, hml, hown, hts⟩ (c_X7_kindIn l D cy m0 ml mm mit ms mt nw dr tr pa ig kx be tc st fk fp av sv ov vv tn ac 0 f w hm hv c (by omega)) (cwV 1 hts gX7_ask_X7_kindIn rfl rfl rfl (by decide +kernel) ⟨Nat.le_of_ble_eq_true rfl, Nat.le_of_ble_eq_true rfl⟩) hP hK [0, 1] rfl 0 rfl rfl rfl rfl hl.1 rfl (Nat.le_of_ble_eq_true rfl) dX7_ask_27 ⟨Nat.zero_le _, Nat.zero_le _⟩ (fun r32 hr32 => ?_)
          obtain rfl := hr32
          refine q_top (y := nI 5) (by rw [hkd]) ?_
          refine lv_iconst (v := nI 4) hx hb dX7_ask_30 (by decide) ?_
          refine lv_icmp_lt (tgt := 38) hx hb dX7_ask_31 (by decide) (fun c9 => absurd c9 (by decide)) (fun _ => ?_)
          refine lv_iconst (v := nI 1) hx hb dX7_ask_34 (by decide) ?_
          refine lv_goto (tgt := 39) hx hb dX7_ask_35 (by decide) ?_
          refine lv_istore_n (lv' := [(3, .int (nI 1)), (0, .ref m0), (1, .int (nI c)), (2, .int (nI 1))]) hx hb dX7_ask_39 rfl hl (by decide) rfl (fun ls hl => ?_)
          refine lv_iload_n hx hb dX7_ask_40 rfl (lv_at hl 3 rfl) ?_
          refine lv_if_ne (tgt := 62) hx hb dX7_ask_41 (by decide) (fun _ => ?_) (fun c9 => absurd c9 (by decide))
          refine lv_iload_n hx hb dX7_ask_62 rfl (lv_at hl 0 rfl) ?_
          refine lv_if_eq (tgt := 74) hx hb dX7_ask_63 (by decide) (fun c9 => absurd c9 (by decide)) (fun _ => ?_)
          refine lv_aload_n hx hb dX7_ask_66 rfl (lv_at hl 1 rfl) ?_
          refine lv_iload_n hx hb dX7_ask_67 rfl (lv_at hl 2 rfl) ?_
          refine q_wiV (As := [.int (nI c)]) (rest := []) (wr := []) ⟨hx, hb, hml, hown, hts⟩ (c_X7_stainMark_5 l D cy m0 ml mm mit ms mt nw dr tr pa ig kx be tc st fk fp av sv ov vv tn ac 0 f w hm hv tf (by omega) c hc hkd) (cwV 1 hts gX7_ask_X7_stainMark rfl rfl rfl (by decide +kernel) ⟨Nat.le_of_ble_eq_true rfl, Nat.le_of_ble_eq_true rfl⟩) hP hD hS hA hK [0, 1, 2] [] rfl rfl (by decide) rfl (by decide) (by decide) 0 rfl rfl rfl rfl hl.1 rfl (Nat.le_of_ble_eq_true rfl) dX7_ask_68 ⟨Nat.zero_le _, Nat.zero_le _⟩ (fun r33 u34 H locs hr33 hP hD hS => ?_)
          obtain ⟨rfl, rfl⟩ := hr33
          have hP : va_P D vwCl [(m0, .inr (7, [.ref ml, .ref mm, .ref mit, .ref ms, .int (st), .ref mt, .int (nI tn), .int (fk), .int (fp), .int (av), .int (sv), .int (ov), .int (vv), .ref nw, .ref dr, .ref tr, .ref pa, .int (nI ac), .ref ig, .ref kx, .ref be, .ref tc, .int (nI (0 + 5))])), (nw, .inl (cy 0, 29, .inl f)), (tc, .inl (cy 0, 16, .inl (trP tf 0 [23, 20, 14, 13, 10])))] H := hP
          have hD : va_D A [(m0, .inr (7, [.ref ml, .ref mm, .ref mit, .ref ms, .int (st), .ref mt, .int (nI tn), .int (fk), .int (fp), .int (av), .int (sv), .int (ov), .int (vv), .ref nw, .ref dr, .ref tr, .ref pa, .int (nI ac), .ref ig, .ref kx, .ref be, .ref tc, .int (nI (0 + 5))])), (nw, .inl (cy 0, 29, .inl f)), (tc, .inl (cy 0, 16, .inl (trP tf 0 [23, 20, 14, 13, 10])))] := hD
          refine lv_goto (tgt := 79) hx hb dX7_ask_71 (by decide) ?_
          have hP9 := hP
          have hD9 := hD
          exact q_wiret (v := (nI c) - ((nI 2) * (nI (ctT w c) - nI 100))) hx hb hr hlocks dX7_ask_79 hP9 hD9 hS (⟨_, _, by simp only [oAsk, if_pos b2, if_pos b4, q_cl (by omega : c < 2147483648), q_cl (by decide : 1 < 2147483648), askS, askM, askSL, askML, hkd]; rfl, rfl⟩)
    · have _ := b4
      refine lv_if_ne (tgt := 20) hx hb dX7_ask_14 (by decide) (fun c9 => absurd (by decide) c9) (fun _ => ?_)
      refine lv_ldc (v := (-1000001)) hx hb hown (hts _ mX7_ask_2) dX7_ask_17 ?_
      have hP9 := hP
      have hD9 := hD
      exact q_wiret (v := (-1000001)) hx hb hr hlocks dX7_ask_19 hP9 hD9 hS (⟨tf, td, by simp only [oAsk, q_cl (by omega : c < 2147483648), if_pos b2, if_neg b4], rfl⟩)
  · have _ := b2
    refine lv_if_eq (tgt := 17) hx hb dX7_ask_5 (by decide) (fun _ => ?_) (fun c9 => absurd (by decide) c9)
    refine lv_ldc (v := (-1000001)) hx hb hown (hts _ mX7_ask_2) dX7_ask_17 ?_
    have hP9 := hP
    have hD9 := hD
    exact q_wiret (v := (-1000001)) hx hb hr hlocks dX7_ask_19 hP9 hD9 hS (⟨tf, td, by simp only [oAsk, if_neg b2], rfl⟩)

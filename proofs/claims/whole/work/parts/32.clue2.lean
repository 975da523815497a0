theorem lnC_e {a b : Nat} (ha : a ≤ 3) (hb : b ≤ 3) : lnC a = lnC b ↔ a = b := by
  have : ∀ a, a < 4 → ∀ b, b < 4 → (lnC a = lnC b ↔ a = b) := by decide +kernel
  exact this a (by omega) b (by omega)
theorem rwB_2 {z m : Nat} {x : Int32} (h : rwB z x (nI m) = true) (hz : z ≤ 40) (hm : m ≤ 40) : ∃ i : Nat, x = nI i ∧ i + m ≤ z := by
  obtain ⟨i, m2, e1, e2, h3⟩ := rwB_n h hz
  have := (nI_eq (a := m) (b := m2) (by omega) (by omega)).mp e2
  exact ⟨i, e1, by omega⟩
def oCopy (ln sz : Nat → Nat) (it : Nat → Nat → Int32) (st x i y j n : Int32) : oRw :=
  if isR x then if isR y then if ln x.toNatClampNeg = 3 then (-1000011, nI 1, ln, sz, it) else if ln y.toNatClampNeg = 3 then (-1000011, nI 1, ln, sz, it) else
    if ln x.toNatClampNeg = ln y.toNatClampNeg then if rwB (sz x.toNatClampNeg) i n = true then if rwB (sz y.toNatClampNeg) j n = true then
      (n, nI 0, ln, sz, fun z c => if z = y.toNatClampNeg ∧ j.toNatClampNeg ≤ c ∧ c < j.toNatClampNeg + n.toNatClampNeg then it x.toNatClampNeg (i.toNatClampNeg + (c - j.toNatClampNeg)) else it z c)
    else (-1000012, nI 2, ln, sz, it) else (-1000012, nI 2, ln, sz, it) else (-1000015, nI 5, ln, sz, it) else (-1000001, st, ln, sz, it) else (-1000001, st, ln, sz, it)
theorem rwI_copy {ln sz : Nat → Nat} {itS : Nat → Nat → Int32} {fl fz : Nat → Int32} {it : Nat → Nat → Int32} {a b i j m : Nat} (h : rwI ln sz itS fl fz it) (ha : a < 8) (hb : b < 8) (hi : i + m ≤ 40) (hj : j + m ≤ 40) : rwI ln sz (fun z c => if z = b ∧ j ≤ c ∧ c < j + m then itS a (i + (c - j)) else itS z c) fl fz (fun z => if z = b then va_cpy (it a) (it b) i j m else it z) := by
  refine ⟨h.1, fun r c hr hc => ?_⟩
  by_cases e : r = b
  · subst e
    simp only [if_true, true_and]
    by_cases e2 : j ≤ c ∧ c < j + m
    · rw [if_pos e2, pk_cpy_in e2.1 e2.2]
      exact h.2 a _ ha (by omega)
    · rw [if_neg e2, pk_cpy_out (by omega)]
      exact h.2 r c hr hc
  · simp only [e, if_false, false_and]
    exact h.2 r c hr hc
/-- the tape: how many bytes, which -/
def oFeed (n : Nat) (tp : Nat → Nat) (x : Int32) : Int32 × Nat × (Nat → Nat) :=
  if nI 0 ≤ x ∧ x ≤ nI 255 then if 100 ≤ n then (-1000003, n, tp) else (nI (n + 1), n + 1, fun z => if z = n then x.toNatClampNeg else tp z) else (-1000001, n, tp)
theorem tpIs_f {n k : Nat} {tp : Nat → Nat} {fb : Nat → Int32} (h : tpIs n tp fb) (hk : k ≤ 255) : tpIs (n + 1) (fun z => if z = n then k else tp z) (upd fb n (nI k)) := fun j hj => by
  by_cases e : j = n
  · subst e
    simp only [pk_us, if_true]
    exact ⟨trivial, by omega⟩
  · simp only [pk_un e, e, if_false]
    exact h j (by omega)
abbrev inC (n : Nat) (x : Int32) : Prop := nI 0 ≤ x ∧ x < nI n
theorem inC_i {n : Nat} {x : Int32} (hn : n < 2 ^ 31) : (∃ c : Nat, c < n ∧ x = nI c) ↔ inC n x := ⟨fun ⟨c, hc, e⟩ => by subst e; exact ⟨(nI_leI (by decide) (by omega)).mpr (Nat.zero_le _), (nI_ltI (by omega) hn).mpr hc⟩, fun h => by
  have h0 : ¬ x < 0 := fun q => absurd h.1 (fun r => (fa_of_lt q).2.1 r)
  obtain ⟨j, hj, rfl⟩ := nI_of h0
  exact ⟨j, (nI_ltI hj hn).mp h.2, rfl⟩⟩
def oKind (w : Nat → Nat) (x : Int32) : Int32 := if inC (w 4) x then nI (ctK w x.toNatClampNeg) else -1000001
theorem nX6_copy_0 : ∀ w ∈ wsX60, w ∈ wsX6_copy := by decide +kernel
theorem mX6_copy_1 : Cond.fieldLink RX6 10 "ClueLeave" "rows" "LClueLeave$Rows;" ∈ wsX6_copy := by decide +kernel
theorem mX6_copy_2 : Cond.constant RX6 66 (-1000001) ∈ wsX6_copy := by decide +kernel
set_option maxHeartbeats 4000000 in
set_option maxRecDepth 100000 in
theorem c_X6_copy (l : Launch) (D : va_G) (cy : Nat → ClassId) (x0 t0 q s0 k0 h j0 im : Nat) (st : Int32) (r0 rl rz ri : Nat) (gI : Nat → Option Nat) (gR : Nat → Nat) (hgI : ∀ r, r < 8 → gI r = some (gR r)) (fl fz : Nat → Int32) (it : Nat → Nat → Int32) (ln sz : Nat → Nat) (itS : Nat → Nat → Int32) (hrwI : rwI ln sz itS fl fz it) (x i y j n : Int32) : q_Wi l yX6_copy wsX6_copy 3 D cy ([(x0, .inr (6, [.ref r0, .ref t0, .ref q, .ref s0, .ref k0, .ref h, .ref j0, .ref im, .int (st)])), (r0, .inr (4, [.ref rl, .ref rz, .ref ri])), (rl, .inl (cy 0, 8, .inl fl)), (rz, .inl (cy 0, 8, .inl fz)), (ri, .inl (cy 3, 8, .inr (.inr (.inr (.inr gI)))))] ++ (famI cy 8 40 gR it ++ [])) [.ref x0, .int (x), .int (i), .int (y), .int (j), .int (n)] (fun r u => ∃ (st2 : Int32) (ln2 sz2 : Nat → Nat) (itS2 : Nat → Nat → Int32) (fl2 fz2 : Nat → Int32) (it2 : Nat → Nat → Int32), oCopy ln sz itS st x i y j n = (r, st2, ln2, sz2, itS2) ∧ rwI ln2 sz2 itS2 fl2 fz2 it2 ∧ u = ([(x0, .inr (6, [.ref r0, .ref t0, .ref q, .ref s0, .ref k0, .ref h, .ref j0, .ref im, .int (st2)])), (r0, .inr (4, [.ref rl, .ref rz, .ref ri])), (rl, .inl (cy 0, 8, .inl fl2)), (rz, .inl (cy 0, 8, .inl fz2)), (ri, .inl (cy 3, 8, .inr (.inr (.inr (.inr gI)))))] ++ (famI cy 8 40 gR it2 ++ []))) := by
  refine q_wi_of (cc := cX6_copy) (maxL := 6) (ret := (some .int)) (by decide) rfl (Nat.le_of_ble_eq_true rfl) ?_
  intro pg en s mi args below meth cd A hC hA hK H locs hP hD hS ls hl
  obtain ⟨hx, hb, hr, hml, hown, hts, hlocks⟩ := hC
  have hl : lv_has ls 6 [(0, .ref x0), (1, .int (x)), (2, .int (i)), (3, .int (y)), (4, .int (j)), (5, .int (n))] := hl
  have hrw := hrwI.1
  have hit := hrwI.2
  refine lv_aload_n hx hb dX6_copy_0 rfl (lv_at hl 0 rfl) ?_
  refine va_get (D := D) (ci := 6) (v := .ref r0) (C := RX6) (T := TX6) (N := 9) hx hb hts nX6_copy_0 hown hK.1 hP 0 rfl rfl 0 (by decide) (hts _ mX6_copy_1) (fun _ h9 => h9) rfl dX6_copy_1 ?_
  refine lv_iload_n hx hb dX6_copy_4 rfl (lv_at hl 1 rfl) ?_
  refine q_rV (As := [.int (x)]) (rest := []) ⟨hx, hb, hml, hown, hts⟩ (c_X4_isRow l D cy r0 rl rz ri gI gR hgI fl fz it ln sz hrw x) (cwV 1 hts gX6_copy_X4_isRow rfl rfl rfl (by decide +kernel) ⟨Nat.le_of_ble_eq_true rfl, Nat.le_of_ble_eq_true rfl⟩) hP hK [1, 2, 3, 4, 5, 6, 7, 8, 9, 10, 11, 12] rfl 1 rfl rfl rfl rfl hl.1 rfl (Nat.le_of_ble_eq_true rfl) dX6_copy_5 ⟨Nat.zero_le _, Nat.zero_le _⟩ (fun r1 hr1 => ?_)
  rcases hr1 with ⟨rfl, b2⟩ | ⟨rfl, b2⟩
  · replace b2 := (isR_i x).mp b2
    refine lv_if_eq (tgt := 22) hx hb dX6_copy_8 (by decide) (fun c9 => absurd c9 (by decide)) (fun _ => ?_)
    obtain ⟨ka, -, hka, rfl⟩ := q_rng b2 (by decide) (by decide)
    refine lv_aload_n hx hb dX6_copy_11 rfl (lv_at hl 0 rfl) ?_
    refine va_get (D := D) (ci := 6) (v := .ref r0) (C := RX6) (T := TX6) (N := 9) hx hb hts nX6_copy_0 hown hK.1 hP 0 rfl rfl 0 (by decide) (hts _ mX6_copy_1) (fun _ h9 => h9) rfl dX6_copy_12 ?_
    refine lv_iload_n hx hb dX6_copy_15 rfl (lv_at hl 3 rfl) ?_
    refine q_rV (As := [.int (y)]) (rest := []) ⟨hx, hb, hml, hown, hts⟩ (c_X4_isRow l D cy r0 rl rz ri gI gR hgI fl fz it ln sz hrw y) (cwV 1 hts gX6_copy_X4_isRow rfl rfl rfl (by decide +kernel) ⟨Nat.le_of_ble_eq_true rfl, Nat.le_of_ble_eq_true rfl⟩) hP hK [1, 2, 3, 4, 5, 6, 7, 8, 9, 10, 11, 12] rfl 1 rfl rfl rfl rfl hl.1 rfl (Nat.le_of_ble_eq_true rfl) dX6_copy_16 ⟨Nat.zero_le _, Nat.zero_le _⟩ (fun r3 hr3 => ?_)
    rcases hr3 with ⟨rfl, b4⟩ | ⟨rfl, b4⟩
    · replace b4 := (isR_i y).mp b4
      refine lv_if_ne (tgt := 25) hx hb dX6_copy_19 (by decide) (fun _ => ?_) (fun c9 => absurd c9 (by decide))
      obtain ⟨kb, -, hkb, rfl⟩ := q_rng b4 (by decide) (by decide)
      obtain ⟨-, -, hza, hla⟩ := hrw ka (by omega)
      obtain ⟨-, -, hzb, hlb⟩ := hrw kb (by omega)
      refine lv_aload_n hx hb dX6_copy_25 rfl (lv_at hl 0 rfl) ?_
      refine va_get (D := D) (ci := 6) (v := .ref r0) (C := RX6) (T := TX6) (N := 9) hx hb hts nX6_copy_0 hown hK.1 hP 0 rfl rfl 0 (by decide) (hts _ mX6_copy_1) (fun _ h9 => h9) rfl dX6_copy_26 ?_
      refine lv_iload_n hx hb dX6_copy_29 rfl (lv_at hl 1 rfl) ?_
      refine q_rV (As := [.int (nI ka)]) (rest := []) ⟨hx, hb, hml, hown, hts⟩ (c_X4_isMissing l D cy r0 rl rz ri gI gR hgI fl fz it ln sz hrw ka (by omega)) (cwV 1 hts gX6_copy_X4_isMissing rfl rfl rfl (by decide +kernel) ⟨Nat.le_of_ble_eq_true rfl, Nat.le_of_ble_eq_true rfl⟩) hP hK [1, 2, 3, 4, 5, 6, 7, 8, 9, 10, 11, 12] rfl 1 rfl rfl rfl rfl hl.1 rfl (Nat.le_of_ble_eq_true rfl) dX6_copy_30 ⟨Nat.zero_le _, Nat.zero_le _⟩ (fun r5 hr5 => ?_)
      rcases hr5 with ⟨rfl, b6⟩ | ⟨rfl, b6⟩
      · have _ := b6
        refine lv_if_ne (tgt := 47) hx hb dX6_copy_33 (by decide) (fun _ => ?_) (fun c9 => absurd c9 (by decide))
        refine lv_aload_n hx hb dX6_copy_47 rfl (lv_at hl 0 rfl) ?_
        refine lv_iconst (v := nI 1) hx hb dX6_copy_48 (by decide) ?_
        refine q_wiV (As := [.int (nI 1)]) (rest := []) (wr := ([(r0, .inr (4, [.ref rl, .ref rz, .ref ri])), (rl, .inl (cy 0, 8, .inl fl)), (rz, .inl (cy 0, 8, .inl fz)), (ri, .inl (cy 3, 8, .inr (.inr (.inr (.inr gI)))))] ++ (famI cy 8 40 gR it ++ []))) ⟨hx, hb, hml, hown, hts⟩ (c_X6_found l D cy x0 r0 t0 q s0 k0 h j0 im st (nI 1)) (cwV 1 hts gX6_copy_X6_found rfl rfl rfl (by decide +kernel) ⟨Nat.le_of_ble_eq_true rfl, Nat.le_of_ble_eq_true rfl⟩) hP hD hS hA hK [0] [1, 2, 3, 4, 5, 6, 7, 8, 9, 10, 11, 12] rfl rfl (by decide) rfl (by decide) (by decide) 0 rfl rfl rfl rfl hl.1 rfl (Nat.le_of_ble_eq_true rfl) dX6_copy_49 ⟨Nat.zero_le _, Nat.zero_le _⟩ (fun r7 u8 H locs hr7 hP hD hS => ?_)
        obtain ⟨rfl, rfl⟩ := hr7
        have hP := hP.sub (ws' := ([(r0, .inr (4, [.ref rl, .ref rz, .ref ri])), (rl, .inl (cy 0, 8, .inl fl)), (rz, .inl (cy 0, 8, .inl fz)), (ri, .inl (cy 3, 8, .inr (.inr (.inr (.inr gI))))), (x0, .inr (6, [.ref r0, .ref t0, .ref q, .ref s0, .ref k0, .ref h, .ref j0, .ref im, .int (nI 1)]))] ++ (famI cy 8 40 gR it ++ []))) [0, 1, 2, 3, 12, 4, 5, 6, 7, 8, 9, 10, 11] rfl
        have hD := hD.sub (ws' := ([(r0, .inr (4, [.ref rl, .ref rz, .ref ri])), (rl, .inl (cy 0, 8, .inl fl)), (rz, .inl (cy 0, 8, .inl fz)), (ri, .inl (cy 3, 8, .inr (.inr (.inr (.inr gI))))), (x0, .inr (6, [.ref r0, .ref t0, .ref q, .ref s0, .ref k0, .ref h, .ref j0, .ref im, .int (nI 1)]))] ++ (famI cy 8 40 gR it ++ []))) [0, 1, 2, 3, 12, 4, 5, 6, 7, 8, 9, 10, 11] (by decide) rfl
        refine q_top (y := (-1000011)) (by decide) ?_
        have hP9 := hP.sub (ws' := ([(x0, .inr (6, [.ref r0, .ref t0, .ref q, .ref s0, .ref k0, .ref h, .ref j0, .ref im, .int (nI 1)])), (r0, .inr (4, [.ref rl, .ref rz, .ref ri])), (rl, .inl (cy 0, 8, .inl fl)), (rz, .inl (cy 0, 8, .inl fz)), (ri, .inl (cy 3, 8, .inr (.inr (.inr (.inr gI)))))] ++ (famI cy 8 40 gR it ++ []))) [4, 0, 1, 2, 3, 5, 6, 7, 8, 9, 10, 11, 12] rfl
        have hD9 := hD.sub (ws' := ([(x0, .inr (6, [.ref r0, .ref t0, .ref q, .ref s0, .ref k0, .ref h, .ref j0, .ref im, .int (nI 1)])), (r0, .inr (4, [.ref rl, .ref rz, .ref ri])), (rl, .inl (cy 0, 8, .inl fl)), (rz, .inl (cy 0, 8, .inl fz)), (ri, .inl (cy 3, 8, .inr (.inr (.inr (.inr gI)))))] ++ (famI cy 8 40 gR it ++ []))) [4, 0, 1, 2, 3, 5, 6, 7, 8, 9, 10, 11, 12] (by decide) rfl
        exact q_wiret (v := (-1000011)) hx hb hr hlocks dX6_copy_52 hP9 hD9 hS (⟨_, _, _, _, _, _, _, by simp only [oCopy, q_cl (by omega : ka < 2147483648), q_cl (by omega : kb < 2147483648), if_pos b2, if_pos b4, if_pos b6], hrwI, rfl⟩)
      · have _ := b6
        refine lv_if_ne (tgt := 47) hx hb dX6_copy_33 (by decide) (fun c9 => absurd (by decide) c9) (fun _ => ?_)
        refine lv_aload_n hx hb dX6_copy_36 rfl (lv_at hl 0 rfl) ?_
        refine va_get (D := D) (ci := 6) (v := .ref r0) (C := RX6) (T := TX6) (N := 9) hx hb hts nX6_copy_0 hown hK.1 hP 0 rfl rfl 0 (by decide) (hts _ mX6_copy_1) (fun _ h9 => h9) rfl dX6_copy_37 ?_
        refine lv_iload_n hx hb dX6_copy_40 rfl (lv_at hl 3 rfl) ?_
        refine q_rV (As := [.int (nI kb)]) (rest := []) ⟨hx, hb, hml, hown, hts⟩ (c_X4_isMissing l D cy r0 rl rz ri gI gR hgI fl fz it ln sz hrw kb (by omega)) (cwV 1 hts gX6_copy_X4_isMissing rfl rfl rfl (by decide +kernel) ⟨Nat.le_of_ble_eq_true rfl, Nat.le_of_ble_eq_true rfl⟩) hP hK [1, 2, 3, 4, 5, 6, 7, 8, 9, 10, 11, 12] rfl 1 rfl rfl rfl rfl hl.1 rfl (Nat.le_of_ble_eq_true rfl) dX6_copy_41 ⟨Nat.zero_le _, Nat.zero_le _⟩ (fun r9 hr9 => ?_)
        rcases hr9 with ⟨rfl, b10⟩ | ⟨rfl, b10⟩
        · have _ := b10
          refine lv_if_eq (tgt := 53) hx hb dX6_copy_44 (by decide) (fun c9 => absurd c9 (by decide)) (fun _ => ?_)
          refine lv_aload_n hx hb dX6_copy_47 rfl (lv_at hl 0 rfl) ?_
          refine lv_iconst (v := nI 1) hx hb dX6_copy_48 (by decide) ?_
          refine q_wiV (As := [.int (nI 1)]) (rest := []) (wr := ([(r0, .inr (4, [.ref rl, .ref rz, .ref ri])), (rl, .inl (cy 0, 8, .inl fl)), (rz, .inl (cy 0, 8, .inl fz)), (ri, .inl (cy 3, 8, .inr (.inr (.inr (.inr gI)))))] ++ (famI cy 8 40 gR it ++ []))) ⟨hx, hb, hml, hown, hts⟩ (c_X6_found l D cy x0 r0 t0 q s0 k0 h j0 im st (nI 1)) (cwV 1 hts gX6_copy_X6_found rfl rfl rfl (by decide +kernel) ⟨Nat.le_of_ble_eq_true rfl, Nat.le_of_ble_eq_true rfl⟩) hP hD hS hA hK [0] [1, 2, 3, 4, 5, 6, 7, 8, 9, 10, 11, 12] rfl rfl (by decide) rfl (by decide) (by decide) 0 rfl rfl rfl rfl hl.1 rfl (Nat.le_of_ble_eq_true rfl) dX6_copy_49 ⟨Nat.zero_le _, Nat.zero_le _⟩ (fun r11 u12 H locs hr11 hP hD hS => ?_)
          obtain ⟨rfl, rfl⟩ := hr11
          have hP := hP.sub (ws' := ([(r0, .inr (4, [.ref rl, .ref rz, .ref ri])), (rl, .inl (cy 0, 8, .inl fl)), (rz, .inl (cy 0, 8, .inl fz)), (ri, .inl (cy 3, 8, .inr (.inr (.inr (.inr gI))))), (x0, .inr (6, [.ref r0, .ref t0, .ref q, .ref s0, .ref k0, .ref h, .ref j0, .ref im, .int (nI 1)]))] ++ (famI cy 8 40 gR it ++ []))) [0, 1, 2, 3, 12, 4, 5, 6, 7, 8, 9, 10, 11] rfl
          have hD := hD.sub (ws' := ([(r0, .inr (4, [.ref rl, .ref rz, .ref ri])), (rl, .inl (cy 0, 8, .inl fl)), (rz, .inl (cy 0, 8, .inl fz)), (ri, .inl (cy 3, 8, .inr (.inr (.inr (.inr gI))))), (x0, .inr (6, [.ref r0, .ref t0, .ref q, .ref s0, .ref k0, .ref h, .ref j0, .ref im, .int (nI 1)]))] ++ (famI cy 8 40 gR it ++ []))) [0, 1, 2, 3, 12, 4, 5, 6, 7, 8, 9, 10, 11] (by decide) rfl
          refine q_top (y := (-1000011)) (by decide) ?_
          have hP9 := hP.sub (ws' := ([(x0, .inr (6, [.ref r0, .ref t0, .ref q, .ref s0, .ref k0, .ref h, .ref j0, .ref im, .int (nI 1)])), (r0, .inr (4, [.ref rl, .ref rz, .ref ri])), (rl, .inl (cy 0, 8, .inl fl)), (rz, .inl (cy 0, 8, .inl fz)), (ri, .inl (cy 3, 8, .inr (.inr (.inr (.inr gI)))))] ++ (famI cy 8 40 gR it ++ []))) [4, 0, 1, 2, 3, 5, 6, 7, 8, 9, 10, 11, 12] rfl
          have hD9 := hD.sub (ws' := ([(x0, .inr (6, [.ref r0, .ref t0, .ref q, .ref s0, .ref k0, .ref h, .ref j0, .ref im, .int (nI 1)])), (r0, .inr (4, [.ref rl, .ref rz, .ref ri])), (rl, .inl (cy 0, 8, .inl fl)), (rz, .inl (cy 0, 8, .inl fz)), (ri, .inl (cy 3, 8, .inr (.inr (.inr (.inr gI)))))] ++ (famI cy 8 40 gR it ++ []))) [4, 0, 1, 2, 3, 5, 6, 7, 8, 9, 10, 11, 12] (by decide) rfl
          exact q_wiret (v := (-1000011)) hx hb hr hlocks dX6_copy_52 hP9 hD9 hS (⟨_, _, _, _, _, _, _, by simp only [oCopy, q_cl (by omega : ka < 2147483648), q_cl (by omega : kb < 2147483648), if_pos b2, if_pos b4, if_neg b6, if_pos b10], hrwI, rfl⟩)
        · have _ := b10
          refine lv_if_eq (tgt := 53) hx hb dX6_copy_44 (by decide) (fun _ => ?_) (fun c9 => absurd (by decide) c9)
          refine lv_aload_n hx hb dX6_copy_53 rfl (lv_at hl 0 rfl) ?_
          refine va_get (D := D) (ci := 6) (v := .ref r0) (C := RX6) (T := TX6) (N := 9) hx hb hts nX6_copy_0 hown hK.1 hP 0 rfl rfl 0 (by decide) (hts _ mX6_copy_1) (fun _ h9 => h9) rfl dX6_copy_54 ?_
          refine lv_iload_n hx hb dX6_copy_57 rfl (lv_at hl 1 rfl) ?_
          refine q_rV (As := [.int (nI ka)]) (rest := []) ⟨hx, hb, hml, hown, hts⟩ (c_X4_laneOf l D cy r0 rl rz ri gI gR hgI fl fz it ln sz hrw ka (by omega)) (cwV 1 hts gX6_copy_X4_laneOf rfl rfl rfl (by decide +kernel) ⟨Nat.le_of_ble_eq_true rfl, Nat.le_of_ble_eq_true rfl⟩) hP hK [1, 2, 3, 4, 5, 6, 7, 8, 9, 10, 11, 12] rfl 1 rfl rfl rfl rfl hl.1 rfl (Nat.le_of_ble_eq_true rfl) dX6_copy_58 ⟨Nat.zero_le _, Nat.zero_le _⟩ (fun r13 hr13 => ?_)
          obtain rfl := hr13
          refine lv_aload_n hx hb dX6_copy_61 rfl (lv_at hl 0 rfl) ?_
          refine va_get (D := D) (ci := 6) (v := .ref r0) (C := RX6) (T := TX6) (N := 9) hx hb hts nX6_copy_0 hown hK.1 hP 0 rfl rfl 0 (by decide) (hts _ mX6_copy_1) (fun _ h9 => h9) rfl dX6_copy_62 ?_
          refine lv_iload_n hx hb dX6_copy_65 rfl (lv_at hl 3 rfl) ?_
          refine q_rV (As := [.int (nI kb)]) (rest := [.int (lnC (ln ka))]) ⟨hx, hb, hml, hown, hts⟩ (c_X4_laneOf l D cy r0 rl rz ri gI gR hgI fl fz it ln sz hrw kb (by omega)) (cwV 1 hts gX6_copy_X4_laneOf rfl rfl rfl (by decide +kernel) ⟨Nat.le_of_ble_eq_true rfl, Nat.le_of_ble_eq_true rfl⟩) hP hK [1, 2, 3, 4, 5, 6, 7, 8, 9, 10, 11, 12] rfl 1 rfl rfl rfl rfl hl.1 rfl (Nat.le_of_ble_eq_true rfl) dX6_copy_66 ⟨Nat.zero_le _, Nat.zero_le _⟩ (fun r14 hr14 => ?_)
          obtain rfl := hr14
          refine lv_icmp_eq (tgt := 78) hx hb dX6_copy_69 (by decide) (fun c15 => ?_) (fun c15 => ?_)
          · replace c15 := (lnC_e hla hlb).mp c15
            refine lv_aload_n hx hb dX6_copy_78 rfl (lv_at hl 0 rfl) ?_
            refine va_get (D := D) (ci := 6) (v := .ref r0) (C := RX6) (T := TX6) (N := 9) hx hb hts nX6_copy_0 hown hK.1 hP 0 rfl rfl 0 (by decide) (hts _ mX6_copy_1) (fun _ h9 => h9) rfl dX6_copy_79 ?_
            refine lv_iload_n hx hb dX6_copy_82 rfl (lv_at hl 1 rfl) ?_
            refine lv_iload_n hx hb dX6_copy_83 rfl (lv_at hl 2 rfl) ?_
            refine lv_iload hx hb dX6_copy_84 (lv_at hl 5 rfl) ?_
            refine q_rV (As := [.int (nI ka), .int (i), .int (n)]) (rest := []) ⟨hx, hb, hml, hown, hts⟩ (c_X4_hasPlaces l D cy r0 rl rz ri gI gR hgI fl fz it ln sz hrw ka (by omega) i n) (cwV 3 hts gX6_copy_X4_hasPlaces rfl rfl rfl (by decide +kernel) ⟨Nat.le_of_ble_eq_true rfl, Nat.le_of_ble_eq_true rfl⟩) hP hK [1, 2, 3, 4, 5, 6, 7, 8, 9, 10, 11, 12] rfl 1 rfl rfl rfl rfl hl.1 rfl (Nat.le_of_ble_eq_true rfl) dX6_copy_86 ⟨Nat.zero_le _, Nat.zero_le _⟩ (fun r16 hr16 => ?_)
            rcases hr16 with ⟨rfl, b17⟩ | ⟨rfl, b17⟩
            · replace b17 := (rwB_i).mp b17
              refine lv_if_eq (tgt := 107) hx hb dX6_copy_89 (by decide) (fun c9 => absurd c9 (by decide)) (fun _ => ?_)
              obtain ⟨i1, m, rfl, rfl, him⟩ := rwB_n b17 hza
              refine lv_aload_n hx hb dX6_copy_92 rfl (lv_at hl 0 rfl) ?_
              refine va_get (D := D) (ci := 6) (v := .ref r0) (C := RX6) (T := TX6) (N := 9) hx hb hts nX6_copy_0 hown hK.1 hP 0 rfl rfl 0 (by decide) (hts _ mX6_copy_1) (fun _ h9 => h9) rfl dX6_copy_93 ?_
              refine lv_iload_n hx hb dX6_copy_96 rfl (lv_at hl 3 rfl) ?_
              refine lv_iload hx hb dX6_copy_97 (lv_at hl 4 rfl) ?_
              refine lv_iload hx hb dX6_copy_99 (lv_at hl 5 rfl) ?_
              refine q_rV (As := [.int (nI kb), .int (j), .int (nI m)]) (rest := []) ⟨hx, hb, hml, hown, hts⟩ (c_X4_hasPlaces l D cy r0 rl rz ri gI gR hgI fl fz it ln sz hrw kb (by omega) j (nI m)) (cwV 3 hts gX6_copy_X4_hasPlaces rfl rfl rfl (by decide +kernel) ⟨Nat.le_of_ble_eq_true rfl, Nat.le_of_ble_eq_true rfl⟩) hP hK [1, 2, 3, 4, 5, 6, 7, 8, 9, 10, 11, 12] rfl 1 rfl rfl rfl rfl hl.1 rfl (Nat.le_of_ble_eq_true rfl) dX6_copy_101 ⟨Nat.zero_le _, Nat.zero_le _⟩ (fun r18 hr18 => ?_)
              rcases hr18 with ⟨rfl, b19⟩ | ⟨rfl, b19⟩
              · replace b19 := (rwB_i).mp b19
                refine lv_if_ne (tgt := 113) hx hb dX6_copy_104 (by decide) (fun _ => ?_) (fun c9 => absurd c9 (by decide))
                obtain ⟨j1, rfl, hjm⟩ := rwB_2 b19 hzb (by omega)
                refine lv_aload_n hx hb dX6_copy_113 rfl (lv_at hl 0 rfl) ?_
                refine va_get (D := D) (ci := 6) (v := .ref r0) (C := RX6) (T := TX6) (N := 9) hx hb hts nX6_copy_0 hown hK.1 hP 0 rfl rfl 0 (by decide) (hts _ mX6_copy_1) (fun _ h9 => h9) rfl dX6_copy_114 ?_
                refine lv_iload_n hx hb dX6_copy_117 rfl (lv_at hl 1 rfl) ?_
                refine lv_iload_n hx hb dX6_copy_118 rfl (lv_at hl 2 rfl) ?_
                refine lv_iload_n hx hb dX6_copy_119 rfl (lv_at hl 3 rfl) ?_
                refine lv_iload hx hb dX6_copy_120 (lv_at hl 4 rfl) ?_
                refine lv_iload hx hb dX6_copy_122 (lv_at hl 5 rfl) ?_
                refine q_wvV (As := [.int (nI ka), .int (nI i1), .int (nI kb), .int (nI j1), .int (nI m)]) (rest := []) (wr := [(x0, .inr (6, [.ref r0, .ref t0, .ref q, .ref s0, .ref k0, .ref h, .ref j0, .ref im, .int (st)]))]) ⟨hx, hb, hml, hown, hts⟩ (c_X4_move l D cy r0 rl rz ri gI gR hgI fl fz it ln sz hrw ka i1 kb j1 m (by omega) (by omega) (by omega) (by omega)) (cwV 5 hts gX6_copy_X4_move rfl rfl rfl (by decide +kernel) ⟨Nat.le_of_ble_eq_true rfl, Nat.le_of_ble_eq_true rfl⟩) hP hD hS hA hK [1, 2, 3, 4, 5, 6, 7, 8, 9, 10, 11, 12] [0] rfl rfl (by decide) rfl (by decide) (by decide) 1 rfl rfl rfl rfl hl.1 rfl (Nat.le_of_ble_eq_true rfl) dX6_copy_124 ⟨Nat.zero_le _, Nat.zero_le _⟩ (fun u21 H locs hr20 hP hD hS => ?_)
                obtain rfl := hr20
                have hP : va_P D vwCl ([(x0, .inr (6, [.ref r0, .ref t0, .ref q, .ref s0, .ref k0, .ref h, .ref j0, .ref im, .int (st)])), (r0, .inr (4, [.ref rl, .ref rz, .ref ri])), (rl, .inl (cy 0, 8, .inl fl)), (rz, .inl (cy 0, 8, .inl fz)), (ri, .inl (cy 3, 8, .inr (.inr (.inr (.inr gI)))))] ++ (famI cy 8 40 gR (fun i => if i = kb then va_cpy (it ka) (it kb) i1 j1 m else it i) ++ [])) H := hP
                have hD : va_D A ([(x0, .inr (6, [.ref r0, .ref t0, .ref q, .ref s0, .ref k0, .ref h, .ref j0, .ref im, .int (st)])), (r0, .inr (4, [.ref rl, .ref rz, .ref ri])), (rl, .inl (cy 0, 8, .inl fl)), (rz, .inl (cy 0, 8, .inl fz)), (ri, .inl (cy 3, 8, .inr (.inr (.inr (.inr gI)))))] ++ (famI cy 8 40 gR (fun i => if i = kb then va_cpy (it ka) (it kb) i1 j1 m else it i) ++ [])) := hD
                refine lv_aload_n hx hb dX6_copy_127 rfl (lv_at hl 0 rfl) ?_
                refine lv_iload hx hb dX6_copy_128 (lv_at hl 5 rfl) ?_
                refine q_wiV (As := [.int (nI m)]) (rest := []) (wr := ([(r0, .inr (4, [.ref rl, .ref rz, .ref ri])), (rl, .inl (cy 0, 8, .inl fl)), (rz, .inl (cy 0, 8, .inl fz)), (ri, .inl (cy 3, 8, .inr (.inr (.inr (.inr gI)))))] ++ (famI cy 8 40 gR (fun i => if i = kb then va_cpy (it ka) (it kb) i1 j1 m else it i) ++ []))) ⟨hx, hb, hml, hown, hts⟩ (c_X6_sound l D cy x0 r0 t0 q s0 k0 h j0 im st (nI m)) (cwV 1 hts gX6_copy_X6_sound rfl rfl rfl (by decide +kernel) ⟨Nat.le_of_ble_eq_true rfl, Nat.le_of_ble_eq_true rfl⟩) hP hD hS hA hK [0] [1, 2, 3, 4, 5, 6, 7, 8, 9, 10, 11, 12] rfl rfl (by decide) rfl (by decide) (by decide) 0 rfl rfl rfl rfl hl.1 rfl (Nat.le_of_ble_eq_true rfl) dX6_copy_130 ⟨Nat.zero_le _, Nat.zero_le _⟩ (fun r22 u23 H locs hr22 hP hD hS => ?_)
                obtain ⟨rfl, rfl⟩ := hr22
                have hP := hP.sub (ws' := ([(r0, .inr (4, [.ref rl, .ref rz, .ref ri])), (rl, .inl (cy 0, 8, .inl fl)), (rz, .inl (cy 0, 8, .inl fz)), (ri, .inl (cy 3, 8, .inr (.inr (.inr (.inr gI))))), (x0, .inr (6, [.ref r0, .ref t0, .ref q, .ref s0, .ref k0, .ref h, .ref j0, .ref im, .int (nI 0)]))] ++ (famI cy 8 40 gR (fun i => if i = kb then va_cpy (it ka) (it kb) i1 j1 m else it i) ++ []))) [0, 1, 2, 3, 12, 4, 5, 6, 7, 8, 9, 10, 11] rfl
                have hD := hD.sub (ws' := ([(r0, .inr (4, [.ref rl, .ref rz, .ref ri])), (rl, .inl (cy 0, 8, .inl fl)), (rz, .inl (cy 0, 8, .inl fz)), (ri, .inl (cy 3, 8, .inr (.inr (.inr (.inr gI))))), (x0, .inr (6, [.ref r0, .ref t0, .ref q, .ref s0, .ref k0, .ref h, .ref j0, .ref im, .int (nI 0)]))] ++ (famI cy 8 40 gR (fun i => if i = kb then va_cpy (it ka) (it kb) i1 j1 m else it i) ++ []))) [0, 1, 2, 3, 12, 4, 5, 6, 7, 8, 9, 10, 11] (by decide) rfl
                have hP9 := hP.sub (ws' := ([(x0, .inr (6, [.ref r0, .ref t0, .ref q, .ref s0, .ref k0, .ref h, .ref j0, .ref im, .int (nI 0)])), (r0, .inr (4, [.ref rl, .ref rz, .ref ri])), (rl, .inl (cy 0, 8, .inl fl)), (rz, .inl (cy 0, 8, .inl fz)), (ri, .inl (cy 3, 8, .inr (.inr (.inr (.inr gI)))))] ++ (famI cy 8 40 gR (fun i => if i = kb then va_cpy (it ka) (it kb) i1 j1 m else it i) ++ []))) [4, 0, 1, 2, 3, 5, 6, 7, 8, 9, 10, 11, 12] rfl
                have hD9 := hD.sub (ws' := ([(x0, .inr (6, [.ref r0, .ref t0, .ref q, .ref s0, .ref k0, .ref h, .ref j0, .ref im, .int (nI 0)])), (r0, .inr (4, [.ref rl, .ref rz, .ref ri])), (rl, .inl (cy 0, 8, .inl fl)), (rz, .inl (cy 0, 8, .inl fz)), (ri, .inl (cy 3, 8, .inr (.inr (.inr (.inr gI)))))] ++ (famI cy 8 40 gR (fun i => if i = kb then va_cpy (it ka) (it kb) i1 j1 m else it i) ++ []))) [4, 0, 1, 2, 3, 5, 6, 7, 8, 9, 10, 11, 12] (by decide) rfl
                exact q_wiret (v := nI m) hx hb hr hlocks dX6_copy_133 hP9 hD9 hS (⟨_, _, _, _, _, _, _, by simp only [oCopy, q_cl (by omega : ka < 2147483648), q_cl (by omega : kb < 2147483648), q_cl (by omega : i1 < 2147483648), q_cl (by omega : j1 < 2147483648), q_cl (by omega : m < 2147483648), if_pos b2, if_pos b4, if_neg b6, if_neg b10, if_pos c15, if_pos b17, if_pos b19], rwI_copy hrwI (by omega) (by omega) (by omega) (by omega), rfl⟩)
              · replace b19 := fun q => b19 ((rwB_i).mpr q)
                refine lv_if_ne (tgt := 113) hx hb dX6_copy_104 (by decide) (fun c9 => absurd (by decide) c9) (fun _ => ?_)
                refine lv_aload_n hx hb dX6_copy_107 rfl (lv_at hl 0 rfl) ?_
                refine lv_iconst (v := nI 2) hx hb dX6_copy_108 (by decide) ?_
                refine q_wiV (As := [.int (nI 2)]) (rest := []) (wr := ([(r0, .inr (4, [.ref rl, .ref rz, .ref ri])), (rl, .inl (cy 0, 8, .inl fl)), (rz, .inl (cy 0, 8, .inl fz)), (ri, .inl (cy 3, 8, .inr (.inr (.inr (.inr gI)))))] ++ (famI cy 8 40 gR it ++ []))) ⟨hx, hb, hml, hown, hts⟩ (c_X6_found l D cy x0 r0 t0 q s0 k0 h j0 im st (nI 2)) (cwV 1 hts gX6_copy_X6_found rfl rfl rfl (by decide +kernel) ⟨Nat.le_of_ble_eq_true rfl, Nat.le_of_ble_eq_true rfl⟩) hP hD hS hA hK [0] [1, 2, 3, 4, 5, 6, 7, 8, 9, 10, 11, 12] rfl rfl (by decide) rfl (by decide) (by decide) 0 rfl rfl rfl rfl hl.1 rfl (Nat.le_of_ble_eq_true rfl) dX6_copy_109 ⟨Nat.zero_le _, Nat.zero_le _⟩ (fun r24 u25 H locs hr24 hP hD hS => ?_)
                obtain ⟨rfl, rfl⟩ := hr24
                have hP := hP.sub (ws' := ([(r0, .inr (4, [.ref rl, .ref rz, .ref ri])), (rl, .inl (cy 0, 8, .inl fl)), (rz, .inl (cy 0, 8, .inl fz)), (ri, .inl (cy 3, 8, .inr (.inr (.inr (.inr gI))))), (x0, .inr (6, [.ref r0, .ref t0, .ref q, .ref s0, .ref k0, .ref h, .ref j0, .ref im, .int (nI 2)]))] ++ (famI cy 8 40 gR it ++ []))) [0, 1, 2, 3, 12, 4, 5, 6, 7, 8, 9, 10, 11] rfl
                have hD := hD.sub (ws' := ([(r0, .inr (4, [.ref rl, .ref rz, .ref ri])), (rl, .inl (cy 0, 8, .inl fl)), (rz, .inl (cy 0, 8, .inl fz)), (ri, .inl (cy 3, 8, .inr (.inr (.inr (.inr gI))))), (x0, .inr (6, [.ref r0, .ref t0, .ref q, .ref s0, .ref k0, .ref h, .ref j0, .ref im, .int (nI 2)]))] ++ (famI cy 8 40 gR it ++ []))) [0, 1, 2, 3, 12, 4, 5, 6, 7, 8, 9, 10, 11] (by decide) rfl
                refine q_top (y := (-1000012)) (by decide) ?_
                have hP9 := hP.sub (ws' := ([(x0, .inr (6, [.ref r0, .ref t0, .ref q, .ref s0, .ref k0, .ref h, .ref j0, .ref im, .int (nI 2)])), (r0, .inr (4, [.ref rl, .ref rz, .ref ri])), (rl, .inl (cy 0, 8, .inl fl)), (rz, .inl (cy 0, 8, .inl fz)), (ri, .inl (cy 3, 8, .inr (.inr (.inr (.inr gI)))))] ++ (famI cy 8 40 gR it ++ []))) [4, 0, 1, 2, 3, 5, 6, 7, 8, 9, 10, 11, 12] rfl
                have hD9 := hD.sub (ws' := ([(x0, .inr (6, [.ref r0, .ref t0, .ref q, .ref s0, .ref k0, .ref h, .ref j0, .ref im, .int (nI 2)])), (r0, .inr (4, [.ref rl, .ref rz, .ref ri])), (rl, .inl (cy 0, 8, .inl fl)), (rz, .inl (cy 0, 8, .inl fz)), (ri, .inl (cy 3, 8, .inr (.inr (.inr (.inr gI)))))] ++ (famI cy 8 40 gR it ++ []))) [4, 0, 1, 2, 3, 5, 6, 7, 8, 9, 10, 11, 12] (by decide) rfl
                exact q_wiret (v := (-1000012)) hx hb hr hlocks dX6_copy_112 hP9 hD9 hS (⟨_, _, _, _, _, _, _, by simp only [oCopy, q_cl (by omega : ka < 2147483648), q_cl (by omega : kb < 2147483648), if_pos b2, if_pos b4, if_neg b6, if_neg b10, if_pos c15, if_pos b17, if_neg b19], hrwI, rfl⟩)
            · replace b17 := fun q => b17 ((rwB_i).mpr q)
              refine lv_if_eq (tgt := 107) hx hb dX6_copy_89 (by decide) (fun _ => ?_) (fun c9 => absurd (by decide) c9)
              refine lv_aload_n hx hb dX6_copy_107 rfl (lv_at hl 0 rfl) ?_
              refine lv_iconst (v := nI 2) hx hb dX6_copy_108 (by decide) ?_
              refine q_wiV (As := [.int (nI 2)]) (rest := []) (wr := ([(r0, .inr (4, [.ref rl, .ref rz, .ref ri])), (rl, .inl (cy 0, 8, .inl fl)), (rz, .inl (cy 0, 8, .inl fz)), (ri, .inl (cy 3, 8, .inr (.inr (.inr (.inr gI)))))] ++ (famI cy 8 40 gR it ++ []))) ⟨hx, hb, hml, hown, hts⟩ (c_X6_found l D cy x0 r0 t0 q s0 k0 h j0 im st (nI 2)) (cwV 1 hts gX6_copy_X6_found rfl rfl rfl (by decide +kernel) ⟨Nat.le_of_ble_eq_true rfl, Nat.le_of_ble_eq_true rfl⟩) hP hD hS hA hK [0] [1, 2, 3, 4, 5, 6, 7, 8, 9, 10, 11, 12] rfl rfl (by decide) rfl (by decide) (by decide) 0 rfl rfl rfl rfl hl.1 rfl (Nat.le_of_ble_eq_true rfl) dX6_copy_109 ⟨Nat.zero_le _, Nat.zero_le _⟩ (fun r26 u27 H locs hr26 hP hD hS => ?_)
              obtain ⟨rfl, rfl⟩ := hr26
              have hP := hP.sub (ws' := ([(r0, .inr (4, [.ref rl, .ref rz, .ref ri])), (rl, .inl (cy 0, 8, .inl fl)), (rz, .inl (cy 0, 8, .inl fz)), (ri, .inl (cy 3, 8, .inr (.inr (.inr (.inr gI))))), (x0, .inr (6, [.ref r0, .ref t0, .ref q, .ref s0, .ref k0, .ref h, .ref j0, .ref im, .int (nI 2)]))] ++ (famI cy 8 40 gR it ++ []))) [0, 1, 2, 3, 12, 4, 5, 6, 7, 8, 9, 10, 11] rfl
              have hD := hD.sub (ws' := ([(r0, .inr (4, [.ref rl, .ref rz, .ref ri])), (rl, .inl (cy 0, 8, .inl fl)), (rz, .inl (cy 0, 8, .inl fz)), (ri, .inl (cy 3, 8, .inr (.inr (.inr (.inr gI))))), (x0, .inr (6, [.ref r0, .ref t0, .ref q, .ref s0, .ref k0, .ref h, .ref j0, .ref im, .int (nI 2)]))] ++ (famI cy 8 40 gR it ++ []))) [0, 1, 2, 3, 12, 4, 5, 6, 7, 8, 9, 10, 11] (by decide) rfl
              refine q_top (y := (-1000012)) (by decide) ?_
              have hP9 := hP.sub (ws' := ([(x0, .inr (6, [.ref r0, .ref t0, .ref q, .ref s0, .ref k0, .ref h, .ref j0, .ref im, .int (nI 2)])), (r0, .inr (4, [.ref rl, .ref rz, .ref ri])), (rl, .inl (cy 0, 8, .inl fl)), (rz, .inl (cy 0, 8, .inl fz)), (ri, .inl (cy 3, 8, .inr (.inr (.inr (.inr gI)))))] ++ (famI cy 8 40 gR it ++ []))) [4, 0, 1, 2, 3, 5, 6, 7, 8, 9, 10, 11, 12] rfl
              have hD9 := hD.sub (ws' := ([(x0, .inr (6, [.ref r0, .ref t0, .ref q, .ref s0, .ref k0, .ref h, .ref j0, .ref im, .int (nI 2)])), (r0, .inr (4, [.ref rl, .ref rz, .ref ri])), (rl, .inl (cy 0, 8, .inl fl)), (rz, .inl (cy 0, 8, .inl fz)), (ri, .inl (cy 3, 8, .inr (.inr (.inr (.inr gI)))))] ++ (famI cy 8 40 gR it ++ []))) [4, 0, 1, 2, 3, 5, 6, 7, 8, 9, 10, 11, 12] (by decide) rfl
              exact q_wiret (v := (-1000012)) hx hb hr hlocks dX6_copy_112 hP9 hD9 hS (⟨_, _, _, _, _, _, _, by simp only [oCopy, q_cl (by omega : ka < 2147483648), q_cl (by omega : kb < 2147483648), if_pos b2, if_pos b4, if_neg b6, if_neg b10, if_pos c15, if_neg b17], hrwI, rfl⟩)
          · replace c15 := fun q => c15 ((lnC_e hla hlb).mpr q)
            refine lv_aload_n hx hb dX6_copy_72 rfl (lv_at hl 0 rfl) ?_
            refine lv_iconst (v := nI 5) hx hb dX6_copy_73 (by decide) ?_
            refine q_wiV (As := [.int (nI 5)]) (rest := []) (wr := ([(r0, .inr (4, [.ref rl, .ref rz, .ref ri])), (rl, .inl (cy 0, 8, .inl fl)), (rz, .inl (cy 0, 8, .inl fz)), (ri, .inl (cy 3, 8, .inr (.inr (.inr (.inr gI)))))] ++ (famI cy 8 40 gR it ++ []))) ⟨hx, hb, hml, hown, hts⟩ (c_X6_found l D cy x0 r0 t0 q s0 k0 h j0 im st (nI 5)) (cwV 1 hts gX6_copy_X6_found rfl rfl rfl (by decide +kernel) ⟨Nat.le_of_ble_eq_true rfl, Nat.le_of_ble_eq_true rfl⟩) hP hD hS hA hK [0] [1, 2, 3, 4, 5, 6, 7, 8, 9, 10, 11, 12] rfl rfl (by decide) rfl (by decide) (by decide) 0 rfl rfl rfl rfl hl.1 rfl (Nat.le_of_ble_eq_true rfl) dX6_copy_74 ⟨Nat.zero_le _, Nat.zero_le _⟩ (fun r28 u29 H locs hr28 hP hD hS => ?_)
            obtain ⟨rfl, rfl⟩ := hr28
            have hP := hP.sub (ws' := ([(r0, .inr (4, [.ref rl, .ref rz, .ref ri])), (rl, .inl (cy 0, 8, .inl fl)), (rz, .inl (cy 0, 8, .inl fz)), (ri, .inl (cy 3, 8, .inr (.inr (.inr (.inr gI))))), (x0, .inr (6, [.ref r0, .ref t0, .ref q, .ref s0, .ref k0, .ref h, .ref j0, .ref im, .int (nI 5)]))] ++ (famI cy 8 40 gR it ++ []))) [0, 1, 2, 3, 12, 4, 5, 6, 7, 8, 9, 10, 11] rfl
            have hD := hD.sub (ws' := ([(r0, .inr (4, [.ref rl, .ref rz, .ref ri])), (rl, .inl (cy 0, 8, .inl fl)), (rz, .inl (cy 0, 8, .inl fz)), (ri, .inl (cy 3, 8, .inr (.inr (.inr (.inr gI))))), (x0, .inr (6, [.ref r0, .ref t0, .ref q, .ref s0, .ref k0, .ref h, .ref j0, .ref im, .int (nI 5)]))] ++ (famI cy 8 40 gR it ++ []))) [0, 1, 2, 3, 12, 4, 5, 6, 7, 8, 9, 10, 11] (by decide) rfl
            refine q_top (y := (-1000015)) (by decide) ?_
            have hP9 := hP.sub (ws' := ([(x0, .inr (6, [.ref r0, .ref t0, .ref q, .ref s0, .ref k0, .ref h, .ref j0, .ref im, .int (nI 5)])), (r0, .inr (4, [.ref rl, .ref rz, .ref ri])), (rl, .inl (cy 0, 8, .inl fl)), (rz, .inl (cy 0, 8, .inl fz)), (ri, .inl (cy 3, 8, .inr (.inr (.inr (.inr gI)))))] ++ (famI cy 8 40 gR it ++ []))) [4, 0, 1, 2, 3, 5, 6, 7, 8, 9, 10, 11, 12] rfl
            have hD9 := hD.sub (ws' := ([(x0, .inr (6, [.ref r0, .ref t0, .ref q, .ref s0, .ref k0, .ref h, .ref j0, .ref im, .int (nI 5)])), (r0, .inr (4, [.ref rl, .ref rz, .ref ri])), (rl, .inl (cy 0, 8, .inl fl)), (rz, .inl (cy 0, 8, .inl fz)), (ri, .inl (cy 3, 8, .inr (.inr (.inr (.inr gI)))))] ++ (famI cy 8 40 gR it ++ []))) [4, 0, 1, 2, 3, 5, 6, 7, 8, 9, 10, 11, 12] (by decide) rfl
            exact q_wiret (v := (-1000015)) hx hb hr hlocks dX6_copy_77 hP9 hD9 hS (⟨_, _, _, _, _, _, _, by simp only [oCopy, q_cl (by omega : ka < 2147483648), q_cl (by omega : kb < 2147483648), if_pos b2, if_pos b4, if_neg b6, if_neg b10, if_neg c15], hrwI, rfl⟩)
    · replace b4 := fun q => b4 ((isR_i y).mpr q)
      refine lv_if_ne (tgt := 25) hx hb dX6_copy_19 (by decide) (fun c9 => absurd (by decide) c9) (fun _ => ?_)
      refine lv_ldc (v := (-1000001)) hx hb hown (hts _ mX6_copy_2) dX6_copy_22 ?_
      have hP9 := hP
      have hD9 := hD
      exact q_wiret (v := (-1000001)) hx hb hr hlocks dX6_copy_24 hP9 hD9 hS (⟨_, _, _, _, _, _, _, by simp only [oCopy, if_pos b2, if_neg b4], hrwI, rfl⟩)
  · replace b2 := fun q => b2 ((isR_i x).mpr q)
    refine lv_if_eq (tgt := 22) hx hb dX6_copy_8 (by decide) (fun _ => ?_) (fun c9 => absurd (by decide) c9)
    refine lv_ldc (v := (-1000001)) hx hb hown (hts _ mX6_copy_2) dX6_copy_22 ?_
    have hP9 := hP
    have hD9 := hD
    exact q_wiret (v := (-1000001)) hx hb hr hlocks dX6_copy_24 hP9 hD9 hS (⟨_, _, _, _, _, _, _, by simp only [oCopy, if_neg b2], hrwI, rfl⟩)
theorem nX5_isFullA_0 : ∀ w ∈ wsX50, w ∈ wsX5_isFull := by decide +kernel
theorem mX5_isFullA_1 : Cond.fieldLink RX5 19 "ClueLeave$Tape" "size" "I" ∈ wsX5_isFull := by decide +kernel
set_option maxHeartbeats 4000000 in
set_option maxRecDepth 100000 in
theorem c_X5_isFullA (l : Launch) (D : va_G) (cy : Nat → ClassId) (t0 tb : Nat) (fb : Nat → Int32) (tp : Nat → Nat) (n : Nat) (hn : n ≤ 100) (htp : tpIs n tp fb) (za z y : Int32) : q_Rd l yX5_isFull wsX5_isFull 1 D cy [(t0, .inr (5, [.ref tb, .int (nI n), .int (za), .int (z), .int (y)])), (tb, .inl (cy 0, 100, .inl fb))] [.ref t0] (fun r => r = nI 1 ∧ 100 ≤ n ∨ r = nI 0 ∧ ¬ 100 ≤ n) := by
  refine q_rd_of (cc := cX5_isFull) (maxL := 1) (ret := (some .boolean)) (by decide) rfl (Nat.le_of_ble_eq_true rfl) ?_
  intro pg en s mi args below meth cd hC hP hK ls hl
  obtain ⟨hx, hb, hr, hml, hown, hts, hlocks⟩ := hC
  have hl : lv_has ls 1 [(0, .ref t0)] := hl
  refine lv_aload_n hx hb dX5_isFull_0 rfl (lv_at hl 0 rfl) ?_
  refine va_get (D := D) (ci := 5) (v := .int (nI n)) (C := RX5) (T := TX5) (N := 5) hx hb hts nX5_isFullA_0 hown hK.1 hP 0 rfl rfl 1 (by decide) (hts _ mX5_isFullA_1) (fun _ h9 => h9) rfl dX5_isFull_1 ?_
  refine lv_bipush (v := nI 100) hx hb dX5_isFull_4 (by decide) ?_
  refine q_icmp_lt (tgt := 13) hx hb dX5_isFull_6 (by decide) (by omega) (by decide) (fun c1 => ?_) (fun c1 => ?_)
  · refine lv_iconst (v := nI 0) hx hb dX5_isFull_13 (by decide) ?_
    exact q_zret (v := nI 0) hx hb hr hlocks dX5_isFull_14 (by decide) (Or.inr ⟨rfl, by omega⟩)
  · refine lv_iconst (v := nI 1) hx hb dX5_isFull_9 (by decide) ?_
    refine lv_goto (tgt := 14) hx hb dX5_isFull_10 (by decide) ?_
    exact q_zret (v := nI 1) hx hb hr hlocks dX5_isFull_14 (by decide) (Or.inl ⟨rfl, by omega⟩)
theorem nX5_sizeA_0 : ∀ w ∈ wsX50, w ∈ wsX5_size := by decide +kernel
theorem mX5_sizeA_1 : Cond.fieldLink RX5 19 "ClueLeave$Tape" "size" "I" ∈ wsX5_size := by decide +kernel
set_option maxHeartbeats 4000000 in
set_option maxRecDepth 100000 in
theorem c_X5_sizeA (l : Launch) (D : va_G) (cy : Nat → ClassId) (t0 tb : Nat) (fb : Nat → Int32) (tp : Nat → Nat) (n : Nat) (hn : n ≤ 100) (htp : tpIs n tp fb) (za z y : Int32) : q_Rd l yX5_size wsX5_size 1 D cy [(t0, .inr (5, [.ref tb, .int (nI n), .int (za), .int (z), .int (y)])), (tb, .inl (cy 0, 100, .inl fb))] [.ref t0] (fun r => r = nI n) := by
  refine q_rd_of (cc := cX5_size) (maxL := 1) (ret := (some .int)) (by decide) rfl (Nat.le_of_ble_eq_true rfl) ?_
  intro pg en s mi args below meth cd hC hP hK ls hl
  obtain ⟨hx, hb, hr, hml, hown, hts, hlocks⟩ := hC
  have hl : lv_has ls 1 [(0, .ref t0)] := hl
  refine lv_aload_n hx hb dX5_size_0 rfl (lv_at hl 0 rfl) ?_
  refine va_get (D := D) (ci := 5) (v := .int (nI n)) (C := RX5) (T := TX5) (N := 5) hx hb hts nX5_sizeA_0 hown hK.1 hP 0 rfl rfl 1 (by decide) (hts _ mX5_sizeA_1) (fun _ h9 => h9) rfl dX5_size_1 ?_
  exact q_iret (v := nI n) hx hb hr hlocks dX5_size_4 (rfl)
theorem nX5_latestFaultA_0 : ∀ w ∈ wsX50, w ∈ wsX5_latestFault := by decide +kernel
theorem mX5_latestFaultA_1 : Cond.fieldLink RX5 22 "ClueLeave$Tape" "fault" "I" ∈ wsX5_latestFault := by decide +kernel
set_option maxHeartbeats 4000000 in
set_option maxRecDepth 100000 in
theorem c_X5_latestFaultA (l : Launch) (D : va_G) (cy : Nat → ClassId) (t0 tb : Nat) (fb : Nat → Int32) (tp : Nat → Nat) (n : Nat) (hn : n ≤ 100) (htp : tpIs n tp fb) (za z y : Int32) : q_Rd l yX5_latestFault wsX5_latestFault 1 D cy [(t0, .inr (5, [.ref tb, .int (nI n), .int (za), .int (z), .int (y)])), (tb, .inl (cy 0, 100, .inl fb))] [.ref t0] (fun r => r = y) := by
  refine q_rd_of (cc := cX5_latestFault) (maxL := 1) (ret := (some .int)) (by decide) rfl (Nat.le_of_ble_eq_true rfl) ?_
  intro pg en s mi args below meth cd hC hP hK ls hl
  obtain ⟨hx, hb, hr, hml, hown, hts, hlocks⟩ := hC
  have hl : lv_has ls 1 [(0, .ref t0)] := hl
  refine lv_aload_n hx hb dX5_latestFault_0 rfl (lv_at hl 0 rfl) ?_
  refine va_get (D := D) (ci := 5) (v := .int (y)) (C := RX5) (T := TX5) (N := 5) hx hb hts nX5_latestFaultA_0 hown hK.1 hP 0 rfl rfl 4 (by decide) (hts _ mX5_latestFaultA_1) (fun _ h9 => h9) rfl dX5_latestFault_1 ?_
  exact q_iret (v := y) hx hb hr hlocks dX5_latestFault_4 (rfl)
theorem nX5_addA_0 : ∀ w ∈ wsX50, w ∈ wsX5_add := by decide +kernel
theorem mX5_addA_1 : Cond.fieldLink RX5 11 "ClueLeave$Tape" "bytes" "[I" ∈ wsX5_add := by decide +kernel
theorem mX5_addA_2 : Cond.fieldLink RX5 19 "ClueLeave$Tape" "size" "I" ∈ wsX5_add := by decide +kernel
set_option maxHeartbeats 4000000 in
set_option maxRecDepth 100000 in
theorem c_X5_addA (l : Launch) (D : va_G) (cy : Nat → ClassId) (t0 tb : Nat) (fb : Nat → Int32) (tp : Nat → Nat) (n : Nat) (hn : n ≤ 100) (htp : tpIs n tp fb) (za z y : Int32) (hn2 : n < 100) (v : Int32) : q_Wi l yX5_add wsX5_add 1 D cy [(t0, .inr (5, [.ref tb, .int (nI n), .int (za), .int (z), .int (y)])), (tb, .inl (cy 0, 100, .inl fb))] [.ref t0, .int (v)] (fun r u => r = nI (n + 1) ∧ u = [(t0, .inr (5, [.ref tb, .int (nI (n + 1)), .int (za), .int (z), .int (y)])), (tb, .inl (cy 0, 100, .inl (upd fb n v)))]) := by
  refine q_wi_of (cc := cX5_add) (maxL := 2) (ret := (some .int)) (by decide) rfl (Nat.le_of_ble_eq_true rfl) ?_
  intro pg en s mi args below meth cd A hC hA hK H locs hP hD hS ls hl
  obtain ⟨hx, hb, hr, hml, hown, hts, hlocks⟩ := hC
  have hl : lv_has ls 2 [(0, .ref t0), (1, .int (v))] := hl
  refine lv_aload_n hx hb dX5_add_0 rfl (lv_at hl 0 rfl) ?_
  refine va_get (D := D) (ci := 5) (v := .ref tb) (C := RX5) (T := TX5) (N := 5) hx hb hts nX5_addA_0 hown hK.1 hP 0 rfl rfl 0 (by decide) (hts _ mX5_addA_1) (fun _ h9 => h9) rfl dX5_add_1 ?_
  refine lv_aload_n hx hb dX5_add_4 rfl (lv_at hl 0 rfl) ?_
  refine va_get (D := D) (ci := 5) (v := .int (nI n)) (C := RX5) (T := TX5) (N := 5) hx hb hts nX5_addA_0 hown hK.1 hP 0 rfl rfl 1 (by decide) (hts _ mX5_addA_2) (fun _ h9 => h9) rfl dX5_add_5 ?_
  refine lv_iload_n hx hb dX5_add_8 rfl (lv_at hl 1 rfl) ?_
  refine q_iast (j := n) hx hb hK hP hD hS 1 rfl (by omega) (by decide) dX5_add_9 (fun H locs hP hD hS => ?_)
  have hP : va_P D vwCl [(t0, .inr (5, [.ref tb, .int (nI n), .int (za), .int (z), .int (y)])), (tb, .inl (cy 0, 100, .inl (upd fb n v)))] H := hP
  have hD : va_D A [(t0, .inr (5, [.ref tb, .int (nI n), .int (za), .int (z), .int (y)])), (tb, .inl (cy 0, 100, .inl (upd fb n v)))] := hD
  refine lv_aload_n hx hb dX5_add_10 rfl (lv_at hl 0 rfl) ?_
  refine lv_dup hx hb dX5_add_11 rfl ?_
  refine va_get (D := D) (ci := 5) (v := .int (nI n)) (C := RX5) (T := TX5) (N := 5) hx hb hts nX5_addA_0 hown hK.1 hP 0 rfl rfl 1 (by decide) (hts _ mX5_addA_2) (fun _ h9 => h9) rfl dX5_add_12 ?_
  refine lv_iconst (v := nI 1) hx hb dX5_add_15 (by decide) ?_
  refine lv_iadd hx hb dX5_add_16 ?_
  refine q_top (y := nI (n + 1)) (nI_add _ _) ?_
  refine va_put (D := D) (ci := 5) (v := .int (nI (n + 1))) (ty := .int) (C := RX5) (T := TX5) (N := 5) hx hb hts nX5_addA_0 tyX5 tyX5_ok nmX5 hown hK.1 hP hD hS 0 rfl rfl 1 (by decide) (hts _ mX5_addA_2) (fun _ h9 => h9) rfl (by decide +kernel) rfl rfl (Nat.le_of_ble_eq_true rfl) dX5_add_17 (fun H locs hP hD hS => ?_)
  have hP : va_P D vwCl [(t0, .inr (5, [.ref tb, .int (nI (n + 1)), .int (za), .int (z), .int (y)])), (tb, .inl (cy 0, 100, .inl (upd fb n v)))] H := hP
  have hD : va_D A [(t0, .inr (5, [.ref tb, .int (nI (n + 1)), .int (za), .int (z), .int (y)])), (tb, .inl (cy 0, 100, .inl (upd fb n v)))] := hD
  refine lv_aload_n hx hb dX5_add_20 rfl (lv_at hl 0 rfl) ?_
  refine va_get (D := D) (ci := 5) (v := .int (nI (n + 1))) (C := RX5) (T := TX5) (N := 5) hx hb hts nX5_addA_0 hown hK.1 hP 0 rfl rfl 1 (by decide) (hts _ mX5_addA_2) (fun _ h9 => h9) rfl dX5_add_21 ?_
  have hP9 := hP
  have hD9 := hD
  exact q_wiret (v := nI (n + 1)) hx hb hr hlocks dX5_add_24 hP9 hD9 hS (⟨rfl, rfl⟩)
theorem nX6_feed_0 : ∀ w ∈ wsX60, w ∈ wsX6_feed := by decide +kernel
theorem mX6_feed_1 : Cond.fieldLink RX6 19 "ClueLeave" "tape" "LClueLeave$Tape;" ∈ wsX6_feed := by decide +kernel
theorem mX6_feed_2 : Cond.constant RX6 102 (-1000003) ∈ wsX6_feed := by decide +kernel
theorem mX6_feed_3 : Cond.constant RX6 66 (-1000001) ∈ wsX6_feed := by decide +kernel
set_option maxHeartbeats 4000000 in
set_option maxRecDepth 100000 in
theorem c_X6_feed (l : Launch) (D : va_G) (cy : Nat → ClassId) (x0 r0 q s0 k0 h j0 im : Nat) (st : Int32) (t0 tb : Nat) (fb : Nat → Int32) (tp : Nat → Nat) (n : Nat) (hn : n ≤ 100) (htp : tpIs n tp fb) (za z y : Int32) (x : Int32) : q_Wi l yX6_feed wsX6_feed 2 D cy [(x0, .inr (6, [.ref r0, .ref t0, .ref q, .ref s0, .ref k0, .ref h, .ref j0, .ref im, .int (st)])), (t0, .inr (5, [.ref tb, .int (nI n), .int (za), .int (z), .int (y)])), (tb, .inl (cy 0, 100, .inl fb))] [.ref x0, .int (x)] (fun r u => ∃ (n2 : Nat) (tp2 : Nat → Nat) (fb2 : Nat → Int32), oFeed n tp x = (r, n2, tp2) ∧ n2 ≤ 100 ∧ tpIs n2 tp2 fb2 ∧ u = [(x0, .inr (6, [.ref r0, .ref t0, .ref q, .ref s0, .ref k0, .ref h, .ref j0, .ref im, .int (st)])), (t0, .inr (5, [.ref tb, .int (nI n2), .int (za), .int (z), .int (y)])), (tb, .inl (cy 0, 100, .inl fb2))]) := by
  refine q_wi_of (cc := cX6_feed) (maxL := 2) (ret := (some .int)) (by decide) rfl (Nat.le_of_ble_eq_true rfl) ?_
  intro pg en s mi args below meth cd A hC hA hK H locs hP hD hS ls hl
  obtain ⟨hx, hb, hr, hml, hown, hts, hlocks⟩ := hC
  have hl : lv_has ls 2 [(0, .ref x0), (1, .int (x))] := hl
  refine lv_iload_n hx hb dX6_feed_0 rfl (lv_at hl 1 rfl) ?_
  refine lv_iconst (v := nI 0) hx hb dX6_feed_1 (by decide) ?_
  refine lv_sipush (v := nI 255) hx hb dX6_feed_2 (by decide) ?_
  refine q_rS (As := [.int (x), .int (nI 0), .int (nI 255)]) (rest := []) ⟨hx, hb, hml, hown, hts⟩ (c_X6_isWithin l D cy x (nI 0) (nI 255)) (va_cwS 3 hts gX6_feed_X6_isWithin rfl rfl rfl (by decide +kernel) ⟨Nat.le_of_ble_eq_true rfl, Nat.le_of_ble_eq_true rfl⟩) hP hK [] rfl rfl hl.1 rfl (Nat.le_of_ble_eq_true rfl) dX6_feed_5 ⟨Nat.zero_le _, Nat.zero_le _⟩ (fun r1 hr1 => ?_)
  rcases hr1 with ⟨rfl, b2⟩ | ⟨rfl, b2⟩
  · have _ := b2
    refine lv_if_ne (tgt := 14) hx hb dX6_feed_8 (by decide) (fun _ => ?_) (fun c9 => absurd c9 (by decide))
    obtain ⟨k, -, hk, rfl⟩ := q_rng b2 (by decide) (by decide)
    refine lv_aload_n hx hb dX6_feed_14 rfl (lv_at hl 0 rfl) ?_
    refine va_get (D := D) (ci := 6) (v := .ref t0) (C := RX6) (T := TX6) (N := 9) hx hb hts nX6_feed_0 hown hK.1 hP 0 rfl rfl 1 (by decide) (hts _ mX6_feed_1) (fun _ h9 => h9) rfl dX6_feed_15 ?_
    refine q_rV (As := []) (rest := []) ⟨hx, hb, hml, hown, hts⟩ (c_X5_isFullA l D cy t0 tb fb tp n hn htp za z y) (cwV 0 hts gX6_feed_X5_isFull rfl rfl rfl (by decide +kernel) ⟨Nat.le_of_ble_eq_true rfl, Nat.le_of_ble_eq_true rfl⟩) hP hK [1, 2] rfl 1 rfl rfl rfl rfl hl.1 rfl (Nat.le_of_ble_eq_true rfl) dX6_feed_18 ⟨Nat.zero_le _, Nat.zero_le _⟩ (fun r3 hr3 => ?_)
    rcases hr3 with ⟨rfl, b4⟩ | ⟨rfl, b4⟩
    · have _ := b4
      refine lv_if_eq (tgt := 27) hx hb dX6_feed_21 (by decide) (fun c9 => absurd c9 (by decide)) (fun _ => ?_)
      refine lv_ldc (v := (-1000003)) hx hb hown (hts _ mX6_feed_2) dX6_feed_24 ?_
      have hP9 := hP
      have hD9 := hD
      exact q_wiret (v := (-1000003)) hx hb hr hlocks dX6_feed_26 hP9 hD9 hS (⟨_, _, _, by simp only [oFeed, if_pos b2, if_pos b4], hn, htp, rfl⟩)
    · have _ := b4
      refine lv_if_eq (tgt := 27) hx hb dX6_feed_21 (by decide) (fun _ => ?_) (fun c9 => absurd (by decide) c9)
      refine lv_aload_n hx hb dX6_feed_27 rfl (lv_at hl 0 rfl) ?_
      refine va_get (D := D) (ci := 6) (v := .ref t0) (C := RX6) (T := TX6) (N := 9) hx hb hts nX6_feed_0 hown hK.1 hP 0 rfl rfl 1 (by decide) (hts _ mX6_feed_1) (fun _ h9 => h9) rfl dX6_feed_28 ?_
      refine lv_iload_n hx hb dX6_feed_31 rfl (lv_at hl 1 rfl) ?_
      refine q_wiV (As := [.int (nI k)]) (rest := []) (wr := [(x0, .inr (6, [.ref r0, .ref t0, .ref q, .ref s0, .ref k0, .ref h, .ref j0, .ref im, .int (st)]))]) ⟨hx, hb, hml, hown, hts⟩ (c_X5_addA l D cy t0 tb fb tp n hn htp za z y (by omega) (nI k)) (cwV 1 hts gX6_feed_X5_add rfl rfl rfl (by decide +kernel) ⟨Nat.le_of_ble_eq_true rfl, Nat.le_of_ble_eq_true rfl⟩) hP hD hS hA hK [1, 2] [0] rfl rfl (by decide) rfl (by decide) (by decide) 1 rfl rfl rfl rfl hl.1 rfl (Nat.le_of_ble_eq_true rfl) dX6_feed_32 ⟨Nat.zero_le _, Nat.zero_le _⟩ (fun r5 u6 H locs hr5 hP hD hS => ?_)
      obtain ⟨rfl, rfl⟩ := hr5
      have hP : va_P D vwCl [(x0, .inr (6, [.ref r0, .ref t0, .ref q, .ref s0, .ref k0, .ref h, .ref j0, .ref im, .int (st)])), (t0, .inr (5, [.ref tb, .int (nI (n + 1)), .int (za), .int (z), .int (y)])), (tb, .inl (cy 0, 100, .inl (upd fb n (nI k))))] H := hP
      have hD : va_D A [(x0, .inr (6, [.ref r0, .ref t0, .ref q, .ref s0, .ref k0, .ref h, .ref j0, .ref im, .int (st)])), (t0, .inr (5, [.ref tb, .int (nI (n + 1)), .int (za), .int (z), .int (y)])), (tb, .inl (cy 0, 100, .inl (upd fb n (nI k))))] := hD
      have hP9 := hP
      have hD9 := hD
      exact q_wiret (v := nI (n + 1)) hx hb hr hlocks dX6_feed_35 hP9 hD9 hS (⟨_, _, _, by simp only [oFeed, q_cl (by omega : k < 2147483648), if_pos b2, if_neg b4], by omega, tpIs_f htp hk, rfl⟩)
  · have _ := b2
    refine lv_if_ne (tgt := 14) hx hb dX6_feed_8 (by decide) (fun c9 => absurd (by decide) c9) (fun _ => ?_)
    refine lv_ldc (v := (-1000001)) hx hb hown (hts _ mX6_feed_3) dX6_feed_11 ?_
    have hP9 := hP
    have hD9 := hD
    exact q_wiret (v := (-1000001)) hx hb hr hlocks dX6_feed_13 hP9 hD9 hS (⟨_, _, _, by simp only [oFeed, if_neg b2], hn, htp, rfl⟩)
theorem nX6_fault_0 : ∀ w ∈ wsX60, w ∈ wsX6_fault := by decide +kernel
theorem mX6_fault_1 : Cond.fieldLink RX6 19 "ClueLeave" "tape" "LClueLeave$Tape;" ∈ wsX6_fault := by decide +kernel
set_option maxHeartbeats 4000000 in
set_option maxRecDepth 100000 in
theorem c_X6_fault (l : Launch) (D : va_G) (cy : Nat → ClassId) (x0 r0 q s0 k0 h j0 im : Nat) (st : Int32) (t0 tb : Nat) (fb : Nat → Int32) (tp : Nat → Nat) (n : Nat) (hn : n ≤ 100) (htp : tpIs n tp fb) (za z y : Int32) : q_Rd l yX6_fault wsX6_fault 2 D cy [(x0, .inr (6, [.ref r0, .ref t0, .ref q, .ref s0, .ref k0, .ref h, .ref j0, .ref im, .int (st)])), (t0, .inr (5, [.ref tb, .int (nI n), .int (za), .int (z), .int (y)])), (tb, .inl (cy 0, 100, .inl fb))] [.ref x0] (fun r => r = y) := by
  refine q_rd_of (cc := cX6_fault) (maxL := 1) (ret := (some .int)) (by decide) rfl (Nat.le_of_ble_eq_true rfl) ?_
  intro pg en s mi args below meth cd hC hP hK ls hl
  obtain ⟨hx, hb, hr, hml, hown, hts, hlocks⟩ := hC
  have hl : lv_has ls 1 [(0, .ref x0)] := hl
  refine lv_aload_n hx hb dX6_fault_0 rfl (lv_at hl 0 rfl) ?_
  refine va_get (D := D) (ci := 6) (v := .ref t0) (C := RX6) (T := TX6) (N := 9) hx hb hts nX6_fault_0 hown hK.1 hP 0 rfl rfl 1 (by decide) (hts _ mX6_fault_1) (fun _ h9 => h9) rfl dX6_fault_1 ?_
  refine q_rV (As := []) (rest := []) ⟨hx, hb, hml, hown, hts⟩ (c_X5_latestFaultA l D cy t0 tb fb tp n hn htp za z y) (cwV 0 hts gX6_fault_X5_latestFault rfl rfl rfl (by decide +kernel) ⟨Nat.le_of_ble_eq_true rfl, Nat.le_of_ble_eq_true rfl⟩) hP hK [1, 2] rfl 1 rfl rfl rfl rfl hl.1 rfl (Nat.le_of_ble_eq_true rfl) dX6_fault_4 ⟨Nat.zero_le _, Nat.zero_le _⟩ (fun r1 hr1 => ?_)
  rw [hr1]
  exact q_iret (v := y) hx hb hr hlocks dX6_fault_7 (rfl)
theorem nX6_status_0 : ∀ w ∈ wsX60, w ∈ wsX6_status := by decide +kernel
theorem mX6_status_1 : Cond.fieldLink RX6 257 "ClueLeave" "finding" "I" ∈ wsX6_status := by decide +kernel
set_option maxHeartbeats 4000000 in
set_option maxRecDepth 100000 in
theorem c_X6_status (l : Launch) (D : va_G) (cy : Nat → ClassId) (x0 r0 t0 q s0 k0 h j0 im : Nat) (st : Int32) : q_Rd l yX6_status wsX6_status 1 D cy [(x0, .inr (6, [.ref r0, .ref t0, .ref q, .ref s0, .ref k0, .ref h, .ref j0, .ref im, .int (st)]))] [.ref x0] (fun r => r = st) := by
  refine q_rd_of (cc := cX6_status) (maxL := 1) (ret := (some .int)) (by decide) rfl (Nat.le_of_ble_eq_true rfl) ?_
  intro pg en s mi args below meth cd hC hP hK ls hl
  obtain ⟨hx, hb, hr, hml, hown, hts, hlocks⟩ := hC
  have hl : lv_has ls 1 [(0, .ref x0)] := hl
  refine lv_aload_n hx hb dX6_status_0 rfl (lv_at hl 0 rfl) ?_
  refine va_get (D := D) (ci := 6) (v := .int (st)) (C := RX6) (T := TX6) (N := 9) hx hb hts nX6_status_0 hown hK.1 hP 0 rfl rfl 8 (by decide) (hts _ mX6_status_1) (fun _ h9 => h9) rfl dX6_status_1 ?_
  exact q_iret (v := st) hx hb hr hlocks dX6_status_4 (rfl)
theorem nX6_trace_0 : ∀ w ∈ wsX60, w ∈ wsX6_trace := by decide +kernel
theorem mX6_trace_1 : Cond.fieldLink RX6 40 "ClueLeave" "asks" "LClueLeave$Asks;" ∈ wsX6_trace := by decide +kernel
set_option maxHeartbeats 4000000 in
set_option maxRecDepth 100000 in
theorem c_X6_trace (l : Launch) (D : va_G) (cy : Nat → ClassId) (x0 r0 t0 q s0 h j0 im : Nat) (st : Int32) (k0 kt : Nat) (tf : Nat → Int32) (tn : Nat) (htn : tn ≤ 16) (x : Int32) : q_Rd l yX6_trace wsX6_trace 2 D cy [(x0, .inr (6, [.ref r0, .ref t0, .ref q, .ref s0, .ref k0, .ref h, .ref j0, .ref im, .int (st)])), (k0, .inr (1, [.ref kt, .int (nI tn)])), (kt, .inl (cy 0, 16, .inl tf))] [.ref x0, .int (x)] (fun r => r = trA tf tn x) := by
  refine q_rd_of (cc := cX6_trace) (maxL := 2) (ret := (some .int)) (by decide) rfl (Nat.le_of_ble_eq_true rfl) ?_
  intro pg en s mi args below meth cd hC hP hK ls hl
  obtain ⟨hx, hb, hr, hml, hown, hts, hlocks⟩ := hC
  have hl : lv_has ls 2 [(0, .ref x0), (1, .int (x))] := hl
  refine lv_aload_n hx hb dX6_trace_0 rfl (lv_at hl 0 rfl) ?_
  refine va_get (D := D) (ci := 6) (v := .ref k0) (C := RX6) (T := TX6) (N := 9) hx hb hts nX6_trace_0 hown hK.1 hP 0 rfl rfl 4 (by decide) (hts _ mX6_trace_1) (fun _ h9 => h9) rfl dX6_trace_1 ?_
  refine lv_iload_n hx hb dX6_trace_4 rfl (lv_at hl 1 rfl) ?_
  refine q_rV (As := [.int (x)]) (rest := []) ⟨hx, hb, hml, hown, hts⟩ (c_X1_traceAt l D cy k0 kt tf tn htn x) (cwV 1 hts gX6_trace_X1_traceAt rfl rfl rfl (by decide +kernel) ⟨Nat.le_of_ble_eq_true rfl, Nat.le_of_ble_eq_true rfl⟩) hP hK [1, 2] rfl 1 rfl rfl rfl rfl hl.1 rfl (Nat.le_of_ble_eq_true rfl) dX6_trace_5 ⟨Nat.zero_le _, Nat.zero_le _⟩ (fun r1 hr1 => ?_)
  obtain rfl := hr1
  exact q_iret (v := trA tf tn x) hx hb hr hlocks dX6_trace_8 (rfl)
theorem nX6_kind_0 : ∀ w ∈ wsX60, w ∈ wsX6_kind := by decide +kernel
theorem mX6_kind_1 : Cond.fieldLink RX6 47 "ClueLeave" "city" "LClueLeave$City;" ∈ wsX6_kind := by decide +kernel
theorem nX6_kind_2 : ∀ w ∈ wsX20, w ∈ wsX6_kind := by decide +kernel
theorem mX6_kind_3 : Cond.fieldLink RX6 216 "ClueLeave$City" "kinds" "[I" ∈ wsX6_kind := by decide +kernel
theorem mX6_kind_4 : Cond.constant RX6 66 (-1000001) ∈ wsX6_kind := by decide +kernel
set_option maxHeartbeats 4000000 in
set_option maxRecDepth 100000 in
theorem c_X6_kind (l : Launch) (D : va_G) (cy : Nat → ClassId) (x0 r0 t0 q s0 k0 j0 im : Nat) (st : Int32) (h kA tA eA oA : Nat) (w : Nat → Nat) (fk ft fe fo : Nat → Int32) (hw : ctIs w fk ft fe fo) (hv : ctOk w) (x : Int32) : q_Rd l yX6_kind wsX6_kind 2 D cy [(x0, .inr (6, [.ref r0, .ref t0, .ref q, .ref s0, .ref k0, .ref h, .ref j0, .ref im, .int (st)])), (h, .inr (2, [.int (nI (w 0)), .int (nI (w 1)), .int (nI (w 2)), .int (nI (w 4)), .int (nI (w 3)), .ref kA, .ref tA, .ref eA, .ref oA])), (kA, .inl (cy 0, 6, .inl fk)), (tA, .inl (cy 0, 6, .inl ft)), (eA, .inl (cy 0, 6, .inl fe)), (oA, .inl (cy 0, 6, .inl fo))] [.ref x0, .int (x)] (fun r => r = oKind w x) := by
  refine q_rd_of (cc := cX6_kind) (maxL := 2) (ret := (some .int)) (by decide) rfl (Nat.le_of_ble_eq_true rfl) ?_
  intro pg en s mi args below meth cd hC hP hK ls hl
  obtain ⟨hx, hb, hr, hml, hown, hts, hlocks⟩ := hC
  have hl : lv_has ls 2 [(0, .ref x0), (1, .int (x))] := hl
  obtain ⟨hv0, hv1, hv2, hv3, hv4, hvc⟩ := id hv
  refine lv_aload_n hx hb dX6_kind_0 rfl (lv_at hl 0 rfl) ?_
  refine va_get (D := D) (ci := 6) (v := .ref h) (C := RX6) (T := TX6) (N := 9) hx hb hts nX6_kind_0 hown hK.1 hP 0 rfl rfl 5 (by decide) (hts _ mX6_kind_1) (fun _ h9 => h9) rfl dX6_kind_1 ?_
  refine lv_iload_n hx hb dX6_kind_4 rfl (lv_at hl 1 rfl) ?_
  refine q_rV (As := [.int (x)]) (rest := []) ⟨hx, hb, hml, hown, hts⟩ (c_X2_has l D cy h kA tA eA oA w fk ft fe fo hw hv x) (cwV 1 hts gX6_kind_X2_has rfl rfl rfl (by decide +kernel) ⟨Nat.le_of_ble_eq_true rfl, Nat.le_of_ble_eq_true rfl⟩) hP hK [1, 2, 3, 4, 5] rfl 1 rfl rfl rfl rfl hl.1 rfl (Nat.le_of_ble_eq_true rfl) dX6_kind_5 ⟨Nat.zero_le _, Nat.zero_le _⟩ (fun r1 hr1 => ?_)
  rcases hr1 with ⟨rfl, b2⟩ | ⟨rfl, b2⟩
  · replace b2 := (inC_i (by omega)).mp b2
    refine lv_if_eq (tgt := 23) hx hb dX6_kind_8 (by decide) (fun c9 => absurd c9 (by decide)) (fun _ => ?_)
    obtain ⟨c, hc, rfl⟩ := (inC_i (by omega)).mpr b2
    obtain ⟨hk1, hk5, ht1, ht2, he2, he4, ho1⟩ := hvc c hc
    refine lv_aload_n hx hb dX6_kind_11 rfl (lv_at hl 0 rfl) ?_
    refine va_get (D := D) (ci := 6) (v := .ref h) (C := RX6) (T := TX6) (N := 9) hx hb hts nX6_kind_0 hown hK.1 hP 0 rfl rfl 5 (by decide) (hts _ mX6_kind_1) (fun _ h9 => h9) rfl dX6_kind_12 ?_
    refine va_get (D := D) (ci := 2) (v := .ref kA) (C := RX2) (T := TX2) (N := 9) hx hb hts nX6_kind_2 hown hK.1 hP 1 rfl rfl 5 (by decide) (hts _ mX6_kind_3) (fun _ h9 => h9) rfl dX6_kind_15 ?_
    refine lv_iload_n hx hb dX6_kind_18 rfl (lv_at hl 1 rfl) ?_
    refine q_iald (j := c) (v := nI (ctK w c)) hx hb hK hP 2 rfl (by omega) (by decide) (ctIs_0 hw (by omega)) dX6_kind_19 ?_
    refine lv_goto (tgt := 25) hx hb dX6_kind_20 (by decide) ?_
    exact q_iret (v := nI (ctK w c)) hx hb hr hlocks dX6_kind_25 ((by simp only [oKind, q_cl (by omega : c < 2147483648), if_pos b2]))
  · replace b2 := fun q => b2 ((inC_i (by omega)).mpr q)
    refine lv_if_eq (tgt := 23) hx hb dX6_kind_8 (by decide) (fun _ => ?_) (fun c9 => absurd (by decide) c9)
    refine lv_ldc (v := (-1000001)) hx hb hown (hts _ mX6_kind_4) dX6_kind_23 ?_
    exact q_iret (v := (-1000001)) hx hb hr hlocks dX6_kind_25 ((by simp only [oKind, if_neg b2]))

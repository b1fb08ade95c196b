/-! ===== the body: its cell, its speed, its keys, what became of it ===== -/
abbrev sol (f : Nat → Int) (al t : Nat) (p : Int) : Prop := p < 0 ∨ kAt f p = 1 ∨ 6 ≤ kAt f p ∨ (kAt f p = 3 ∧ t ≠ al)
def kbf (f q : Nat → Int) (p : Int) : Nat := if f p.toNat = 2 then kb3 q p else 0
def cm (f : Nat → Int) (B : Int → Nat) (p : Int) (x : Int × Nat × Int) : Int × Nat × Int := if 0 ≤ p ∧ p < 96 then (p, x.2.1 ||| B p, if f p.toNat = 4 then 3 else if f p.toNat = 5 then 2 else x.2.2) else (x.1, x.2.1, 3)
def sd (f : Nat → Int) (B : Int → Nat) (al : Nat) (d : Int) (x : Int × Nat × Int) : Int × Nat × Int := if d ≠ 0 ∧ 0 ≤ x.1 % 12 + d ∧ x.1 % 12 + d < 12 ∧ ¬ sol f al x.2.1 (x.1 + d) then cm f B (x.1 + d) x else x
def strK (S : Nat → Int) (k : Int) : Int := if 6 ≤ k ∧ k < 9 then S (k - 6).toNat else 0
def vt (f : Nat → Int) (B : Int → Nat) (al : Nat) (S : Nat → Int) (w v : Int) : Nat → Int × Nat × Int → Int × Int × Nat × Int
  | 0, x => (x.1, if v < 3 then v + 1 else 3, x.2.1, x.2.2)
  | n + 1, x => if sol f al x.2.1 (x.1 + w) then (x.1, if w < 0 then 0 else - strK S (kAt f (x.1 + w)), x.2.1, x.2.2) else if (cm f B (x.1 + w) x).2.2 = 1 then vt f B al S w v n (cm f B (x.1 + w) x) else ((cm f B (x.1 + w) x).1, v, (cm f B (x.1 + w) x).2.1, (cm f B (x.1 + w) x).2.2)
def vab (v : Int) : Nat := if v < 0 then (-v).toNat else v.toNat
/-- the speed as a step begins -/
def sv (f : Nat → Int) (al : Nat) (inp : Int) (c v : Int) (t : Nat) : Int := if 0 ≤ v ∧ sol f al t (c + 12) then (if inp < 3 then 0 else -2) else v
/-- a step -/
def mv (f : Nat → Int) (B : Int → Nat) (al : Nat) (S : Nat → Int) (inp : Int) (c v : Int) (t : Nat) : Int × Int × Nat × Int :=
  if (sd f B al (inp % 3 - 1) (c, t, 1)).2.2 = 1 then vt f B al S (if sv f al inp c v t < 0 then -12 else 12) (sv f al inp c v t) (vab (sv f al inp c v t)) (sd f B al (inp % 3 - 1) (c, t, 1))
  else ((sd f B al (inp % 3 - 1) (c, t, 1)).1, sv f al inp c v t, (sd f B al (inp % 3 - 1) (c, t, 1)).2.1, (sd f B al (inp % 3 - 1) (c, t, 1)).2.2)
theorem kb3_r (q : Nat → Int) (p : Int) : kb3 q p < 8 := by unfold kb3; split; decide; split; decide; split; decide; decide
theorem kbf_r (f q : Nat → Int) (p : Int) : kbf f q p < 8 := by unfold kbf; split; exact kb3_r q p; decide
theorem or8 {a b : Nat} (h1 : a < 8) (h2 : b < 8) : a ||| b < 8 := Nat.or_lt_two_pow (n := 3) h1 h2
theorem e3_1 {x : Int × Nat × Int} (h : x.2.2 = 1) : (x.1, x.2.1, (1 : Int)) = x := by obtain ⟨a, b, c⟩ := x; cases h; rfl
def bX (x : Int × Nat × Int) : Prop := 0 ≤ x.1 ∧ x.1 ≤ 95 ∧ x.2.1 < 8 ∧ 0 ≤ x.2.2 ∧ x.2.2 ≤ 4
theorem cm_r {f : Nat → Int} {B : Int → Nat} (hB : ∀ p, B p < 8) {p : Int} {x : Int × Nat × Int} (h : bX x) : bX (cm f B p x) := by
  obtain ⟨h1, h2, h3, h4, h5⟩ := h
  unfold cm
  split
  · refine ⟨by omega, by omega, or8 h3 (hB p), ?_, ?_⟩ <;> (dsimp only; split; omega; split <;> omega)
  · exact ⟨h1, h2, h3, by dsimp only; omega, by dsimp only; omega⟩
theorem sd_r {f : Nat → Int} {B : Int → Nat} (hB : ∀ p, B p < 8) {al : Nat} {d : Int} {x : Int × Nat × Int} (h : bX x) : bX (sd f B al d x) := by
  unfold sd
  split
  · exact cm_r hB h
  · exact h
theorem kAt_r {f : Nat → Int} (hf : ∀ j, 0 ≤ f j ∧ f j ≤ 8) (z : Int) : 0 ≤ kAt f z ∧ kAt f z ≤ 8 := by
  unfold kAt
  split
  · exact hf _
  · omega
theorem strK_r {S : Nat → Int} (hS : ∀ j, 0 ≤ S j ∧ S j ≤ 4) (k : Int) : 0 ≤ strK S k ∧ strK S k ≤ 4 := by
  unfold strK
  split
  · exact hS _
  · omega

theorem kX0_isSolidIn_0 : Cond.fieldLink "LedgeLevels$Body" 18 "LedgeLevels$Body" "taken" "I" ∈ wsX0_isSolidIn := by decide +kernel
theorem kX0_isSolidIn_1 : ∀ w ∈ wsX00, w ∈ wsX0_isSolidIn := by decide +kernel
theorem kX0_isSolidIn_2 : Cond.fieldLinkNest "LedgeLevels$Body" 56 "LedgeLevels$Grid" "allKeys" "I" "LedgeLevels" ∈ nwAll := by decide +kernel
theorem kX0_isSolidIn_3 : ∀ w ∈ wsX10, w ∈ wsX0_isSolidIn := by decide +kernel
set_option maxRecDepth 100000 in
set_option maxHeartbeats 1000000 in
theorem c_X0_isSolidIn {l : Launch} {D : va_G} {A : Nat → Prop} {h : vh} {b g ak : Nat} {x1 x2 x3 x4 x5 : Value} {f : Nat → Int} {z : Int} {t al : Nat} (hb : h b = some (eO 0 [x1, x2, x3, vI ((t : Nat) : Int), x4])) (hg : h g = some (eO 1 [.ref ak, x5, vI ((al : Nat) : Int)])) (hk : h ak = some (eI D 96 f)) (hz : -2147483648 ≤ z ∧ z ≤ 2147483647) (hf : ∀ j, 0 ≤ f j ∧ f j ≤ 8) (ht : t < 8) (hal : al < 8) : MX l D A yX0_isSolidIn wsX0_isSolidIn { frames := 1, cells := 0, slots := 0, locals := 21 } [.ref b, .ref g, vI z] h (fun rv h' => rv = some (vI (bI (sol f al t z))) ∧ h' = h) := by
  refine MX.of (cc := cX0_isSolidIn) (maxL := 4) (ret := (some .boolean)) [(0, .ref b), (1, .ref g), (2, vI z)] (by decide +kernel) rfl rfl (Nat.le_of_ble_eq_true rfl) ?_
  intro κ C hkl G
  subst hkl
  have C : CX κ "LedgeLevels$Body" "isSolidIn" cX0_isSolidIn wsX0_isSolidIn { frames := 1, cells := 0, slots := 0, locals := 21 } D A 4 := C
  have hiz : nq (D.1 20) (D.1 21) := cx_iz C
  refine x_iload_n C dX0_isSolidIn_0 2 rfl ?_
  refine x_if_ge (tgt := 6) C dX0_isSolidIn_1 (by decide) (by omega) (fun c1 => ?_) (fun c1 => ?_)
  · skip
    refine x_aload_n C dX0_isSolidIn_6 1 rfl ?_
    refine x_iload_n C dX0_isSolidIn_7 2 rfl ?_
    refine x_callV C (n := 1) (qc := (RX1, TX1, 3)) (As := [vI z]) (rest := []) (c_X1_kindAt hg hk (by omega)) gX0_isSolidIn_X1_kindAt (by decide +kernel) hg rfl rfl rfl rfl (Nat.le_of_ble_eq_true rfl) ⟨by decide, by decide⟩ ⟨by decide, by decide⟩ dX0_isSolidIn_8 (fun rv2 h3 hp4 => ?_)
    obtain ⟨rfl, e5⟩ := hp4
    obtain rfl := e5.symm
    have hka := kAt_r hf z
    refine x_istore_n C (ls' := [(0, .ref b), (1, .ref g), (2, vI z), (3, vI (kAt f z))]) dX0_isSolidIn_11 (by decide) rfl ?_
    refine x_iload_n C dX0_isSolidIn_12 3 rfl ?_
    refine x_iconst C dX0_isSolidIn_13 1 (by decide) ?_
    refine x_icmp_eq (tgt := 39) C dX0_isSolidIn_14 (by decide) (by omega) (by omega) (fun c6 => ?_) (fun c6 => ?_)
    · skip
      refine x_iconst C dX0_isSolidIn_39 1 (by decide) ?_
      refine x_goto (tgt := 44) C dX0_isSolidIn_40 (by decide) ?_
      refine x_zret C G dX0_isSolidIn_44 (by first | exact Or.inl rfl | exact Or.inr rfl) ?_ (by decide) (by decide)
      exact ⟨by first | rw [bI_t (by omega)] | rw [bI_f (fun q => by omega)], rfl⟩
    · skip
      refine x_iload_n C dX0_isSolidIn_17 3 rfl ?_
      refine x_bipush C dX0_isSolidIn_18 6 (by decide) ?_
      refine x_icmp_ge (tgt := 39) C dX0_isSolidIn_20 (by decide) (by omega) (by omega) (fun c7 => ?_) (fun c7 => ?_)
      · skip
        refine x_iconst C dX0_isSolidIn_39 1 (by decide) ?_
        refine x_goto (tgt := 44) C dX0_isSolidIn_40 (by decide) ?_
        refine x_zret C G dX0_isSolidIn_44 (by first | exact Or.inl rfl | exact Or.inr rfl) ?_ (by decide) (by decide)
        exact ⟨by first | rw [bI_t (by omega)] | rw [bI_f (fun q => by omega)], rfl⟩
      · skip
        refine x_iload_n C dX0_isSolidIn_23 3 rfl ?_
        refine x_iconst C dX0_isSolidIn_24 3 (by decide) ?_
        refine x_icmp_ne (tgt := 43) C dX0_isSolidIn_25 (by decide) (by omega) (by omega) (fun c8 => ?_) (fun c8 => ?_)
        · skip
          refine x_iconst C dX0_isSolidIn_43 0 (by decide) ?_
          refine x_zret C G dX0_isSolidIn_44 (by first | exact Or.inl rfl | exact Or.inr rfl) ?_ (by decide) (by decide)
          exact ⟨by first | rw [bI_t (by omega)] | rw [bI_f (fun q => by omega)], rfl⟩
        · skip
          refine x_aload_n C dX0_isSolidIn_28 0 rfl ?_
          refine x_get C (v := vI ((t : Nat) : Int)) hb (T := TX0) rfl kX0_isSolidIn_1 3 (by decide) kX0_isSolidIn_0 rfl dX0_isSolidIn_29 ?_
          refine x_aload_n C dX0_isSolidIn_32 1 rfl ?_
          refine x_getN (host := "LedgeLevels") C (v := vI ((al : Nat) : Int)) hg (T := TX1) rfl kX0_isSolidIn_3 2 (by decide) kX0_isSolidIn_2 rfl dX0_isSolidIn_33 ?_
          refine x_icmp_eq (tgt := 43) C dX0_isSolidIn_36 (by decide) (by omega) (by omega) (fun c9 => ?_) (fun c9 => ?_)
          · skip
            refine x_iconst C dX0_isSolidIn_43 0 (by decide) ?_
            refine x_zret C G dX0_isSolidIn_44 (by first | exact Or.inl rfl | exact Or.inr rfl) ?_ (by decide) (by decide)
            exact ⟨by first | rw [bI_t (by omega)] | rw [bI_f (fun q => by omega)], rfl⟩
          · skip
            refine x_iconst C dX0_isSolidIn_39 1 (by decide) ?_
            refine x_goto (tgt := 44) C dX0_isSolidIn_40 (by decide) ?_
            refine x_zret C G dX0_isSolidIn_44 (by first | exact Or.inl rfl | exact Or.inr rfl) ?_ (by decide) (by decide)
            exact ⟨by first | rw [bI_t (by omega)] | rw [bI_f (fun q => by omega)], rfl⟩
  · skip
    refine x_iconst C dX0_isSolidIn_4 1 (by decide) ?_
    refine x_zret C G dX0_isSolidIn_5 (by first | exact Or.inl rfl | exact Or.inr rfl) ?_ (by decide) (by decide)
    exact ⟨by first | rw [bI_t (by omega)] | rw [bI_f (fun q => by omega)], rfl⟩

theorem kX0_comeTo_0 : Cond.initialized "LedgeLevels" ∈ wsX0_comeTo := by decide +kernel
theorem kX0_comeTo_1 : Cond.static yX7_isCell ∈ wsX0_comeTo := by decide +kernel
theorem kX0_comeTo_2 : Cond.methodLinkNest "LedgeLevels$Body" 59 yX7_isCell "LedgeLevels" ∈ nwAll := by decide +kernel
theorem kX0_comeTo_3 : Cond.fieldLink "LedgeLevels$Body" 9 "LedgeLevels$Body" "cell" "I" ∈ wsX0_comeTo := by decide +kernel
theorem kX0_comeTo_4 : ∀ w ∈ wsX00, w ∈ wsX0_comeTo := by decide +kernel
theorem kX0_comeTo_5 : Cond.fieldLink "LedgeLevels$Body" 21 "LedgeLevels$Body" "fate" "I" ∈ wsX0_comeTo := by decide +kernel
theorem kX0_comeTo_6 : Cond.fieldLink "LedgeLevels$Body" 18 "LedgeLevels$Body" "taken" "I" ∈ wsX0_comeTo := by decide +kernel
set_option maxRecDepth 100000 in
set_option maxHeartbeats 1000000 in
theorem c_X0_comeTo {l : Launch} {D : va_G} {A : Nat → Prop} {h : vh} {b g ak aq as : Nat} {f q : Nat → Int} {c s z : Int} {vv : Value} {t al : Nat} (hb : h b = some (eO 0 [.ref as, vI c, vv, vI ((t : Nat) : Int), vI s])) (hg : h g = some (eO 1 [.ref ak, .ref aq, vI ((al : Nat) : Int)])) (hk : h ak = some (eI D 96 f)) (hqq : h aq = some (eI D 3 q)) (hz : -2147483648 ≤ z ∧ z ≤ 2147483647) (hf : ∀ j, 0 ≤ f j ∧ f j ≤ 8) (hq : ∀ j, -1 ≤ q j ∧ q j ≤ 95) : MX l D A yX0_comeTo wsX0_comeTo { frames := 1, cells := 0, slots := 0, locals := 22 } [.ref b, .ref g, vI z] h (fun rv h' => rv = none ∧ h' = hu h b (eO 0 [.ref as, vI ((cm f (kbf f q) z (c, t, s)).1), vv, vI (((cm f (kbf f q) z (c, t, s)).2.1 : Nat) : Int), vI ((cm f (kbf f q) z (c, t, s)).2.2)])) := by
  refine MX.of (cc := cX0_comeTo) (maxL := 4) (ret := none) [(0, .ref b), (1, .ref g), (2, vI z)] (by decide +kernel) rfl rfl (Nat.le_of_ble_eq_true rfl) ?_
  intro κ C hkl G
  subst hkl
  have C : CX κ "LedgeLevels$Body" "comeTo" cX0_comeTo wsX0_comeTo { frames := 1, cells := 0, slots := 0, locals := 22 } D A 4 := C
  have hiz : nq (D.1 20) (D.1 21) := cx_iz C
  refine x_iload_n C dX0_comeTo_0 2 rfl ?_
  refine x_callSN C (n := 1) (As := [vI z]) (rest := []) (c_X7_isCell (by omega)) gX0_comeTo_X7_isCell_n59 kX0_comeTo_2 kX0_comeTo_0 kX0_comeTo_1 (by decide +kernel) rfl rfl rfl (Nat.le_of_ble_eq_true rfl) ⟨by decide, by decide⟩ ⟨by decide, by decide⟩ dX0_comeTo_1 (fun rv1 h2 hp3 => ?_)
  obtain ⟨rfl, e4⟩ := hp3
  obtain rfl := e4.symm
  have hbr := bI_01 (0 ≤ z ∧ z < 96)
  refine x_if_ne (tgt := 13) C dX0_comeTo_4 (by decide) (by omega) (fun c5 => ?_) (fun c5 => ?_)
  · skip
    have hcell : 0 ≤ z ∧ z < 96 := bI_ne.mp (by omega)
    refine x_aload_n C dX0_comeTo_13 0 rfl ?_
    refine x_iload_n C dX0_comeTo_14 2 rfl ?_
    refine x_put C hb (T := TX0) rfl tyX0_ok nmX0 kX0_comeTo_4 1 (by decide) kX0_comeTo_3 rfl (fs' := [.ref as, vI z, vv, vI ((t : Nat) : Int), vI s]) rfl rfl (by simp) rfl dX0_comeTo_15 (x_hn (fun h6 e7 => ?_))
    have f8 : h6 b = some (eO 0 [.ref as, vI z, vv, vI ((t : Nat) : Int), vI s]) := by rw [e7]; exact hu_s
    refine x_aload_n C dX0_comeTo_18 1 rfl ?_
    refine x_iload_n C dX0_comeTo_19 2 rfl ?_
    have n10 : nq g b := vnt hg hb (p := (3, 1)) (q := (3, 0)) rfl rfl (by decide)
    have f9 : h6 g = some (eO 1 [.ref ak, .ref aq, vI ((al : Nat) : Int)]) := by rw [e7, hu_n n10]; exact hg
    have n12 : nq ak b := vnt hk hb (p := (0, 96)) (q := (3, 0)) rfl rfl (by decide)
    have f11 : h6 ak = some (eI D 96 f) := by rw [e7, hu_n n12]; exact hk
    refine x_callV C (n := 1) (qc := (RX1, TX1, 3)) (As := [vI z]) (rest := []) (c_X1_kindAt f9 f11 (by omega)) gX0_comeTo_X1_kindAt (by decide +kernel) f9 rfl rfl rfl rfl (Nat.le_of_ble_eq_true rfl) ⟨by decide, by decide⟩ ⟨by decide, by decide⟩ dX0_comeTo_20 (fun rv13 h14 hp15 => ?_)
    obtain ⟨rfl, e16⟩ := hp15
    obtain rfl := e16.symm
    have hka := kAt_r hf z
    refine x_istore_n C (ls' := [(0, .ref b), (1, .ref g), (2, vI z), (3, vI (kAt f z))]) dX0_comeTo_23 (by decide) rfl ?_
    refine x_iload_n C dX0_comeTo_24 3 rfl ?_
    refine x_iconst C dX0_comeTo_25 2 (by decide) ?_
    refine x_icmp_ne (tgt := 46) C dX0_comeTo_26 (by decide) (by omega) (by omega) (fun c17 => ?_) (fun c17 => ?_)
    · skip
      refine x_iload_n C dX0_comeTo_46 3 rfl ?_
      refine x_iconst C dX0_comeTo_47 4 (by decide) ?_
      refine x_icmp_ne (tgt := 59) C dX0_comeTo_48 (by decide) (by omega) (by omega) (fun c18 => ?_) (fun c18 => ?_)
      · skip
        refine x_iload_n C dX0_comeTo_59 3 rfl ?_
        refine x_iconst C dX0_comeTo_60 5 (by decide) ?_
        refine x_icmp_ne (tgt := 69) C dX0_comeTo_61 (by decide) (by omega) (by omega) (fun c19 => ?_) (fun c19 => ?_)
        · skip
          refine x_vret C G dX0_comeTo_69 ?_ (by decide) (by decide)
          have e9 : cm f (kbf f q) z (c, t, s) = (z, t ||| kbf f q z, if f z.toNat = 4 then 3 else if f z.toNat = 5 then 2 else s) := by unfold cm; rw [if_pos hcell]
          have e8 : kAt f z = f z.toNat := by unfold kAt; rw [if_pos hcell]
          refine ⟨rfl, ?_⟩
          rw [e7, e9]
          simp only [e8] at *
          simp [kbf, hu_u, *]
        · skip
          refine x_aload_n C dX0_comeTo_64 0 rfl ?_
          refine x_iconst C dX0_comeTo_65 2 (by decide) ?_
          refine x_put C f8 (T := TX0) rfl tyX0_ok nmX0 kX0_comeTo_4 4 (by decide) kX0_comeTo_5 rfl (fs' := [.ref as, vI z, vv, vI ((t : Nat) : Int), vI 2]) rfl rfl (by simp) rfl dX0_comeTo_66 (x_hn (fun h20 e21 => ?_))
          have f22 : h20 b = some (eO 0 [.ref as, vI z, vv, vI ((t : Nat) : Int), vI 2]) := by rw [e21]; exact hu_s
          refine x_vret C G dX0_comeTo_69 ?_ (by decide) (by decide)
          have e9 : cm f (kbf f q) z (c, t, s) = (z, t ||| kbf f q z, if f z.toNat = 4 then 3 else if f z.toNat = 5 then 2 else s) := by unfold cm; rw [if_pos hcell]
          have e8 : kAt f z = f z.toNat := by unfold kAt; rw [if_pos hcell]
          refine ⟨rfl, ?_⟩
          rw [e21, e7, e9]
          simp only [e8] at *
          simp [kbf, hu_u, *]
      · skip
        refine x_aload_n C dX0_comeTo_51 0 rfl ?_
        refine x_iconst C dX0_comeTo_52 3 (by decide) ?_
        refine x_put C f8 (T := TX0) rfl tyX0_ok nmX0 kX0_comeTo_4 4 (by decide) kX0_comeTo_5 rfl (fs' := [.ref as, vI z, vv, vI ((t : Nat) : Int), vI 3]) rfl rfl (by simp) rfl dX0_comeTo_53 (x_hn (fun h23 e24 => ?_))
        have f25 : h23 b = some (eO 0 [.ref as, vI z, vv, vI ((t : Nat) : Int), vI 3]) := by rw [e24]; exact hu_s
        refine x_goto (tgt := 69) C dX0_comeTo_56 (by decide) ?_
        refine x_vret C G dX0_comeTo_69 ?_ (by decide) (by decide)
        have e9 : cm f (kbf f q) z (c, t, s) = (z, t ||| kbf f q z, if f z.toNat = 4 then 3 else if f z.toNat = 5 then 2 else s) := by unfold cm; rw [if_pos hcell]
        have e8 : kAt f z = f z.toNat := by unfold kAt; rw [if_pos hcell]
        refine ⟨rfl, ?_⟩
        rw [e24, e7, e9]
        simp only [e8] at *
        simp [kbf, hu_u, *]
    · skip
      refine x_aload_n C dX0_comeTo_29 0 rfl ?_
      refine x_dup C dX0_comeTo_30 rfl ?_
      refine x_get C (v := vI ((t : Nat) : Int)) f8 (T := TX0) rfl kX0_comeTo_4 3 (by decide) kX0_comeTo_6 rfl dX0_comeTo_31 ?_
      refine x_aload_n C dX0_comeTo_34 1 rfl ?_
      refine x_iload_n C dX0_comeTo_35 2 rfl ?_
      have n27 : nq aq b := vnt hqq hb (p := (0, 3)) (q := (3, 0)) rfl rfl (by decide)
      have f26 : h6 aq = some (eI D 3 q) := by rw [e7, hu_n n27]; exact hqq
      refine x_callV C (n := 1) (qc := (RX1, TX1, 3)) (As := [vI z]) (rest := [vI ((t : Nat) : Int), .ref b]) (c_X1_keyBit f9 f26 (by omega) (by assumption)) gX0_comeTo_X1_keyBit (by decide +kernel) f9 rfl rfl rfl rfl (Nat.le_of_ble_eq_true rfl) ⟨by decide, by decide⟩ ⟨by decide, by decide⟩ dX0_comeTo_36 (fun rv28 h29 hp30 => ?_)
      obtain ⟨rfl, e31⟩ := hp30
      obtain rfl := e31.symm
      refine x_iorv C (((t ||| (kb3 q z) : Nat) : Int)) (iI_or t (kb3 q z)) dX0_comeTo_39 ?_
      refine x_put C f8 (T := TX0) rfl tyX0_ok nmX0 kX0_comeTo_4 3 (by decide) kX0_comeTo_6 rfl (fs' := [.ref as, vI z, vv, vI ((t ||| (kb3 q z) : Nat) : Int), vI s]) rfl rfl (by simp) rfl dX0_comeTo_40 (x_hn (fun h32 e33 => ?_))
      have f34 : h32 b = some (eO 0 [.ref as, vI z, vv, vI ((t ||| (kb3 q z) : Nat) : Int), vI s]) := by rw [e33]; exact hu_s
      refine x_goto (tgt := 69) C dX0_comeTo_43 (by decide) ?_
      refine x_vret C G dX0_comeTo_69 ?_ (by decide) (by decide)
      have e9 : cm f (kbf f q) z (c, t, s) = (z, t ||| kbf f q z, if f z.toNat = 4 then 3 else if f z.toNat = 5 then 2 else s) := by unfold cm; rw [if_pos hcell]
      have e8 : kAt f z = f z.toNat := by unfold kAt; rw [if_pos hcell]
      refine ⟨rfl, ?_⟩
      rw [e33, e7, e9]
      simp only [e8] at *
      simp [kbf, hu_u, *]
  · skip
    have hcell : ¬ (0 ≤ z ∧ z < 96) := fun q9 => by have := bI_t q9; omega
    refine x_aload_n C dX0_comeTo_7 0 rfl ?_
    refine x_iconst C dX0_comeTo_8 3 (by decide) ?_
    refine x_put C hb (T := TX0) rfl tyX0_ok nmX0 kX0_comeTo_4 4 (by decide) kX0_comeTo_5 rfl (fs' := [.ref as, vI c, vv, vI ((t : Nat) : Int), vI 3]) rfl rfl (by simp) rfl dX0_comeTo_9 (x_hn (fun h35 e36 => ?_))
    have f37 : h35 b = some (eO 0 [.ref as, vI c, vv, vI ((t : Nat) : Int), vI 3]) := by rw [e36]; exact hu_s
    refine x_vret C G dX0_comeTo_12 ?_ (by decide) (by decide)
    have e9 : cm f (kbf f q) z (c, t, s) = (c, t, 3) := by unfold cm; rw [if_neg hcell]
    refine ⟨rfl, ?_⟩
    rw [e36, e9]

theorem kX0_stands_0 : Cond.fieldLink "LedgeLevels$Body" 15 "LedgeLevels$Body" "speed" "I" ∈ wsX0_stands := by decide +kernel
theorem kX0_stands_1 : ∀ w ∈ wsX00, w ∈ wsX0_stands := by decide +kernel
theorem kX0_stands_2 : Cond.fieldLink "LedgeLevels$Body" 9 "LedgeLevels$Body" "cell" "I" ∈ wsX0_stands := by decide +kernel
set_option maxRecDepth 100000 in
set_option maxHeartbeats 1000000 in
theorem c_X0_stands {l : Launch} {D : va_G} {A : Nat → Prop} {h : vh} {b g ak : Nat} {x1 x4 x5 : Value} {f : Nat → Int} {c v : Int} {t al : Nat} (hb : h b = some (eO 0 [x1, vI c, vI v, vI ((t : Nat) : Int), x4])) (hg : h g = some (eO 1 [.ref ak, x5, vI ((al : Nat) : Int)])) (hk : h ak = some (eI D 96 f)) (hc : 0 ≤ c ∧ c ≤ 95) (hv : -4 ≤ v ∧ v ≤ 3) (hf : ∀ j, 0 ≤ f j ∧ f j ≤ 8) (ht : t < 8) (hal : al < 8) : MX l D A yX0_stands wsX0_stands { frames := 2, cells := 0, slots := 0, locals := 44 } [.ref b, .ref g] h (fun rv h' => rv = some (vI (bI (0 ≤ v ∧ sol f al t (c + 12)))) ∧ h' = h) := by
  refine MX.of (cc := cX0_stands) (maxL := 2) (ret := (some .boolean)) [(0, .ref b), (1, .ref g)] (by decide +kernel) rfl rfl (Nat.le_of_ble_eq_true rfl) ?_
  intro κ C hkl G
  subst hkl
  have C : CX κ "LedgeLevels$Body" "stands" cX0_stands wsX0_stands { frames := 2, cells := 0, slots := 0, locals := 44 } D A 2 := C
  have hiz : nq (D.1 20) (D.1 21) := cx_iz C
  refine x_aload_n C dX0_stands_0 0 rfl ?_
  refine x_get C (v := vI v) hb (T := TX0) rfl kX0_stands_1 2 (by decide) kX0_stands_0 rfl dX0_stands_1 ?_
  refine x_if_lt (tgt := 26) C dX0_stands_4 (by decide) (by omega) (fun c1 => ?_) (fun c1 => ?_)
  · skip
    refine x_iconst C dX0_stands_26 0 (by decide) ?_
    refine x_zret C G dX0_stands_27 (by first | exact Or.inl rfl | exact Or.inr rfl) ?_ (by decide) (by decide)
    exact ⟨by first | rw [bI_t ⟨by omega, bI_ne.mp (by omega)⟩] | rw [bI_f (fun q => by have q1 := q.1; have q2 := bI_ne.mpr q.2; omega)], rfl⟩
  · skip
    refine x_aload_n C dX0_stands_7 0 rfl ?_
    refine x_aload_n C dX0_stands_8 1 rfl ?_
    refine x_aload_n C dX0_stands_9 0 rfl ?_
    refine x_get C (v := vI c) hb (T := TX0) rfl kX0_stands_1 1 (by decide) kX0_stands_2 rfl dX0_stands_10 ?_
    refine x_bipush C dX0_stands_13 12 (by decide) ?_
    refine x_iadd C dX0_stands_15 ?_
    refine x_callV C (n := 2) (qc := (RX0, TX0, 5)) (As := [.ref g, vI (c + 12)]) (rest := []) (c_X0_isSolidIn hb hg hk (by omega) (by assumption) (by omega) (by omega)) gX0_stands_X0_isSolidIn (by decide +kernel) hb rfl rfl rfl rfl (Nat.le_of_ble_eq_true rfl) ⟨by decide, by decide⟩ ⟨by decide, by decide⟩ dX0_stands_16 (fun rv2 h3 hp4 => ?_)
    obtain ⟨rfl, e5⟩ := hp4
    obtain rfl := e5.symm
    have hbr := bI_01 (sol f al t (c + 12))
    refine x_if_eq (tgt := 26) C dX0_stands_19 (by decide) (by omega) (fun c6 => ?_) (fun c6 => ?_)
    · skip
      refine x_iconst C dX0_stands_26 0 (by decide) ?_
      refine x_zret C G dX0_stands_27 (by first | exact Or.inl rfl | exact Or.inr rfl) ?_ (by decide) (by decide)
      exact ⟨by first | rw [bI_t ⟨by omega, bI_ne.mp (by omega)⟩] | rw [bI_f (fun q => by have q1 := q.1; have q2 := bI_ne.mpr q.2; omega)], rfl⟩
    · skip
      refine x_iconst C dX0_stands_22 1 (by decide) ?_
      refine x_goto (tgt := 27) C dX0_stands_23 (by decide) ?_
      refine x_zret C G dX0_stands_27 (by first | exact Or.inl rfl | exact Or.inr rfl) ?_ (by decide) (by decide)
      exact ⟨by first | rw [bI_t ⟨by omega, bI_ne.mp (by omega)⟩] | rw [bI_f (fun q => by have q1 := q.1; have q2 := bI_ne.mpr q.2; omega)], rfl⟩

theorem kX0_strengthOf_0 : Cond.fieldLink "LedgeLevels$Body" 24 "LedgeLevels$Body" "strengths" "[I" ∈ wsX0_strengthOf := by decide +kernel
theorem kX0_strengthOf_1 : ∀ w ∈ wsX00, w ∈ wsX0_strengthOf := by decide +kernel
set_option maxRecDepth 100000 in
set_option maxHeartbeats 1000000 in
theorem c_X0_strengthOf {l : Launch} {D : va_G} {A : Nat → Prop} {h : vh} {b as : Nat} {x1 x2 x3 x4 : Value} {S : Nat → Int} {k : Int} (hb : h b = some (eO 0 [.ref as, x1, x2, x3, x4])) (hSS : h as = some (eI D 3 S)) (hk0 : 0 ≤ k ∧ k ≤ 100) : MX l D A yX0_strengthOf wsX0_strengthOf { frames := 0, cells := 0, slots := 0, locals := 0 } [.ref b, vI k] h (fun rv h' => rv = some (vI (strK S k)) ∧ h' = h) := by
  refine MX.of (cc := cX0_strengthOf) (maxL := 3) (ret := (some .int)) [(0, .ref b), (1, vI k)] (by decide +kernel) rfl rfl (Nat.le_of_ble_eq_true rfl) ?_
  intro κ C hkl G
  subst hkl
  have C : CX κ "LedgeLevels$Body" "strengthOf" cX0_strengthOf wsX0_strengthOf { frames := 0, cells := 0, slots := 0, locals := 0 } D A 3 := C
  have hiz : nq (D.1 20) (D.1 21) := cx_iz C
  refine x_iload_n C dX0_strengthOf_0 1 rfl ?_
  refine x_bipush C dX0_strengthOf_1 6 (by decide) ?_
  refine x_isub C dX0_strengthOf_3 ?_
  refine x_istore_n C (ls' := [(0, .ref b), (1, vI k), (2, vI (k - 6))]) dX0_strengthOf_4 (by decide) rfl ?_
  refine x_iload_n C dX0_strengthOf_5 2 rfl ?_
  refine x_if_lt (tgt := 27) C dX0_strengthOf_6 (by decide) (by omega) (fun c1 => ?_) (fun c1 => ?_)
  · skip
    refine x_iconst C dX0_strengthOf_27 0 (by decide) ?_
    refine x_iret C G dX0_strengthOf_28 ?_ (by decide) (by decide)
    exact ⟨by first | rw [strK, if_pos ⟨by omega, by omega⟩] | rw [strK, if_neg (fun q => by omega)], rfl⟩
  · skip
    refine x_iload_n C dX0_strengthOf_9 2 rfl ?_
    refine x_aload_n C dX0_strengthOf_10 0 rfl ?_
    refine x_get C (v := .ref as) hb (T := TX0) rfl kX0_strengthOf_1 0 (by decide) kX0_strengthOf_0 rfl dX0_strengthOf_11 ?_
    refine x_alen C hSS (t0 := 0) rfl 3 rfl dX0_strengthOf_14 ?_
    refine x_icmp_ge (tgt := 27) C dX0_strengthOf_15 (by decide) (by omega) (by omega) (fun c2 => ?_) (fun c2 => ?_)
    · skip
      refine x_iconst C dX0_strengthOf_27 0 (by decide) ?_
      refine x_iret C G dX0_strengthOf_28 ?_ (by decide) (by decide)
      exact ⟨by first | rw [strK, if_pos ⟨by omega, by omega⟩] | rw [strK, if_neg (fun q => by omega)], rfl⟩
    · skip
      refine x_aload_n C dX0_strengthOf_18 0 rfl ?_
      refine x_get C (v := .ref as) hb (T := TX0) rfl kX0_strengthOf_1 0 (by decide) kX0_strengthOf_0 rfl dX0_strengthOf_19 ?_
      refine x_iload_n C dX0_strengthOf_22 2 rfl ?_
      refine x_iald C hSS ⟨by omega, by omega⟩ (by decide) dX0_strengthOf_23 ?_
      refine x_goto (tgt := 28) C dX0_strengthOf_24 (by decide) ?_
      refine x_iret C G dX0_strengthOf_28 ?_ (by decide) (by decide)
      exact ⟨by first | rw [strK, if_pos ⟨by omega, by omega⟩] | rw [strK, if_neg (fun q => by omega)], rfl⟩

theorem kX0_goSideways_0 : Cond.fieldLink "LedgeLevels$Body" 9 "LedgeLevels$Body" "cell" "I" ∈ wsX0_goSideways := by decide +kernel
theorem kX0_goSideways_1 : ∀ w ∈ wsX00, w ∈ wsX0_goSideways := by decide +kernel
set_option maxRecDepth 100000 in
set_option maxHeartbeats 1000000 in
theorem c_X0_goSideways {l : Launch} {D : va_G} {A : Nat → Prop} {h : vh} {b g ak aq as : Nat} {f q : Nat → Int} {c s d : Int} {vv : Value} {t al : Nat} (hb : h b = some (eO 0 [.ref as, vI c, vv, vI ((t : Nat) : Int), vI s])) (hg : h g = some (eO 1 [.ref ak, .ref aq, vI ((al : Nat) : Int)])) (hk : h ak = some (eI D 96 f)) (hqq : h aq = some (eI D 3 q)) (hd : -1 ≤ d ∧ d ≤ 1) (hc : 0 ≤ c ∧ c ≤ 95) (hs : 0 ≤ s ∧ s ≤ 4) (hf : ∀ j, 0 ≤ f j ∧ f j ≤ 8) (hq : ∀ j, -1 ≤ q j ∧ q j ≤ 95) (ht : t < 8) (hal : al < 8) : MX l D A yX0_goSideways wsX0_goSideways { frames := 2, cells := 0, slots := 0, locals := 45 } [.ref b, .ref g, vI d] h (fun rv h' => rv = none ∧ h' = hu h b (eO 0 [.ref as, vI ((sd f (kbf f q) al d (c, t, s)).1), vv, vI (((sd f (kbf f q) al d (c, t, s)).2.1 : Nat) : Int), vI ((sd f (kbf f q) al d (c, t, s)).2.2)])) := by
  refine MX.of (cc := cX0_goSideways) (maxL := 5) (ret := none) [(0, .ref b), (1, .ref g), (2, vI d)] (by decide +kernel) rfl rfl (Nat.le_of_ble_eq_true rfl) ?_
  intro κ C hkl G
  subst hkl
  have C : CX κ "LedgeLevels$Body" "goSideways" cX0_goSideways wsX0_goSideways { frames := 2, cells := 0, slots := 0, locals := 45 } D A 5 := C
  have hiz : nq (D.1 20) (D.1 21) := cx_iz C
  refine x_aload_n C dX0_goSideways_0 0 rfl ?_
  refine x_get C (v := vI c) hb (T := TX0) rfl kX0_goSideways_1 1 (by decide) kX0_goSideways_0 rfl dX0_goSideways_1 ?_
  refine x_bipush C dX0_goSideways_4 12 (by decide) ?_
  refine x_irem C dX0_goSideways_6 (by omega) (by omega) (by omega) (by omega) ?_
  refine x_iload_n C dX0_goSideways_7 2 rfl ?_
  refine x_iadd C dX0_goSideways_8 ?_
  refine x_istore_n C (ls' := [(0, .ref b), (1, .ref g), (2, vI d), (3, vI ((c % 12) + d))]) dX0_goSideways_9 (by decide) rfl ?_
  refine x_iload_n C dX0_goSideways_10 3 rfl ?_
  refine x_if_lt (tgt := 24) C dX0_goSideways_11 (by decide) (by omega) (fun c1 => ?_) (fun c1 => ?_)
  · skip
    refine x_iconst C dX0_goSideways_24 0 (by decide) ?_
    refine x_istore C (ls' := [(0, .ref b), (1, .ref g), (2, vI d), (3, vI ((c % 12) + d)), (4, vI 0)]) dX0_goSideways_25 (by decide) rfl ?_
    refine x_iload_n C dX0_goSideways_27 2 rfl ?_
    refine x_if_eq (tgt := 61) C dX0_goSideways_28 (by decide) (by omega) (fun c2 => ?_) (fun c2 => ?_)
    · skip
      refine x_vret C G dX0_goSideways_61 ?_ (by decide) (by decide)
      first
        | (rw [show sd f (kbf f q) al d (c, t, s) = (c, t, s) from by unfold sd; rw [if_neg (fun q9 => by dsimp only at q9; first | omega | (have := bI_f q9.2.2.2; omega))]]
           exact ⟨rfl, (hu_i hb).symm⟩)
        | (rw [show sd f (kbf f q) al d (c, t, s) = cm f (kbf f q) (c + d) (c, t, s) from by unfold sd; rw [if_pos ⟨by omega, by dsimp only; omega, by dsimp only; omega, fun q9 => by have : bI (sol f al t (c + d)) = 1 := bI_t q9; omega⟩]]
           exact ⟨rfl, rfl⟩)
    · skip
      refine x_iload C dX0_goSideways_31 4 rfl ?_
      refine x_if_eq (tgt := 61) C dX0_goSideways_33 (by decide) (by omega) (fun c3 => ?_) (fun c3 => ?_)
      · skip
        refine x_vret C G dX0_goSideways_61 ?_ (by decide) (by decide)
        first
          | (rw [show sd f (kbf f q) al d (c, t, s) = (c, t, s) from by unfold sd; rw [if_neg (fun q9 => by dsimp only at q9; first | omega | (have := bI_f q9.2.2.2; omega))]]
             exact ⟨rfl, (hu_i hb).symm⟩)
          | (rw [show sd f (kbf f q) al d (c, t, s) = cm f (kbf f q) (c + d) (c, t, s) from by unfold sd; rw [if_pos ⟨by omega, by dsimp only; omega, by dsimp only; omega, fun q9 => by have : bI (sol f al t (c + d)) = 1 := bI_t q9; omega⟩]]
             exact ⟨rfl, rfl⟩)
      · exfalso; omega
  · skip
    refine x_iload_n C dX0_goSideways_14 3 rfl ?_
    refine x_bipush C dX0_goSideways_15 12 (by decide) ?_
    refine x_icmp_ge (tgt := 24) C dX0_goSideways_17 (by decide) (by omega) (by omega) (fun c4 => ?_) (fun c4 => ?_)
    · skip
      refine x_iconst C dX0_goSideways_24 0 (by decide) ?_
      refine x_istore C (ls' := [(0, .ref b), (1, .ref g), (2, vI d), (3, vI ((c % 12) + d)), (4, vI 0)]) dX0_goSideways_25 (by decide) rfl ?_
      refine x_iload_n C dX0_goSideways_27 2 rfl ?_
      refine x_if_eq (tgt := 61) C dX0_goSideways_28 (by decide) (by omega) (fun c5 => ?_) (fun c5 => ?_)
      · skip
        refine x_vret C G dX0_goSideways_61 ?_ (by decide) (by decide)
        first
          | (rw [show sd f (kbf f q) al d (c, t, s) = (c, t, s) from by unfold sd; rw [if_neg (fun q9 => by dsimp only at q9; first | omega | (have := bI_f q9.2.2.2; omega))]]
             exact ⟨rfl, (hu_i hb).symm⟩)
          | (rw [show sd f (kbf f q) al d (c, t, s) = cm f (kbf f q) (c + d) (c, t, s) from by unfold sd; rw [if_pos ⟨by omega, by dsimp only; omega, by dsimp only; omega, fun q9 => by have : bI (sol f al t (c + d)) = 1 := bI_t q9; omega⟩]]
             exact ⟨rfl, rfl⟩)
      · skip
        refine x_iload C dX0_goSideways_31 4 rfl ?_
        refine x_if_eq (tgt := 61) C dX0_goSideways_33 (by decide) (by omega) (fun c6 => ?_) (fun c6 => ?_)
        · skip
          refine x_vret C G dX0_goSideways_61 ?_ (by decide) (by decide)
          first
            | (rw [show sd f (kbf f q) al d (c, t, s) = (c, t, s) from by unfold sd; rw [if_neg (fun q9 => by dsimp only at q9; first | omega | (have := bI_f q9.2.2.2; omega))]]
               exact ⟨rfl, (hu_i hb).symm⟩)
            | (rw [show sd f (kbf f q) al d (c, t, s) = cm f (kbf f q) (c + d) (c, t, s) from by unfold sd; rw [if_pos ⟨by omega, by dsimp only; omega, by dsimp only; omega, fun q9 => by have : bI (sol f al t (c + d)) = 1 := bI_t q9; omega⟩]]
               exact ⟨rfl, rfl⟩)
        · exfalso; omega
    · skip
      refine x_iconst C dX0_goSideways_20 1 (by decide) ?_
      refine x_goto (tgt := 25) C dX0_goSideways_21 (by decide) ?_
      refine x_istore C (ls' := [(0, .ref b), (1, .ref g), (2, vI d), (3, vI ((c % 12) + d)), (4, vI 1)]) dX0_goSideways_25 (by decide) rfl ?_
      refine x_iload_n C dX0_goSideways_27 2 rfl ?_
      refine x_if_eq (tgt := 61) C dX0_goSideways_28 (by decide) (by omega) (fun c7 => ?_) (fun c7 => ?_)
      · skip
        refine x_vret C G dX0_goSideways_61 ?_ (by decide) (by decide)
        first
          | (rw [show sd f (kbf f q) al d (c, t, s) = (c, t, s) from by unfold sd; rw [if_neg (fun q9 => by dsimp only at q9; first | omega | (have := bI_f q9.2.2.2; omega))]]
             exact ⟨rfl, (hu_i hb).symm⟩)
          | (rw [show sd f (kbf f q) al d (c, t, s) = cm f (kbf f q) (c + d) (c, t, s) from by unfold sd; rw [if_pos ⟨by omega, by dsimp only; omega, by dsimp only; omega, fun q9 => by have : bI (sol f al t (c + d)) = 1 := bI_t q9; omega⟩]]
             exact ⟨rfl, rfl⟩)
      · skip
        refine x_iload C dX0_goSideways_31 4 rfl ?_
        refine x_if_eq (tgt := 61) C dX0_goSideways_33 (by decide) (by omega) (fun c8 => ?_) (fun c8 => ?_)
        · exfalso; omega
        · skip
          refine x_aload_n C dX0_goSideways_36 0 rfl ?_
          refine x_aload_n C dX0_goSideways_37 1 rfl ?_
          refine x_aload_n C dX0_goSideways_38 0 rfl ?_
          refine x_get C (v := vI c) hb (T := TX0) rfl kX0_goSideways_1 1 (by decide) kX0_goSideways_0 rfl dX0_goSideways_39 ?_
          refine x_iload_n C dX0_goSideways_42 2 rfl ?_
          refine x_iadd C dX0_goSideways_43 ?_
          refine x_callV C (n := 2) (qc := (RX0, TX0, 5)) (As := [.ref g, vI (c + d)]) (rest := []) (c_X0_isSolidIn hb hg hk (by omega) (by assumption) (by omega) (by omega)) gX0_goSideways_X0_isSolidIn (by decide +kernel) hb rfl rfl rfl rfl (Nat.le_of_ble_eq_true rfl) ⟨by decide, by decide⟩ ⟨by decide, by decide⟩ dX0_goSideways_44 (fun rv9 h10 hp11 => ?_)
          obtain ⟨rfl, e12⟩ := hp11
          obtain rfl := e12.symm
          have hbr := bI_01 (sol f al t (c + d))
          refine x_if_ne (tgt := 61) C dX0_goSideways_47 (by decide) (by omega) (fun c13 => ?_) (fun c13 => ?_)
          · skip
            refine x_vret C G dX0_goSideways_61 ?_ (by decide) (by decide)
            first
              | (rw [show sd f (kbf f q) al d (c, t, s) = (c, t, s) from by unfold sd; rw [if_neg (fun q9 => by dsimp only at q9; first | omega | (have := bI_f q9.2.2.2; omega))]]
                 exact ⟨rfl, (hu_i hb).symm⟩)
              | (rw [show sd f (kbf f q) al d (c, t, s) = cm f (kbf f q) (c + d) (c, t, s) from by unfold sd; rw [if_pos ⟨by omega, by dsimp only; omega, by dsimp only; omega, fun q9 => by have : bI (sol f al t (c + d)) = 1 := bI_t q9; omega⟩]]
                 exact ⟨rfl, rfl⟩)
          · skip
            refine x_aload_n C dX0_goSideways_50 0 rfl ?_
            refine x_aload_n C dX0_goSideways_51 1 rfl ?_
            refine x_aload_n C dX0_goSideways_52 0 rfl ?_
            refine x_get C (v := vI c) hb (T := TX0) rfl kX0_goSideways_1 1 (by decide) kX0_goSideways_0 rfl dX0_goSideways_53 ?_
            refine x_iload_n C dX0_goSideways_56 2 rfl ?_
            refine x_iadd C dX0_goSideways_57 ?_
            refine x_callV C (n := 2) (qc := (RX0, TX0, 5)) (As := [.ref g, vI (c + d)]) (rest := []) (c_X0_comeTo hb hg hk hqq (by omega) (by assumption) (by assumption)) gX0_goSideways_X0_comeTo (by decide +kernel) hb rfl rfl rfl rfl (Nat.le_of_ble_eq_true rfl) ⟨by decide, by decide⟩ ⟨by decide, by decide⟩ dX0_goSideways_58 (fun rv14 h15 hp16 => ?_)
            obtain ⟨rfl, e17⟩ := hp16
            have f18 : h15 b = some (eO 0 [.ref as, vI ((cm f (kbf f q) (c + d) (c, t, s)).1), vv, vI (((cm f (kbf f q) (c + d) (c, t, s)).2.1 : Nat) : Int), vI ((cm f (kbf f q) (c + d) (c, t, s)).2.2)]) := by rw [e17]; exact hu_s
            refine x_vret C G dX0_goSideways_61 ?_ (by decide) (by decide)
            first
              | (rw [show sd f (kbf f q) al d (c, t, s) = (c, t, s) from by unfold sd; rw [if_neg (fun q9 => by dsimp only at q9; first | omega | (have := bI_f q9.2.2.2; omega))]]
                 exact ⟨rfl, (hu_i hb).symm⟩)
              | (rw [show sd f (kbf f q) al d (c, t, s) = cm f (kbf f q) (c + d) (c, t, s) from by unfold sd; rw [if_pos ⟨by omega, by dsimp only; omega, by dsimp only; omega, fun q9 => by have : bI (sol f al t (c + d)) = 1 := bI_t q9; omega⟩]]
                 exact ⟨rfl, by rw [e17]⟩)

theorem kX0_goUpOrDown_0 : Cond.fieldLink "LedgeLevels$Body" 15 "LedgeLevels$Body" "speed" "I" ∈ wsX0_goUpOrDown := by decide +kernel
theorem kX0_goUpOrDown_1 : ∀ w ∈ wsX00, w ∈ wsX0_goUpOrDown := by decide +kernel
theorem kX0_goUpOrDown_2 : Cond.fieldLink "LedgeLevels$Body" 9 "LedgeLevels$Body" "cell" "I" ∈ wsX0_goUpOrDown := by decide +kernel
theorem kX0_goUpOrDown_3 : Cond.fieldLink "LedgeLevels$Body" 21 "LedgeLevels$Body" "fate" "I" ∈ wsX0_goUpOrDown := by decide +kernel
set_option maxRecDepth 100000 in
set_option maxHeartbeats 1000000 in
theorem c_X0_goUpOrDown {l : Launch} {D : va_G} {A : Nat → Prop} {h : vh} {b g ak aq as : Nat} {f q S : Nat → Int} {c v : Int} {t al : Nat} (hb : h b = some (eO 0 [.ref as, vI c, vI v, vI ((t : Nat) : Int), vI 1])) (hg : h g = some (eO 1 [.ref ak, .ref aq, vI ((al : Nat) : Int)])) (hk : h ak = some (eI D 96 f)) (hqq : h aq = some (eI D 3 q)) (hSS : h as = some (eI D 3 S)) (hc : 0 ≤ c ∧ c ≤ 95) (hv : -4 ≤ v ∧ v ≤ 3) (hf : ∀ j, 0 ≤ f j ∧ f j ≤ 8) (hq : ∀ j, -1 ≤ q j ∧ q j ≤ 95) (hS : ∀ j, 0 ≤ S j ∧ S j ≤ 4) (ht : t < 8) (hal : al < 8) : MX l D A yX0_goUpOrDown wsX0_goUpOrDown { frames := 2, cells := 0, slots := 0, locals := 45 } [.ref b, .ref g] h (fun rv h' => rv = none ∧ h' = hu h b (eO 0 [.ref as, vI ((vt f (kbf f q) al S (if v < 0 then -12 else 12) v (vab v) (c, t, 1)).1), vI ((vt f (kbf f q) al S (if v < 0 then -12 else 12) v (vab v) (c, t, 1)).2.1), vI (((vt f (kbf f q) al S (if v < 0 then -12 else 12) v (vab v) (c, t, 1)).2.2.1 : Nat) : Int), vI ((vt f (kbf f q) al S (if v < 0 then -12 else 12) v (vab v) (c, t, 1)).2.2.2)])) := by
  refine MX.of (cc := cX0_goUpOrDown) (maxL := 5) (ret := none) [(0, .ref b), (1, .ref g)] (by decide +kernel) rfl rfl (Nat.le_of_ble_eq_true rfl) ?_
  intro κ C hkl G
  subst hkl
  have C : CX κ "LedgeLevels$Body" "goUpOrDown" cX0_goUpOrDown wsX0_goUpOrDown { frames := 2, cells := 0, slots := 0, locals := 45 } D A 5 := C
  have hiz : nq (D.1 20) (D.1 21) := cx_iz C
  have nn0 : nq b g := vne hb hg (by intro q; have q2 := congrArg vtag q; simp [vtag] at q2)
  have mm0 : nq g b := Ne.symm nn0
  have nn1 : nq b ak := vne hb hk (by intro q; have q2 := congrArg vtag q; simp [vtag] at q2)
  have mm1 : nq ak b := Ne.symm nn1
  have nn2 : nq b aq := vne hb hqq (by intro q; have q2 := congrArg vtag q; simp [vtag] at q2)
  have mm2 : nq aq b := Ne.symm nn2
  have nn3 : nq g ak := vne hg hk (by intro q; have q2 := congrArg vtag q; simp [vtag] at q2)
  have mm3 : nq ak g := Ne.symm nn3
  have nn4 : nq g aq := vne hg hqq (by intro q; have q2 := congrArg vtag q; simp [vtag] at q2)
  have mm4 : nq aq g := Ne.symm nn4
  have hb9 := kbf_r f q
  refine x_aload_n C dX0_goUpOrDown_0 0 rfl ?_
  refine x_get C (v := vI v) hb (T := TX0) rfl kX0_goUpOrDown_1 2 (by decide) kX0_goUpOrDown_0 rfl dX0_goUpOrDown_1 ?_
  refine x_if_ge (tgt := 12) C dX0_goUpOrDown_4 (by decide) (by omega) (fun c1 => ?_) (fun c1 => ?_)
  · skip
    refine x_bipush C dX0_goUpOrDown_12 12 (by decide) ?_
    refine x_istore_n C (ls' := [(0, .ref b), (1, .ref g), (2, vI 12)]) dX0_goUpOrDown_14 (by decide) rfl ?_
    have WAY : ∀ (w : Int)   (hw : w = if v < 0 then -12 else 12), X κ 0 0 h [(0, .ref b), (1, .ref g), (2, vI w)] 15 [] := by
      intro w hw
      have hva : vab v ≤ 4 := by unfold vab; split <;> omega
      refine x_aload_n C dX0_goUpOrDown_15 0 rfl ?_
      refine x_get C (v := vI v) hb (T := TX0) rfl kX0_goUpOrDown_1 2 (by decide) kX0_goUpOrDown_0 rfl dX0_goUpOrDown_16 ?_
      refine x_if_ge (tgt := 30) C dX0_goUpOrDown_19 (by decide) (by omega) (fun c3 => ?_) (fun c3 => ?_)
      · skip
        refine x_aload_n C dX0_goUpOrDown_30 0 rfl ?_
        refine x_get C (v := vI v) hb (T := TX0) rfl kX0_goUpOrDown_1 2 (by decide) kX0_goUpOrDown_0 rfl dX0_goUpOrDown_31 ?_
        refine x_topv (show v = ((vab v : Nat) : Int) from by unfold vab; rw [if_neg (by omega)]; omega) ?_
        refine x_istore_n C (ls' := [(0, .ref b), (1, .ref g), (2, vI w), (3, vI ((vab v : Nat) : Int))]) dX0_goUpOrDown_34 (by decide) rfl ?_
        refine x_iconst C dX0_goUpOrDown_35 0 (by decide) ?_
        refine x_istore C (ls' := [(0, .ref b), (1, .ref g), (2, vI w), (3, vI ((vab v : Nat) : Int)), (4, vI 0)]) dX0_goUpOrDown_36 (by decide) rfl ?_
        have LP : ∀ (n : Nat) (i t1 : Nat) (c1 : Int) (h4 : vh)  (fb : h4 b = some (eO 0 [.ref as, vI c1, vI v, vI ((t1 : Nat) : Int), vI 1])) (fg : h4 g = some (eO 1 [.ref ak, .ref aq, vI ((al : Nat) : Int)])) (fk : h4 ak = some (eI D 96 f)) (fq : h4 aq = some (eI D 3 q)) (fS : h4 as = some (eI D 3 S)) (hi : i ≤ vab v) (hm : vab v - i < n) (hc1 : 0 ≤ c1 ∧ c1 ≤ 95) (ht1 : t1 < 8) (hR : vt f (kbf f q) al S w v (vab v - i) (c1, t1, 1) = vt f (kbf f q) al S w v (vab v) (c, t, 1)) (he : h4 = hu h b (eO 0 [.ref as, vI c1, vI v, vI ((t1 : Nat) : Int), vI 1])), X κ 0 0 h4 [(0, .ref b), (1, .ref g), (2, vI w), (3, vI ((vab v : Nat) : Int)), (4, vI ((i : Nat) : Int))] 38 [] := by
          intro n
          induction n with
          | zero => intro i t1 c1 h4 fb fg fk fq fS hi hm hc1 ht1 hR he; exfalso; omega
          | succ n ihLP =>
            intro i t1 c1 h4 fb fg fk fq fS hi hm hc1 ht1 hR he
            have hw2 : w = 12 ∨ w = -12 := by rw [hw]; split <;> simp
            have hva : vab v ≤ 4 := by unfold vab; split <;> omega
            refine x_iload C dX0_goUpOrDown_38 4 rfl ?_
            refine x_iload_n C dX0_goUpOrDown_40 3 rfl ?_
            refine x_icmp_ge (tgt := 112) C dX0_goUpOrDown_41 (by decide) (by omega) (by omega) (fun c5 => ?_) (fun c5 => ?_)
            · skip
              refine x_aload_n C dX0_goUpOrDown_112 0 rfl ?_
              refine x_aload_n C dX0_goUpOrDown_113 0 rfl ?_
              refine x_get C (v := vI v) fb (T := TX0) rfl kX0_goUpOrDown_1 2 (by decide) kX0_goUpOrDown_0 rfl dX0_goUpOrDown_114 ?_
              refine x_iconst C dX0_goUpOrDown_117 3 (by decide) ?_
              refine x_icmp_ge (tgt := 130) C dX0_goUpOrDown_118 (by decide) (by omega) (by omega) (fun c6 => ?_) (fun c6 => ?_)
              · skip
                refine x_iconst C dX0_goUpOrDown_130 3 (by decide) ?_
                refine x_put C fb (T := TX0) rfl tyX0_ok nmX0 kX0_goUpOrDown_1 2 (by decide) kX0_goUpOrDown_0 rfl (fs' := [.ref as, vI c1, vI 3, vI ((t1 : Nat) : Int), vI 1]) rfl rfl (by simp) rfl dX0_goUpOrDown_131 (x_hn (fun h7 e8 => ?_))
                have f9 : h7 b = some (eO 0 [.ref as, vI c1, vI 3, vI ((t1 : Nat) : Int), vI 1]) := by rw [e8]; exact hu_s
                refine x_vret C G dX0_goUpOrDown_134 ?_ (by decide) (by decide)
                rw [show vab v - i = 0 by omega, vt] at hR
                refine ⟨rfl, ?_⟩
                rw [← hw, ← hR]
                dsimp only
                rw [e8, he, hu_u]
                split <;> first | rfl | (exfalso; omega)
              · skip
                refine x_aload_n C dX0_goUpOrDown_121 0 rfl ?_
                refine x_get C (v := vI v) fb (T := TX0) rfl kX0_goUpOrDown_1 2 (by decide) kX0_goUpOrDown_0 rfl dX0_goUpOrDown_122 ?_
                refine x_iconst C dX0_goUpOrDown_125 1 (by decide) ?_
                refine x_iadd C dX0_goUpOrDown_126 ?_
                refine x_goto (tgt := 131) C dX0_goUpOrDown_127 (by decide) ?_
                refine x_put C fb (T := TX0) rfl tyX0_ok nmX0 kX0_goUpOrDown_1 2 (by decide) kX0_goUpOrDown_0 rfl (fs' := [.ref as, vI c1, vI (v + 1), vI ((t1 : Nat) : Int), vI 1]) rfl rfl (by simp) rfl dX0_goUpOrDown_131 (x_hn (fun h10 e11 => ?_))
                have f12 : h10 b = some (eO 0 [.ref as, vI c1, vI (v + 1), vI ((t1 : Nat) : Int), vI 1]) := by rw [e11]; exact hu_s
                refine x_vret C G dX0_goUpOrDown_134 ?_ (by decide) (by decide)
                rw [show vab v - i = 0 by omega, vt] at hR
                refine ⟨rfl, ?_⟩
                rw [← hw, ← hR]
                dsimp only
                rw [e11, he, hu_u]
                split <;> first | rfl | (exfalso; omega)
            · skip
              refine x_aload_n C dX0_goUpOrDown_44 0 rfl ?_
              refine x_aload_n C dX0_goUpOrDown_45 1 rfl ?_
              refine x_aload_n C dX0_goUpOrDown_46 0 rfl ?_
              refine x_get C (v := vI c1) fb (T := TX0) rfl kX0_goUpOrDown_1 1 (by decide) kX0_goUpOrDown_2 rfl dX0_goUpOrDown_47 ?_
              refine x_iload_n C dX0_goUpOrDown_50 2 rfl ?_
              refine x_iadd C dX0_goUpOrDown_51 ?_
              refine x_callV C (n := 2) (qc := (RX0, TX0, 5)) (As := [.ref g, vI (c1 + w)]) (rest := []) (c_X0_isSolidIn fb fg fk (by omega) (by assumption) (by omega) (by omega)) gX0_goUpOrDown_X0_isSolidIn (by decide +kernel) fb rfl rfl rfl rfl (Nat.le_of_ble_eq_true rfl) ⟨by decide, by decide⟩ ⟨by decide, by decide⟩ dX0_goUpOrDown_52 (fun rv13 h14 hp15 => ?_)
              obtain ⟨rfl, e16⟩ := hp15
              obtain rfl := e16.symm
              have hbr := bI_01 (sol f al t1 (c1 + w))
              have hw2 : w = 12 ∨ w = -12 := by rw [hw]; split <;> simp
              refine x_if_eq (tgt := 86) C dX0_goUpOrDown_55 (by decide) (by omega) (fun c17 => ?_) (fun c17 => ?_)
              · skip
                refine x_aload_n C dX0_goUpOrDown_86 0 rfl ?_
                refine x_aload_n C dX0_goUpOrDown_87 1 rfl ?_
                refine x_aload_n C dX0_goUpOrDown_88 0 rfl ?_
                refine x_get C (v := vI c1) fb (T := TX0) rfl kX0_goUpOrDown_1 1 (by decide) kX0_goUpOrDown_2 rfl dX0_goUpOrDown_89 ?_
                refine x_iload_n C dX0_goUpOrDown_92 2 rfl ?_
                refine x_iadd C dX0_goUpOrDown_93 ?_
                refine x_callV C (n := 2) (qc := (RX0, TX0, 5)) (As := [.ref g, vI (c1 + w)]) (rest := []) (c_X0_comeTo fb fg fk fq (by omega) (by assumption) (by assumption)) gX0_goUpOrDown_X0_comeTo (by decide +kernel) fb rfl rfl rfl rfl (Nat.le_of_ble_eq_true rfl) ⟨by decide, by decide⟩ ⟨by decide, by decide⟩ dX0_goUpOrDown_94 (fun rv18 h19 hp20 => ?_)
                obtain ⟨rfl, e21⟩ := hp20
                have f22 : h19 b = some (eO 0 [.ref as, vI ((cm f (kbf f q) (c1 + w) (c1, t1, 1)).1), vI v, vI (((cm f (kbf f q) (c1 + w) (c1, t1, 1)).2.1 : Nat) : Int), vI ((cm f (kbf f q) (c1 + w) (c1, t1, 1)).2.2)]) := by rw [e21]; exact hu_s
                have hcm := cm_r (f := f) (p := c1 + w) (x := (c1, t1, 1)) hb9 ⟨hc1.1, hc1.2, ht1, by dsimp only; omega, by dsimp only; omega⟩
                obtain ⟨k1, k2, k3, k4, k5⟩ := hcm
                refine x_aload_n C dX0_goUpOrDown_97 0 rfl ?_
                refine x_get C (v := vI ((cm f (kbf f q) (c1 + w) (c1, t1, 1)).2.2)) f22 (T := TX0) rfl kX0_goUpOrDown_1 4 (by decide) kX0_goUpOrDown_3 rfl dX0_goUpOrDown_98 ?_
                refine x_iconst C dX0_goUpOrDown_101 1 (by decide) ?_
                refine x_icmp_eq (tgt := 106) C dX0_goUpOrDown_102 (by decide) (by omega) (by omega) (fun c23 => ?_) (fun c23 => ?_)
                · skip
                  refine x_iinc C (x := ((i : Nat) : Int)) (ls' := [(0, .ref b), (1, .ref g), (2, vI w), (3, vI ((vab v : Nat) : Int)), (4, vI ((((i : Nat) : Int)) + 1))]) dX0_goUpOrDown_106 4 rfl (by decide) rfl ?_
                  refine x_goto (tgt := 38) C dX0_goUpOrDown_109 (by decide) ?_
                  have n25 : nq g b := vnt fg fb (p := (3, 1)) (q := (3, 0)) rfl rfl (by decide)
                  have f24 : h19 g = some (eO 1 [.ref ak, .ref aq, vI ((al : Nat) : Int)]) := by rw [e21, hu_n n25]; exact fg
                  have n27 : nq ak b := vnt fk fb (p := (0, 96)) (q := (3, 0)) rfl rfl (by decide)
                  have f26 : h19 ak = some (eI D 96 f) := by rw [e21, hu_n n27]; exact fk
                  have n29 : nq aq b := vnt fq fb (p := (0, 3)) (q := (3, 0)) rfl rfl (by decide)
                  have f28 : h19 aq = some (eI D 3 q) := by rw [e21, hu_n n29]; exact fq
                  have n31 : nq as b := vnt fS fb (p := (0, 3)) (q := (3, 0)) rfl rfl (by decide)
                  have f30 : h19 as = some (eI D 3 S) := by rw [e21, hu_n n31]; exact fS
                  have hsol : ¬ sol f al t1 (c1 + w) := fun q9 => by have := bI_t q9; omega
                  have hs1 : (cm f (kbf f q) (c1 + w) (c1, t1, 1)).2.2 = 1 := by assumption
                  have hx1 : ((cm f (kbf f q) (c1 + w) (c1, t1, 1)).1, (cm f (kbf f q) (c1 + w) (c1, t1, 1)).2.1, (1 : Int)) = cm f (kbf f q) (c1 + w) (c1, t1, 1) := e3_1 hs1
                  exact ihLP (i + 1) ((cm f (kbf f q) (c1 + w) (c1, t1, 1)).2.1) ((cm f (kbf f q) (c1 + w) (c1, t1, 1)).1) h19 (by have q9 := f22; rw [hs1] at q9; exact q9) f24 f26 f28 f30 (by omega) (by omega) (⟨k1, k2⟩) (k3) (by rw [hx1, ← hR, show vab v - i = (vab v - (i + 1)) + 1 by omega, vt, if_neg hsol, if_pos hs1]) (by rw [e21, he, hu_u, hs1])
                · skip
                  refine x_vret C G dX0_goUpOrDown_105 ?_ (by decide) (by decide)
                  have hsol : ¬ sol f al t1 (c1 + w) := fun q9 => by have := bI_t q9; omega
                  rw [show vab v - i = (vab v - i - 1) + 1 by omega, vt, if_neg hsol, if_neg (by omega)] at hR
                  refine ⟨rfl, ?_⟩
                  rw [← hw, ← hR]
                  dsimp only
                  rw [e21, he, hu_u]
              · skip
                refine x_aload_n C dX0_goUpOrDown_58 0 rfl ?_
                refine x_iload_n C dX0_goUpOrDown_59 2 rfl ?_
                refine x_if_ge (tgt := 67) C dX0_goUpOrDown_60 (by decide) (by omega) (fun c32 => ?_) (fun c32 => ?_)
                · skip
                  refine x_aload_n C dX0_goUpOrDown_67 0 rfl ?_
                  refine x_aload_n C dX0_goUpOrDown_68 1 rfl ?_
                  refine x_aload_n C dX0_goUpOrDown_69 0 rfl ?_
                  refine x_get C (v := vI c1) fb (T := TX0) rfl kX0_goUpOrDown_1 1 (by decide) kX0_goUpOrDown_2 rfl dX0_goUpOrDown_70 ?_
                  refine x_iload_n C dX0_goUpOrDown_73 2 rfl ?_
                  refine x_iadd C dX0_goUpOrDown_74 ?_
                  refine x_callV C (n := 1) (qc := (RX1, TX1, 3)) (As := [vI (c1 + w)]) (rest := [.ref b, .ref b]) (c_X1_kindAt fg fk (by omega)) gX0_goUpOrDown_X1_kindAt (by decide +kernel) fg rfl rfl rfl rfl (Nat.le_of_ble_eq_true rfl) ⟨by decide, by decide⟩ ⟨by decide, by decide⟩ dX0_goUpOrDown_75 (fun rv33 h34 hp35 => ?_)
                  obtain ⟨rfl, e36⟩ := hp35
                  obtain rfl := e36.symm
                  have hka := kAt_r hf (c1 + w)
                  refine x_callV C (n := 1) (qc := (RX0, TX0, 5)) (As := [vI (kAt f (c1 + w))]) (rest := [.ref b]) (c_X0_strengthOf fb fS (by omega)) gX0_goUpOrDown_X0_strengthOf (by decide +kernel) fb rfl rfl rfl rfl (Nat.le_of_ble_eq_true rfl) ⟨by decide, by decide⟩ ⟨by decide, by decide⟩ dX0_goUpOrDown_78 (fun rv37 h38 hp39 => ?_)
                  obtain ⟨rfl, e40⟩ := hp39
                  obtain rfl := e40.symm
                  refine x_ineg C dX0_goUpOrDown_81 ?_
                  refine x_put C fb (T := TX0) rfl tyX0_ok nmX0 kX0_goUpOrDown_1 2 (by decide) kX0_goUpOrDown_0 rfl (fs' := [.ref as, vI c1, vI (-(strK S (kAt f (c1 + w)))), vI ((t1 : Nat) : Int), vI 1]) rfl rfl (by simp) rfl dX0_goUpOrDown_82 (x_hn (fun h41 e42 => ?_))
                  have f43 : h41 b = some (eO 0 [.ref as, vI c1, vI (-(strK S (kAt f (c1 + w)))), vI ((t1 : Nat) : Int), vI 1]) := by rw [e42]; exact hu_s
                  refine x_vret C G dX0_goUpOrDown_85 ?_ (by decide) (by decide)
                  have hsol : sol f al t1 (c1 + w) := bI_ne.mp (by omega)
                  rw [show vab v - i = (vab v - i - 1) + 1 by omega, vt, if_pos hsol] at hR
                  refine ⟨rfl, ?_⟩
                  rw [← hw, ← hR]
                  dsimp only
                  rw [e42, he, hu_u]
                  split <;> first | rfl | (exfalso; omega)
                · skip
                  refine x_iconst C dX0_goUpOrDown_63 0 (by decide) ?_
                  refine x_goto (tgt := 82) C dX0_goUpOrDown_64 (by decide) ?_
                  refine x_put C fb (T := TX0) rfl tyX0_ok nmX0 kX0_goUpOrDown_1 2 (by decide) kX0_goUpOrDown_0 rfl (fs' := [.ref as, vI c1, vI 0, vI ((t1 : Nat) : Int), vI 1]) rfl rfl (by simp) rfl dX0_goUpOrDown_82 (x_hn (fun h44 e45 => ?_))
                  have f46 : h44 b = some (eO 0 [.ref as, vI c1, vI 0, vI ((t1 : Nat) : Int), vI 1]) := by rw [e45]; exact hu_s
                  refine x_vret C G dX0_goUpOrDown_85 ?_ (by decide) (by decide)
                  have hsol : sol f al t1 (c1 + w) := bI_ne.mp (by omega)
                  rw [show vab v - i = (vab v - i - 1) + 1 by omega, vt, if_pos hsol] at hR
                  refine ⟨rfl, ?_⟩
                  rw [← hw, ← hR]
                  dsimp only
                  rw [e45, he, hu_u]
                  split <;> first | rfl | (exfalso; omega)
        exact LP (vab v + 1) 0 t c h hb hg hk hqq hSS (by omega) (by omega) (by omega) (by omega) (by rw [Nat.sub_zero]) (by rw [hu_i hb])
      · skip
        refine x_aload_n C dX0_goUpOrDown_22 0 rfl ?_
        refine x_get C (v := vI v) hb (T := TX0) rfl kX0_goUpOrDown_1 2 (by decide) kX0_goUpOrDown_0 rfl dX0_goUpOrDown_23 ?_
        refine x_ineg C dX0_goUpOrDown_26 ?_
        refine x_topv (show -v = ((vab v : Nat) : Int) from by unfold vab; rw [if_pos (by omega)]; omega) ?_
        refine x_goto (tgt := 34) C dX0_goUpOrDown_27 (by decide) ?_
        refine x_istore_n C (ls' := [(0, .ref b), (1, .ref g), (2, vI w), (3, vI ((vab v : Nat) : Int))]) dX0_goUpOrDown_34 (by decide) rfl ?_
        refine x_iconst C dX0_goUpOrDown_35 0 (by decide) ?_
        refine x_istore C (ls' := [(0, .ref b), (1, .ref g), (2, vI w), (3, vI ((vab v : Nat) : Int)), (4, vI 0)]) dX0_goUpOrDown_36 (by decide) rfl ?_
        have LP : ∀ (n : Nat) (i t1 : Nat) (c1 : Int) (h47 : vh)  (fb : h47 b = some (eO 0 [.ref as, vI c1, vI v, vI ((t1 : Nat) : Int), vI 1])) (fg : h47 g = some (eO 1 [.ref ak, .ref aq, vI ((al : Nat) : Int)])) (fk : h47 ak = some (eI D 96 f)) (fq : h47 aq = some (eI D 3 q)) (fS : h47 as = some (eI D 3 S)) (hi : i ≤ vab v) (hm : vab v - i < n) (hc1 : 0 ≤ c1 ∧ c1 ≤ 95) (ht1 : t1 < 8) (hR : vt f (kbf f q) al S w v (vab v - i) (c1, t1, 1) = vt f (kbf f q) al S w v (vab v) (c, t, 1)) (he : h47 = hu h b (eO 0 [.ref as, vI c1, vI v, vI ((t1 : Nat) : Int), vI 1])), X κ 0 0 h47 [(0, .ref b), (1, .ref g), (2, vI w), (3, vI ((vab v : Nat) : Int)), (4, vI ((i : Nat) : Int))] 38 [] := by
          intro n
          induction n with
          | zero => intro i t1 c1 h47 fb fg fk fq fS hi hm hc1 ht1 hR he; exfalso; omega
          | succ n ihLP =>
            intro i t1 c1 h47 fb fg fk fq fS hi hm hc1 ht1 hR he
            have hw2 : w = 12 ∨ w = -12 := by rw [hw]; split <;> simp
            have hva : vab v ≤ 4 := by unfold vab; split <;> omega
            refine x_iload C dX0_goUpOrDown_38 4 rfl ?_
            refine x_iload_n C dX0_goUpOrDown_40 3 rfl ?_
            refine x_icmp_ge (tgt := 112) C dX0_goUpOrDown_41 (by decide) (by omega) (by omega) (fun c48 => ?_) (fun c48 => ?_)
            · skip
              refine x_aload_n C dX0_goUpOrDown_112 0 rfl ?_
              refine x_aload_n C dX0_goUpOrDown_113 0 rfl ?_
              refine x_get C (v := vI v) fb (T := TX0) rfl kX0_goUpOrDown_1 2 (by decide) kX0_goUpOrDown_0 rfl dX0_goUpOrDown_114 ?_
              refine x_iconst C dX0_goUpOrDown_117 3 (by decide) ?_
              refine x_icmp_ge (tgt := 130) C dX0_goUpOrDown_118 (by decide) (by omega) (by omega) (fun c49 => ?_) (fun c49 => ?_)
              · skip
                refine x_iconst C dX0_goUpOrDown_130 3 (by decide) ?_
                refine x_put C fb (T := TX0) rfl tyX0_ok nmX0 kX0_goUpOrDown_1 2 (by decide) kX0_goUpOrDown_0 rfl (fs' := [.ref as, vI c1, vI 3, vI ((t1 : Nat) : Int), vI 1]) rfl rfl (by simp) rfl dX0_goUpOrDown_131 (x_hn (fun h50 e51 => ?_))
                have f52 : h50 b = some (eO 0 [.ref as, vI c1, vI 3, vI ((t1 : Nat) : Int), vI 1]) := by rw [e51]; exact hu_s
                refine x_vret C G dX0_goUpOrDown_134 ?_ (by decide) (by decide)
                rw [show vab v - i = 0 by omega, vt] at hR
                refine ⟨rfl, ?_⟩
                rw [← hw, ← hR]
                dsimp only
                rw [e51, he, hu_u]
                split <;> first | rfl | (exfalso; omega)
              · skip
                refine x_aload_n C dX0_goUpOrDown_121 0 rfl ?_
                refine x_get C (v := vI v) fb (T := TX0) rfl kX0_goUpOrDown_1 2 (by decide) kX0_goUpOrDown_0 rfl dX0_goUpOrDown_122 ?_
                refine x_iconst C dX0_goUpOrDown_125 1 (by decide) ?_
                refine x_iadd C dX0_goUpOrDown_126 ?_
                refine x_goto (tgt := 131) C dX0_goUpOrDown_127 (by decide) ?_
                refine x_put C fb (T := TX0) rfl tyX0_ok nmX0 kX0_goUpOrDown_1 2 (by decide) kX0_goUpOrDown_0 rfl (fs' := [.ref as, vI c1, vI (v + 1), vI ((t1 : Nat) : Int), vI 1]) rfl rfl (by simp) rfl dX0_goUpOrDown_131 (x_hn (fun h53 e54 => ?_))
                have f55 : h53 b = some (eO 0 [.ref as, vI c1, vI (v + 1), vI ((t1 : Nat) : Int), vI 1]) := by rw [e54]; exact hu_s
                refine x_vret C G dX0_goUpOrDown_134 ?_ (by decide) (by decide)
                rw [show vab v - i = 0 by omega, vt] at hR
                refine ⟨rfl, ?_⟩
                rw [← hw, ← hR]
                dsimp only
                rw [e54, he, hu_u]
                split <;> first | rfl | (exfalso; omega)
            · skip
              refine x_aload_n C dX0_goUpOrDown_44 0 rfl ?_
              refine x_aload_n C dX0_goUpOrDown_45 1 rfl ?_
              refine x_aload_n C dX0_goUpOrDown_46 0 rfl ?_
              refine x_get C (v := vI c1) fb (T := TX0) rfl kX0_goUpOrDown_1 1 (by decide) kX0_goUpOrDown_2 rfl dX0_goUpOrDown_47 ?_
              refine x_iload_n C dX0_goUpOrDown_50 2 rfl ?_
              refine x_iadd C dX0_goUpOrDown_51 ?_
              refine x_callV C (n := 2) (qc := (RX0, TX0, 5)) (As := [.ref g, vI (c1 + w)]) (rest := []) (c_X0_isSolidIn fb fg fk (by omega) (by assumption) (by omega) (by omega)) gX0_goUpOrDown_X0_isSolidIn (by decide +kernel) fb rfl rfl rfl rfl (Nat.le_of_ble_eq_true rfl) ⟨by decide, by decide⟩ ⟨by decide, by decide⟩ dX0_goUpOrDown_52 (fun rv56 h57 hp58 => ?_)
              obtain ⟨rfl, e59⟩ := hp58
              obtain rfl := e59.symm
              have hbr := bI_01 (sol f al t1 (c1 + w))
              have hw2 : w = 12 ∨ w = -12 := by rw [hw]; split <;> simp
              refine x_if_eq (tgt := 86) C dX0_goUpOrDown_55 (by decide) (by omega) (fun c60 => ?_) (fun c60 => ?_)
              · skip
                refine x_aload_n C dX0_goUpOrDown_86 0 rfl ?_
                refine x_aload_n C dX0_goUpOrDown_87 1 rfl ?_
                refine x_aload_n C dX0_goUpOrDown_88 0 rfl ?_
                refine x_get C (v := vI c1) fb (T := TX0) rfl kX0_goUpOrDown_1 1 (by decide) kX0_goUpOrDown_2 rfl dX0_goUpOrDown_89 ?_
                refine x_iload_n C dX0_goUpOrDown_92 2 rfl ?_
                refine x_iadd C dX0_goUpOrDown_93 ?_
                refine x_callV C (n := 2) (qc := (RX0, TX0, 5)) (As := [.ref g, vI (c1 + w)]) (rest := []) (c_X0_comeTo fb fg fk fq (by omega) (by assumption) (by assumption)) gX0_goUpOrDown_X0_comeTo (by decide +kernel) fb rfl rfl rfl rfl (Nat.le_of_ble_eq_true rfl) ⟨by decide, by decide⟩ ⟨by decide, by decide⟩ dX0_goUpOrDown_94 (fun rv61 h62 hp63 => ?_)
                obtain ⟨rfl, e64⟩ := hp63
                have f65 : h62 b = some (eO 0 [.ref as, vI ((cm f (kbf f q) (c1 + w) (c1, t1, 1)).1), vI v, vI (((cm f (kbf f q) (c1 + w) (c1, t1, 1)).2.1 : Nat) : Int), vI ((cm f (kbf f q) (c1 + w) (c1, t1, 1)).2.2)]) := by rw [e64]; exact hu_s
                have hcm := cm_r (f := f) (p := c1 + w) (x := (c1, t1, 1)) hb9 ⟨hc1.1, hc1.2, ht1, by dsimp only; omega, by dsimp only; omega⟩
                obtain ⟨k1, k2, k3, k4, k5⟩ := hcm
                refine x_aload_n C dX0_goUpOrDown_97 0 rfl ?_
                refine x_get C (v := vI ((cm f (kbf f q) (c1 + w) (c1, t1, 1)).2.2)) f65 (T := TX0) rfl kX0_goUpOrDown_1 4 (by decide) kX0_goUpOrDown_3 rfl dX0_goUpOrDown_98 ?_
                refine x_iconst C dX0_goUpOrDown_101 1 (by decide) ?_
                refine x_icmp_eq (tgt := 106) C dX0_goUpOrDown_102 (by decide) (by omega) (by omega) (fun c66 => ?_) (fun c66 => ?_)
                · skip
                  refine x_iinc C (x := ((i : Nat) : Int)) (ls' := [(0, .ref b), (1, .ref g), (2, vI w), (3, vI ((vab v : Nat) : Int)), (4, vI ((((i : Nat) : Int)) + 1))]) dX0_goUpOrDown_106 4 rfl (by decide) rfl ?_
                  refine x_goto (tgt := 38) C dX0_goUpOrDown_109 (by decide) ?_
                  have n68 : nq g b := vnt fg fb (p := (3, 1)) (q := (3, 0)) rfl rfl (by decide)
                  have f67 : h62 g = some (eO 1 [.ref ak, .ref aq, vI ((al : Nat) : Int)]) := by rw [e64, hu_n n68]; exact fg
                  have n70 : nq ak b := vnt fk fb (p := (0, 96)) (q := (3, 0)) rfl rfl (by decide)
                  have f69 : h62 ak = some (eI D 96 f) := by rw [e64, hu_n n70]; exact fk
                  have n72 : nq aq b := vnt fq fb (p := (0, 3)) (q := (3, 0)) rfl rfl (by decide)
                  have f71 : h62 aq = some (eI D 3 q) := by rw [e64, hu_n n72]; exact fq
                  have n74 : nq as b := vnt fS fb (p := (0, 3)) (q := (3, 0)) rfl rfl (by decide)
                  have f73 : h62 as = some (eI D 3 S) := by rw [e64, hu_n n74]; exact fS
                  have hsol : ¬ sol f al t1 (c1 + w) := fun q9 => by have := bI_t q9; omega
                  have hs1 : (cm f (kbf f q) (c1 + w) (c1, t1, 1)).2.2 = 1 := by assumption
                  have hx1 : ((cm f (kbf f q) (c1 + w) (c1, t1, 1)).1, (cm f (kbf f q) (c1 + w) (c1, t1, 1)).2.1, (1 : Int)) = cm f (kbf f q) (c1 + w) (c1, t1, 1) := e3_1 hs1
                  exact ihLP (i + 1) ((cm f (kbf f q) (c1 + w) (c1, t1, 1)).2.1) ((cm f (kbf f q) (c1 + w) (c1, t1, 1)).1) h62 (by have q9 := f65; rw [hs1] at q9; exact q9) f67 f69 f71 f73 (by omega) (by omega) (⟨k1, k2⟩) (k3) (by rw [hx1, ← hR, show vab v - i = (vab v - (i + 1)) + 1 by omega, vt, if_neg hsol, if_pos hs1]) (by rw [e64, he, hu_u, hs1])
                · skip
                  refine x_vret C G dX0_goUpOrDown_105 ?_ (by decide) (by decide)
                  have hsol : ¬ sol f al t1 (c1 + w) := fun q9 => by have := bI_t q9; omega
                  rw [show vab v - i = (vab v - i - 1) + 1 by omega, vt, if_neg hsol, if_neg (by omega)] at hR
                  refine ⟨rfl, ?_⟩
                  rw [← hw, ← hR]
                  dsimp only
                  rw [e64, he, hu_u]
              · skip
                refine x_aload_n C dX0_goUpOrDown_58 0 rfl ?_
                refine x_iload_n C dX0_goUpOrDown_59 2 rfl ?_
                refine x_if_ge (tgt := 67) C dX0_goUpOrDown_60 (by decide) (by omega) (fun c75 => ?_) (fun c75 => ?_)
                · skip
                  refine x_aload_n C dX0_goUpOrDown_67 0 rfl ?_
                  refine x_aload_n C dX0_goUpOrDown_68 1 rfl ?_
                  refine x_aload_n C dX0_goUpOrDown_69 0 rfl ?_
                  refine x_get C (v := vI c1) fb (T := TX0) rfl kX0_goUpOrDown_1 1 (by decide) kX0_goUpOrDown_2 rfl dX0_goUpOrDown_70 ?_
                  refine x_iload_n C dX0_goUpOrDown_73 2 rfl ?_
                  refine x_iadd C dX0_goUpOrDown_74 ?_
                  refine x_callV C (n := 1) (qc := (RX1, TX1, 3)) (As := [vI (c1 + w)]) (rest := [.ref b, .ref b]) (c_X1_kindAt fg fk (by omega)) gX0_goUpOrDown_X1_kindAt (by decide +kernel) fg rfl rfl rfl rfl (Nat.le_of_ble_eq_true rfl) ⟨by decide, by decide⟩ ⟨by decide, by decide⟩ dX0_goUpOrDown_75 (fun rv76 h77 hp78 => ?_)
                  obtain ⟨rfl, e79⟩ := hp78
                  obtain rfl := e79.symm
                  have hka := kAt_r hf (c1 + w)
                  refine x_callV C (n := 1) (qc := (RX0, TX0, 5)) (As := [vI (kAt f (c1 + w))]) (rest := [.ref b]) (c_X0_strengthOf fb fS (by omega)) gX0_goUpOrDown_X0_strengthOf (by decide +kernel) fb rfl rfl rfl rfl (Nat.le_of_ble_eq_true rfl) ⟨by decide, by decide⟩ ⟨by decide, by decide⟩ dX0_goUpOrDown_78 (fun rv80 h81 hp82 => ?_)
                  obtain ⟨rfl, e83⟩ := hp82
                  obtain rfl := e83.symm
                  refine x_ineg C dX0_goUpOrDown_81 ?_
                  refine x_put C fb (T := TX0) rfl tyX0_ok nmX0 kX0_goUpOrDown_1 2 (by decide) kX0_goUpOrDown_0 rfl (fs' := [.ref as, vI c1, vI (-(strK S (kAt f (c1 + w)))), vI ((t1 : Nat) : Int), vI 1]) rfl rfl (by simp) rfl dX0_goUpOrDown_82 (x_hn (fun h84 e85 => ?_))
                  have f86 : h84 b = some (eO 0 [.ref as, vI c1, vI (-(strK S (kAt f (c1 + w)))), vI ((t1 : Nat) : Int), vI 1]) := by rw [e85]; exact hu_s
                  refine x_vret C G dX0_goUpOrDown_85 ?_ (by decide) (by decide)
                  have hsol : sol f al t1 (c1 + w) := bI_ne.mp (by omega)
                  rw [show vab v - i = (vab v - i - 1) + 1 by omega, vt, if_pos hsol] at hR
                  refine ⟨rfl, ?_⟩
                  rw [← hw, ← hR]
                  dsimp only
                  rw [e85, he, hu_u]
                  split <;> first | rfl | (exfalso; omega)
                · skip
                  refine x_iconst C dX0_goUpOrDown_63 0 (by decide) ?_
                  refine x_goto (tgt := 82) C dX0_goUpOrDown_64 (by decide) ?_
                  refine x_put C fb (T := TX0) rfl tyX0_ok nmX0 kX0_goUpOrDown_1 2 (by decide) kX0_goUpOrDown_0 rfl (fs' := [.ref as, vI c1, vI 0, vI ((t1 : Nat) : Int), vI 1]) rfl rfl (by simp) rfl dX0_goUpOrDown_82 (x_hn (fun h87 e88 => ?_))
                  have f89 : h87 b = some (eO 0 [.ref as, vI c1, vI 0, vI ((t1 : Nat) : Int), vI 1]) := by rw [e88]; exact hu_s
                  refine x_vret C G dX0_goUpOrDown_85 ?_ (by decide) (by decide)
                  have hsol : sol f al t1 (c1 + w) := bI_ne.mp (by omega)
                  rw [show vab v - i = (vab v - i - 1) + 1 by omega, vt, if_pos hsol] at hR
                  refine ⟨rfl, ?_⟩
                  rw [← hw, ← hR]
                  dsimp only
                  rw [e88, he, hu_u]
                  split <;> first | rfl | (exfalso; omega)
        exact LP (vab v + 1) 0 t c h hb hg hk hqq hSS (by omega) (by omega) (by omega) (by omega) (by rw [Nat.sub_zero]) (by rw [hu_i hb])
    exact WAY 12 (by split <;> omega)
  · skip
    refine x_bipush C dX0_goUpOrDown_7 (-12) (by decide) ?_
    refine x_goto (tgt := 14) C dX0_goUpOrDown_9 (by decide) ?_
    refine x_istore_n C (ls' := [(0, .ref b), (1, .ref g), (2, vI (-12))]) dX0_goUpOrDown_14 (by decide) rfl ?_
    have WAY : ∀ (w : Int)   (hw : w = if v < 0 then -12 else 12), X κ 0 0 h [(0, .ref b), (1, .ref g), (2, vI w)] 15 [] := by
      intro w hw
      have hva : vab v ≤ 4 := by unfold vab; split <;> omega
      refine x_aload_n C dX0_goUpOrDown_15 0 rfl ?_
      refine x_get C (v := vI v) hb (T := TX0) rfl kX0_goUpOrDown_1 2 (by decide) kX0_goUpOrDown_0 rfl dX0_goUpOrDown_16 ?_
      refine x_if_ge (tgt := 30) C dX0_goUpOrDown_19 (by decide) (by omega) (fun c91 => ?_) (fun c91 => ?_)
      · skip
        refine x_aload_n C dX0_goUpOrDown_30 0 rfl ?_
        refine x_get C (v := vI v) hb (T := TX0) rfl kX0_goUpOrDown_1 2 (by decide) kX0_goUpOrDown_0 rfl dX0_goUpOrDown_31 ?_
        refine x_topv (show v = ((vab v : Nat) : Int) from by unfold vab; rw [if_neg (by omega)]; omega) ?_
        refine x_istore_n C (ls' := [(0, .ref b), (1, .ref g), (2, vI w), (3, vI ((vab v : Nat) : Int))]) dX0_goUpOrDown_34 (by decide) rfl ?_
        refine x_iconst C dX0_goUpOrDown_35 0 (by decide) ?_
        refine x_istore C (ls' := [(0, .ref b), (1, .ref g), (2, vI w), (3, vI ((vab v : Nat) : Int)), (4, vI 0)]) dX0_goUpOrDown_36 (by decide) rfl ?_
        have LP : ∀ (n : Nat) (i t1 : Nat) (c1 : Int) (h92 : vh)  (fb : h92 b = some (eO 0 [.ref as, vI c1, vI v, vI ((t1 : Nat) : Int), vI 1])) (fg : h92 g = some (eO 1 [.ref ak, .ref aq, vI ((al : Nat) : Int)])) (fk : h92 ak = some (eI D 96 f)) (fq : h92 aq = some (eI D 3 q)) (fS : h92 as = some (eI D 3 S)) (hi : i ≤ vab v) (hm : vab v - i < n) (hc1 : 0 ≤ c1 ∧ c1 ≤ 95) (ht1 : t1 < 8) (hR : vt f (kbf f q) al S w v (vab v - i) (c1, t1, 1) = vt f (kbf f q) al S w v (vab v) (c, t, 1)) (he : h92 = hu h b (eO 0 [.ref as, vI c1, vI v, vI ((t1 : Nat) : Int), vI 1])), X κ 0 0 h92 [(0, .ref b), (1, .ref g), (2, vI w), (3, vI ((vab v : Nat) : Int)), (4, vI ((i : Nat) : Int))] 38 [] := by
          intro n
          induction n with
          | zero => intro i t1 c1 h92 fb fg fk fq fS hi hm hc1 ht1 hR he; exfalso; omega
          | succ n ihLP =>
            intro i t1 c1 h92 fb fg fk fq fS hi hm hc1 ht1 hR he
            have hw2 : w = 12 ∨ w = -12 := by rw [hw]; split <;> simp
            have hva : vab v ≤ 4 := by unfold vab; split <;> omega
            refine x_iload C dX0_goUpOrDown_38 4 rfl ?_
            refine x_iload_n C dX0_goUpOrDown_40 3 rfl ?_
            refine x_icmp_ge (tgt := 112) C dX0_goUpOrDown_41 (by decide) (by omega) (by omega) (fun c93 => ?_) (fun c93 => ?_)
            · skip
              refine x_aload_n C dX0_goUpOrDown_112 0 rfl ?_
              refine x_aload_n C dX0_goUpOrDown_113 0 rfl ?_
              refine x_get C (v := vI v) fb (T := TX0) rfl kX0_goUpOrDown_1 2 (by decide) kX0_goUpOrDown_0 rfl dX0_goUpOrDown_114 ?_
              refine x_iconst C dX0_goUpOrDown_117 3 (by decide) ?_
              refine x_icmp_ge (tgt := 130) C dX0_goUpOrDown_118 (by decide) (by omega) (by omega) (fun c94 => ?_) (fun c94 => ?_)
              · skip
                refine x_iconst C dX0_goUpOrDown_130 3 (by decide) ?_
                refine x_put C fb (T := TX0) rfl tyX0_ok nmX0 kX0_goUpOrDown_1 2 (by decide) kX0_goUpOrDown_0 rfl (fs' := [.ref as, vI c1, vI 3, vI ((t1 : Nat) : Int), vI 1]) rfl rfl (by simp) rfl dX0_goUpOrDown_131 (x_hn (fun h95 e96 => ?_))
                have f97 : h95 b = some (eO 0 [.ref as, vI c1, vI 3, vI ((t1 : Nat) : Int), vI 1]) := by rw [e96]; exact hu_s
                refine x_vret C G dX0_goUpOrDown_134 ?_ (by decide) (by decide)
                rw [show vab v - i = 0 by omega, vt] at hR
                refine ⟨rfl, ?_⟩
                rw [← hw, ← hR]
                dsimp only
                rw [e96, he, hu_u]
                split <;> first | rfl | (exfalso; omega)
              · skip
                refine x_aload_n C dX0_goUpOrDown_121 0 rfl ?_
                refine x_get C (v := vI v) fb (T := TX0) rfl kX0_goUpOrDown_1 2 (by decide) kX0_goUpOrDown_0 rfl dX0_goUpOrDown_122 ?_
                refine x_iconst C dX0_goUpOrDown_125 1 (by decide) ?_
                refine x_iadd C dX0_goUpOrDown_126 ?_
                refine x_goto (tgt := 131) C dX0_goUpOrDown_127 (by decide) ?_
                refine x_put C fb (T := TX0) rfl tyX0_ok nmX0 kX0_goUpOrDown_1 2 (by decide) kX0_goUpOrDown_0 rfl (fs' := [.ref as, vI c1, vI (v + 1), vI ((t1 : Nat) : Int), vI 1]) rfl rfl (by simp) rfl dX0_goUpOrDown_131 (x_hn (fun h98 e99 => ?_))
                have f100 : h98 b = some (eO 0 [.ref as, vI c1, vI (v + 1), vI ((t1 : Nat) : Int), vI 1]) := by rw [e99]; exact hu_s
                refine x_vret C G dX0_goUpOrDown_134 ?_ (by decide) (by decide)
                rw [show vab v - i = 0 by omega, vt] at hR
                refine ⟨rfl, ?_⟩
                rw [← hw, ← hR]
                dsimp only
                rw [e99, he, hu_u]
                split <;> first | rfl | (exfalso; omega)
            · skip
              refine x_aload_n C dX0_goUpOrDown_44 0 rfl ?_
              refine x_aload_n C dX0_goUpOrDown_45 1 rfl ?_
              refine x_aload_n C dX0_goUpOrDown_46 0 rfl ?_
              refine x_get C (v := vI c1) fb (T := TX0) rfl kX0_goUpOrDown_1 1 (by decide) kX0_goUpOrDown_2 rfl dX0_goUpOrDown_47 ?_
              refine x_iload_n C dX0_goUpOrDown_50 2 rfl ?_
              refine x_iadd C dX0_goUpOrDown_51 ?_
              refine x_callV C (n := 2) (qc := (RX0, TX0, 5)) (As := [.ref g, vI (c1 + w)]) (rest := []) (c_X0_isSolidIn fb fg fk (by omega) (by assumption) (by omega) (by omega)) gX0_goUpOrDown_X0_isSolidIn (by decide +kernel) fb rfl rfl rfl rfl (Nat.le_of_ble_eq_true rfl) ⟨by decide, by decide⟩ ⟨by decide, by decide⟩ dX0_goUpOrDown_52 (fun rv101 h102 hp103 => ?_)
              obtain ⟨rfl, e104⟩ := hp103
              obtain rfl := e104.symm
              have hbr := bI_01 (sol f al t1 (c1 + w))
              have hw2 : w = 12 ∨ w = -12 := by rw [hw]; split <;> simp
              refine x_if_eq (tgt := 86) C dX0_goUpOrDown_55 (by decide) (by omega) (fun c105 => ?_) (fun c105 => ?_)
              · skip
                refine x_aload_n C dX0_goUpOrDown_86 0 rfl ?_
                refine x_aload_n C dX0_goUpOrDown_87 1 rfl ?_
                refine x_aload_n C dX0_goUpOrDown_88 0 rfl ?_
                refine x_get C (v := vI c1) fb (T := TX0) rfl kX0_goUpOrDown_1 1 (by decide) kX0_goUpOrDown_2 rfl dX0_goUpOrDown_89 ?_
                refine x_iload_n C dX0_goUpOrDown_92 2 rfl ?_
                refine x_iadd C dX0_goUpOrDown_93 ?_
                refine x_callV C (n := 2) (qc := (RX0, TX0, 5)) (As := [.ref g, vI (c1 + w)]) (rest := []) (c_X0_comeTo fb fg fk fq (by omega) (by assumption) (by assumption)) gX0_goUpOrDown_X0_comeTo (by decide +kernel) fb rfl rfl rfl rfl (Nat.le_of_ble_eq_true rfl) ⟨by decide, by decide⟩ ⟨by decide, by decide⟩ dX0_goUpOrDown_94 (fun rv106 h107 hp108 => ?_)
                obtain ⟨rfl, e109⟩ := hp108
                have f110 : h107 b = some (eO 0 [.ref as, vI ((cm f (kbf f q) (c1 + w) (c1, t1, 1)).1), vI v, vI (((cm f (kbf f q) (c1 + w) (c1, t1, 1)).2.1 : Nat) : Int), vI ((cm f (kbf f q) (c1 + w) (c1, t1, 1)).2.2)]) := by rw [e109]; exact hu_s
                have hcm := cm_r (f := f) (p := c1 + w) (x := (c1, t1, 1)) hb9 ⟨hc1.1, hc1.2, ht1, by dsimp only; omega, by dsimp only; omega⟩
                obtain ⟨k1, k2, k3, k4, k5⟩ := hcm
                refine x_aload_n C dX0_goUpOrDown_97 0 rfl ?_
                refine x_get C (v := vI ((cm f (kbf f q) (c1 + w) (c1, t1, 1)).2.2)) f110 (T := TX0) rfl kX0_goUpOrDown_1 4 (by decide) kX0_goUpOrDown_3 rfl dX0_goUpOrDown_98 ?_
                refine x_iconst C dX0_goUpOrDown_101 1 (by decide) ?_
                refine x_icmp_eq (tgt := 106) C dX0_goUpOrDown_102 (by decide) (by omega) (by omega) (fun c111 => ?_) (fun c111 => ?_)
                · skip
                  refine x_iinc C (x := ((i : Nat) : Int)) (ls' := [(0, .ref b), (1, .ref g), (2, vI w), (3, vI ((vab v : Nat) : Int)), (4, vI ((((i : Nat) : Int)) + 1))]) dX0_goUpOrDown_106 4 rfl (by decide) rfl ?_
                  refine x_goto (tgt := 38) C dX0_goUpOrDown_109 (by decide) ?_
                  have n113 : nq g b := vnt fg fb (p := (3, 1)) (q := (3, 0)) rfl rfl (by decide)
                  have f112 : h107 g = some (eO 1 [.ref ak, .ref aq, vI ((al : Nat) : Int)]) := by rw [e109, hu_n n113]; exact fg
                  have n115 : nq ak b := vnt fk fb (p := (0, 96)) (q := (3, 0)) rfl rfl (by decide)
                  have f114 : h107 ak = some (eI D 96 f) := by rw [e109, hu_n n115]; exact fk
                  have n117 : nq aq b := vnt fq fb (p := (0, 3)) (q := (3, 0)) rfl rfl (by decide)
                  have f116 : h107 aq = some (eI D 3 q) := by rw [e109, hu_n n117]; exact fq
                  have n119 : nq as b := vnt fS fb (p := (0, 3)) (q := (3, 0)) rfl rfl (by decide)
                  have f118 : h107 as = some (eI D 3 S) := by rw [e109, hu_n n119]; exact fS
                  have hsol : ¬ sol f al t1 (c1 + w) := fun q9 => by have := bI_t q9; omega
                  have hs1 : (cm f (kbf f q) (c1 + w) (c1, t1, 1)).2.2 = 1 := by assumption
                  have hx1 : ((cm f (kbf f q) (c1 + w) (c1, t1, 1)).1, (cm f (kbf f q) (c1 + w) (c1, t1, 1)).2.1, (1 : Int)) = cm f (kbf f q) (c1 + w) (c1, t1, 1) := e3_1 hs1
                  exact ihLP (i + 1) ((cm f (kbf f q) (c1 + w) (c1, t1, 1)).2.1) ((cm f (kbf f q) (c1 + w) (c1, t1, 1)).1) h107 (by have q9 := f110; rw [hs1] at q9; exact q9) f112 f114 f116 f118 (by omega) (by omega) (⟨k1, k2⟩) (k3) (by rw [hx1, ← hR, show vab v - i = (vab v - (i + 1)) + 1 by omega, vt, if_neg hsol, if_pos hs1]) (by rw [e109, he, hu_u, hs1])
                · skip
                  refine x_vret C G dX0_goUpOrDown_105 ?_ (by decide) (by decide)
                  have hsol : ¬ sol f al t1 (c1 + w) := fun q9 => by have := bI_t q9; omega
                  rw [show vab v - i = (vab v - i - 1) + 1 by omega, vt, if_neg hsol, if_neg (by omega)] at hR
                  refine ⟨rfl, ?_⟩
                  rw [← hw, ← hR]
                  dsimp only
                  rw [e109, he, hu_u]
              · skip
                refine x_aload_n C dX0_goUpOrDown_58 0 rfl ?_
                refine x_iload_n C dX0_goUpOrDown_59 2 rfl ?_
                refine x_if_ge (tgt := 67) C dX0_goUpOrDown_60 (by decide) (by omega) (fun c120 => ?_) (fun c120 => ?_)
                · skip
                  refine x_aload_n C dX0_goUpOrDown_67 0 rfl ?_
                  refine x_aload_n C dX0_goUpOrDown_68 1 rfl ?_
                  refine x_aload_n C dX0_goUpOrDown_69 0 rfl ?_
                  refine x_get C (v := vI c1) fb (T := TX0) rfl kX0_goUpOrDown_1 1 (by decide) kX0_goUpOrDown_2 rfl dX0_goUpOrDown_70 ?_
                  refine x_iload_n C dX0_goUpOrDown_73 2 rfl ?_
                  refine x_iadd C dX0_goUpOrDown_74 ?_
                  refine x_callV C (n := 1) (qc := (RX1, TX1, 3)) (As := [vI (c1 + w)]) (rest := [.ref b, .ref b]) (c_X1_kindAt fg fk (by omega)) gX0_goUpOrDown_X1_kindAt (by decide +kernel) fg rfl rfl rfl rfl (Nat.le_of_ble_eq_true rfl) ⟨by decide, by decide⟩ ⟨by decide, by decide⟩ dX0_goUpOrDown_75 (fun rv121 h122 hp123 => ?_)
                  obtain ⟨rfl, e124⟩ := hp123
                  obtain rfl := e124.symm
                  have hka := kAt_r hf (c1 + w)
                  refine x_callV C (n := 1) (qc := (RX0, TX0, 5)) (As := [vI (kAt f (c1 + w))]) (rest := [.ref b]) (c_X0_strengthOf fb fS (by omega)) gX0_goUpOrDown_X0_strengthOf (by decide +kernel) fb rfl rfl rfl rfl (Nat.le_of_ble_eq_true rfl) ⟨by decide, by decide⟩ ⟨by decide, by decide⟩ dX0_goUpOrDown_78 (fun rv125 h126 hp127 => ?_)
                  obtain ⟨rfl, e128⟩ := hp127
                  obtain rfl := e128.symm
                  refine x_ineg C dX0_goUpOrDown_81 ?_
                  refine x_put C fb (T := TX0) rfl tyX0_ok nmX0 kX0_goUpOrDown_1 2 (by decide) kX0_goUpOrDown_0 rfl (fs' := [.ref as, vI c1, vI (-(strK S (kAt f (c1 + w)))), vI ((t1 : Nat) : Int), vI 1]) rfl rfl (by simp) rfl dX0_goUpOrDown_82 (x_hn (fun h129 e130 => ?_))
                  have f131 : h129 b = some (eO 0 [.ref as, vI c1, vI (-(strK S (kAt f (c1 + w)))), vI ((t1 : Nat) : Int), vI 1]) := by rw [e130]; exact hu_s
                  refine x_vret C G dX0_goUpOrDown_85 ?_ (by decide) (by decide)
                  have hsol : sol f al t1 (c1 + w) := bI_ne.mp (by omega)
                  rw [show vab v - i = (vab v - i - 1) + 1 by omega, vt, if_pos hsol] at hR
                  refine ⟨rfl, ?_⟩
                  rw [← hw, ← hR]
                  dsimp only
                  rw [e130, he, hu_u]
                  split <;> first | rfl | (exfalso; omega)
                · skip
                  refine x_iconst C dX0_goUpOrDown_63 0 (by decide) ?_
                  refine x_goto (tgt := 82) C dX0_goUpOrDown_64 (by decide) ?_
                  refine x_put C fb (T := TX0) rfl tyX0_ok nmX0 kX0_goUpOrDown_1 2 (by decide) kX0_goUpOrDown_0 rfl (fs' := [.ref as, vI c1, vI 0, vI ((t1 : Nat) : Int), vI 1]) rfl rfl (by simp) rfl dX0_goUpOrDown_82 (x_hn (fun h132 e133 => ?_))
                  have f134 : h132 b = some (eO 0 [.ref as, vI c1, vI 0, vI ((t1 : Nat) : Int), vI 1]) := by rw [e133]; exact hu_s
                  refine x_vret C G dX0_goUpOrDown_85 ?_ (by decide) (by decide)
                  have hsol : sol f al t1 (c1 + w) := bI_ne.mp (by omega)
                  rw [show vab v - i = (vab v - i - 1) + 1 by omega, vt, if_pos hsol] at hR
                  refine ⟨rfl, ?_⟩
                  rw [← hw, ← hR]
                  dsimp only
                  rw [e133, he, hu_u]
                  split <;> first | rfl | (exfalso; omega)
        exact LP (vab v + 1) 0 t c h hb hg hk hqq hSS (by omega) (by omega) (by omega) (by omega) (by rw [Nat.sub_zero]) (by rw [hu_i hb])
      · skip
        refine x_aload_n C dX0_goUpOrDown_22 0 rfl ?_
        refine x_get C (v := vI v) hb (T := TX0) rfl kX0_goUpOrDown_1 2 (by decide) kX0_goUpOrDown_0 rfl dX0_goUpOrDown_23 ?_
        refine x_ineg C dX0_goUpOrDown_26 ?_
        refine x_topv (show -v = ((vab v : Nat) : Int) from by unfold vab; rw [if_pos (by omega)]; omega) ?_
        refine x_goto (tgt := 34) C dX0_goUpOrDown_27 (by decide) ?_
        refine x_istore_n C (ls' := [(0, .ref b), (1, .ref g), (2, vI w), (3, vI ((vab v : Nat) : Int))]) dX0_goUpOrDown_34 (by decide) rfl ?_
        refine x_iconst C dX0_goUpOrDown_35 0 (by decide) ?_
        refine x_istore C (ls' := [(0, .ref b), (1, .ref g), (2, vI w), (3, vI ((vab v : Nat) : Int)), (4, vI 0)]) dX0_goUpOrDown_36 (by decide) rfl ?_
        have LP : ∀ (n : Nat) (i t1 : Nat) (c1 : Int) (h135 : vh)  (fb : h135 b = some (eO 0 [.ref as, vI c1, vI v, vI ((t1 : Nat) : Int), vI 1])) (fg : h135 g = some (eO 1 [.ref ak, .ref aq, vI ((al : Nat) : Int)])) (fk : h135 ak = some (eI D 96 f)) (fq : h135 aq = some (eI D 3 q)) (fS : h135 as = some (eI D 3 S)) (hi : i ≤ vab v) (hm : vab v - i < n) (hc1 : 0 ≤ c1 ∧ c1 ≤ 95) (ht1 : t1 < 8) (hR : vt f (kbf f q) al S w v (vab v - i) (c1, t1, 1) = vt f (kbf f q) al S w v (vab v) (c, t, 1)) (he : h135 = hu h b (eO 0 [.ref as, vI c1, vI v, vI ((t1 : Nat) : Int), vI 1])), X κ 0 0 h135 [(0, .ref b), (1, .ref g), (2, vI w), (3, vI ((vab v : Nat) : Int)), (4, vI ((i : Nat) : Int))] 38 [] := by
          intro n
          induction n with
          | zero => intro i t1 c1 h135 fb fg fk fq fS hi hm hc1 ht1 hR he; exfalso; omega
          | succ n ihLP =>
            intro i t1 c1 h135 fb fg fk fq fS hi hm hc1 ht1 hR he
            have hw2 : w = 12 ∨ w = -12 := by rw [hw]; split <;> simp
            have hva : vab v ≤ 4 := by unfold vab; split <;> omega
            refine x_iload C dX0_goUpOrDown_38 4 rfl ?_
            refine x_iload_n C dX0_goUpOrDown_40 3 rfl ?_
            refine x_icmp_ge (tgt := 112) C dX0_goUpOrDown_41 (by decide) (by omega) (by omega) (fun c136 => ?_) (fun c136 => ?_)
            · skip
              refine x_aload_n C dX0_goUpOrDown_112 0 rfl ?_
              refine x_aload_n C dX0_goUpOrDown_113 0 rfl ?_
              refine x_get C (v := vI v) fb (T := TX0) rfl kX0_goUpOrDown_1 2 (by decide) kX0_goUpOrDown_0 rfl dX0_goUpOrDown_114 ?_
              refine x_iconst C dX0_goUpOrDown_117 3 (by decide) ?_
              refine x_icmp_ge (tgt := 130) C dX0_goUpOrDown_118 (by decide) (by omega) (by omega) (fun c137 => ?_) (fun c137 => ?_)
              · skip
                refine x_iconst C dX0_goUpOrDown_130 3 (by decide) ?_
                refine x_put C fb (T := TX0) rfl tyX0_ok nmX0 kX0_goUpOrDown_1 2 (by decide) kX0_goUpOrDown_0 rfl (fs' := [.ref as, vI c1, vI 3, vI ((t1 : Nat) : Int), vI 1]) rfl rfl (by simp) rfl dX0_goUpOrDown_131 (x_hn (fun h138 e139 => ?_))
                have f140 : h138 b = some (eO 0 [.ref as, vI c1, vI 3, vI ((t1 : Nat) : Int), vI 1]) := by rw [e139]; exact hu_s
                refine x_vret C G dX0_goUpOrDown_134 ?_ (by decide) (by decide)
                rw [show vab v - i = 0 by omega, vt] at hR
                refine ⟨rfl, ?_⟩
                rw [← hw, ← hR]
                dsimp only
                rw [e139, he, hu_u]
                split <;> first | rfl | (exfalso; omega)
              · skip
                refine x_aload_n C dX0_goUpOrDown_121 0 rfl ?_
                refine x_get C (v := vI v) fb (T := TX0) rfl kX0_goUpOrDown_1 2 (by decide) kX0_goUpOrDown_0 rfl dX0_goUpOrDown_122 ?_
                refine x_iconst C dX0_goUpOrDown_125 1 (by decide) ?_
                refine x_iadd C dX0_goUpOrDown_126 ?_
                refine x_goto (tgt := 131) C dX0_goUpOrDown_127 (by decide) ?_
                refine x_put C fb (T := TX0) rfl tyX0_ok nmX0 kX0_goUpOrDown_1 2 (by decide) kX0_goUpOrDown_0 rfl (fs' := [.ref as, vI c1, vI (v + 1), vI ((t1 : Nat) : Int), vI 1]) rfl rfl (by simp) rfl dX0_goUpOrDown_131 (x_hn (fun h141 e142 => ?_))
                have f143 : h141 b = some (eO 0 [.ref as, vI c1, vI (v + 1), vI ((t1 : Nat) : Int), vI 1]) := by rw [e142]; exact hu_s
                refine x_vret C G dX0_goUpOrDown_134 ?_ (by decide) (by decide)
                rw [show vab v - i = 0 by omega, vt] at hR
                refine ⟨rfl, ?_⟩
                rw [← hw, ← hR]
                dsimp only
                rw [e142, he, hu_u]
                split <;> first | rfl | (exfalso; omega)
            · skip
              refine x_aload_n C dX0_goUpOrDown_44 0 rfl ?_
              refine x_aload_n C dX0_goUpOrDown_45 1 rfl ?_
              refine x_aload_n C dX0_goUpOrDown_46 0 rfl ?_
              refine x_get C (v := vI c1) fb (T := TX0) rfl kX0_goUpOrDown_1 1 (by decide) kX0_goUpOrDown_2 rfl dX0_goUpOrDown_47 ?_
              refine x_iload_n C dX0_goUpOrDown_50 2 rfl ?_
              refine x_iadd C dX0_goUpOrDown_51 ?_
              refine x_callV C (n := 2) (qc := (RX0, TX0, 5)) (As := [.ref g, vI (c1 + w)]) (rest := []) (c_X0_isSolidIn fb fg fk (by omega) (by assumption) (by omega) (by omega)) gX0_goUpOrDown_X0_isSolidIn (by decide +kernel) fb rfl rfl rfl rfl (Nat.le_of_ble_eq_true rfl) ⟨by decide, by decide⟩ ⟨by decide, by decide⟩ dX0_goUpOrDown_52 (fun rv144 h145 hp146 => ?_)
              obtain ⟨rfl, e147⟩ := hp146
              obtain rfl := e147.symm
              have hbr := bI_01 (sol f al t1 (c1 + w))
              have hw2 : w = 12 ∨ w = -12 := by rw [hw]; split <;> simp
              refine x_if_eq (tgt := 86) C dX0_goUpOrDown_55 (by decide) (by omega) (fun c148 => ?_) (fun c148 => ?_)
              · skip
                refine x_aload_n C dX0_goUpOrDown_86 0 rfl ?_
                refine x_aload_n C dX0_goUpOrDown_87 1 rfl ?_
                refine x_aload_n C dX0_goUpOrDown_88 0 rfl ?_
                refine x_get C (v := vI c1) fb (T := TX0) rfl kX0_goUpOrDown_1 1 (by decide) kX0_goUpOrDown_2 rfl dX0_goUpOrDown_89 ?_
                refine x_iload_n C dX0_goUpOrDown_92 2 rfl ?_
                refine x_iadd C dX0_goUpOrDown_93 ?_
                refine x_callV C (n := 2) (qc := (RX0, TX0, 5)) (As := [.ref g, vI (c1 + w)]) (rest := []) (c_X0_comeTo fb fg fk fq (by omega) (by assumption) (by assumption)) gX0_goUpOrDown_X0_comeTo (by decide +kernel) fb rfl rfl rfl rfl (Nat.le_of_ble_eq_true rfl) ⟨by decide, by decide⟩ ⟨by decide, by decide⟩ dX0_goUpOrDown_94 (fun rv149 h150 hp151 => ?_)
                obtain ⟨rfl, e152⟩ := hp151
                have f153 : h150 b = some (eO 0 [.ref as, vI ((cm f (kbf f q) (c1 + w) (c1, t1, 1)).1), vI v, vI (((cm f (kbf f q) (c1 + w) (c1, t1, 1)).2.1 : Nat) : Int), vI ((cm f (kbf f q) (c1 + w) (c1, t1, 1)).2.2)]) := by rw [e152]; exact hu_s
                have hcm := cm_r (f := f) (p := c1 + w) (x := (c1, t1, 1)) hb9 ⟨hc1.1, hc1.2, ht1, by dsimp only; omega, by dsimp only; omega⟩
                obtain ⟨k1, k2, k3, k4, k5⟩ := hcm
                refine x_aload_n C dX0_goUpOrDown_97 0 rfl ?_
                refine x_get C (v := vI ((cm f (kbf f q) (c1 + w) (c1, t1, 1)).2.2)) f153 (T := TX0) rfl kX0_goUpOrDown_1 4 (by decide) kX0_goUpOrDown_3 rfl dX0_goUpOrDown_98 ?_
                refine x_iconst C dX0_goUpOrDown_101 1 (by decide) ?_
                refine x_icmp_eq (tgt := 106) C dX0_goUpOrDown_102 (by decide) (by omega) (by omega) (fun c154 => ?_) (fun c154 => ?_)
                · skip
                  refine x_iinc C (x := ((i : Nat) : Int)) (ls' := [(0, .ref b), (1, .ref g), (2, vI w), (3, vI ((vab v : Nat) : Int)), (4, vI ((((i : Nat) : Int)) + 1))]) dX0_goUpOrDown_106 4 rfl (by decide) rfl ?_
                  refine x_goto (tgt := 38) C dX0_goUpOrDown_109 (by decide) ?_
                  have n156 : nq g b := vnt fg fb (p := (3, 1)) (q := (3, 0)) rfl rfl (by decide)
                  have f155 : h150 g = some (eO 1 [.ref ak, .ref aq, vI ((al : Nat) : Int)]) := by rw [e152, hu_n n156]; exact fg
                  have n158 : nq ak b := vnt fk fb (p := (0, 96)) (q := (3, 0)) rfl rfl (by decide)
                  have f157 : h150 ak = some (eI D 96 f) := by rw [e152, hu_n n158]; exact fk
                  have n160 : nq aq b := vnt fq fb (p := (0, 3)) (q := (3, 0)) rfl rfl (by decide)
                  have f159 : h150 aq = some (eI D 3 q) := by rw [e152, hu_n n160]; exact fq
                  have n162 : nq as b := vnt fS fb (p := (0, 3)) (q := (3, 0)) rfl rfl (by decide)
                  have f161 : h150 as = some (eI D 3 S) := by rw [e152, hu_n n162]; exact fS
                  have hsol : ¬ sol f al t1 (c1 + w) := fun q9 => by have := bI_t q9; omega
                  have hs1 : (cm f (kbf f q) (c1 + w) (c1, t1, 1)).2.2 = 1 := by assumption
                  have hx1 : ((cm f (kbf f q) (c1 + w) (c1, t1, 1)).1, (cm f (kbf f q) (c1 + w) (c1, t1, 1)).2.1, (1 : Int)) = cm f (kbf f q) (c1 + w) (c1, t1, 1) := e3_1 hs1
                  exact ihLP (i + 1) ((cm f (kbf f q) (c1 + w) (c1, t1, 1)).2.1) ((cm f (kbf f q) (c1 + w) (c1, t1, 1)).1) h150 (by have q9 := f153; rw [hs1] at q9; exact q9) f155 f157 f159 f161 (by omega) (by omega) (⟨k1, k2⟩) (k3) (by rw [hx1, ← hR, show vab v - i = (vab v - (i + 1)) + 1 by omega, vt, if_neg hsol, if_pos hs1]) (by rw [e152, he, hu_u, hs1])
                · skip
                  refine x_vret C G dX0_goUpOrDown_105 ?_ (by decide) (by decide)
                  have hsol : ¬ sol f al t1 (c1 + w) := fun q9 => by have := bI_t q9; omega
                  rw [show vab v - i = (vab v - i - 1) + 1 by omega, vt, if_neg hsol, if_neg (by omega)] at hR
                  refine ⟨rfl, ?_⟩
                  rw [← hw, ← hR]
                  dsimp only
                  rw [e152, he, hu_u]
              · skip
                refine x_aload_n C dX0_goUpOrDown_58 0 rfl ?_
                refine x_iload_n C dX0_goUpOrDown_59 2 rfl ?_
                refine x_if_ge (tgt := 67) C dX0_goUpOrDown_60 (by decide) (by omega) (fun c163 => ?_) (fun c163 => ?_)
                · skip
                  refine x_aload_n C dX0_goUpOrDown_67 0 rfl ?_
                  refine x_aload_n C dX0_goUpOrDown_68 1 rfl ?_
                  refine x_aload_n C dX0_goUpOrDown_69 0 rfl ?_
                  refine x_get C (v := vI c1) fb (T := TX0) rfl kX0_goUpOrDown_1 1 (by decide) kX0_goUpOrDown_2 rfl dX0_goUpOrDown_70 ?_
                  refine x_iload_n C dX0_goUpOrDown_73 2 rfl ?_
                  refine x_iadd C dX0_goUpOrDown_74 ?_
                  refine x_callV C (n := 1) (qc := (RX1, TX1, 3)) (As := [vI (c1 + w)]) (rest := [.ref b, .ref b]) (c_X1_kindAt fg fk (by omega)) gX0_goUpOrDown_X1_kindAt (by decide +kernel) fg rfl rfl rfl rfl (Nat.le_of_ble_eq_true rfl) ⟨by decide, by decide⟩ ⟨by decide, by decide⟩ dX0_goUpOrDown_75 (fun rv164 h165 hp166 => ?_)
                  obtain ⟨rfl, e167⟩ := hp166
                  obtain rfl := e167.symm
                  have hka := kAt_r hf (c1 + w)
                  refine x_callV C (n := 1) (qc := (RX0, TX0, 5)) (As := [vI (kAt f (c1 + w))]) (rest := [.ref b]) (c_X0_strengthOf fb fS (by omega)) gX0_goUpOrDown_X0_strengthOf (by decide +kernel) fb rfl rfl rfl rfl (Nat.le_of_ble_eq_true rfl) ⟨by decide, by decide⟩ ⟨by decide, by decide⟩ dX0_goUpOrDown_78 (fun rv168 h169 hp170 => ?_)
                  obtain ⟨rfl, e171⟩ := hp170
                  obtain rfl := e171.symm
                  refine x_ineg C dX0_goUpOrDown_81 ?_
                  refine x_put C fb (T := TX0) rfl tyX0_ok nmX0 kX0_goUpOrDown_1 2 (by decide) kX0_goUpOrDown_0 rfl (fs' := [.ref as, vI c1, vI (-(strK S (kAt f (c1 + w)))), vI ((t1 : Nat) : Int), vI 1]) rfl rfl (by simp) rfl dX0_goUpOrDown_82 (x_hn (fun h172 e173 => ?_))
                  have f174 : h172 b = some (eO 0 [.ref as, vI c1, vI (-(strK S (kAt f (c1 + w)))), vI ((t1 : Nat) : Int), vI 1]) := by rw [e173]; exact hu_s
                  refine x_vret C G dX0_goUpOrDown_85 ?_ (by decide) (by decide)
                  have hsol : sol f al t1 (c1 + w) := bI_ne.mp (by omega)
                  rw [show vab v - i = (vab v - i - 1) + 1 by omega, vt, if_pos hsol] at hR
                  refine ⟨rfl, ?_⟩
                  rw [← hw, ← hR]
                  dsimp only
                  rw [e173, he, hu_u]
                  split <;> first | rfl | (exfalso; omega)
                · skip
                  refine x_iconst C dX0_goUpOrDown_63 0 (by decide) ?_
                  refine x_goto (tgt := 82) C dX0_goUpOrDown_64 (by decide) ?_
                  refine x_put C fb (T := TX0) rfl tyX0_ok nmX0 kX0_goUpOrDown_1 2 (by decide) kX0_goUpOrDown_0 rfl (fs' := [.ref as, vI c1, vI 0, vI ((t1 : Nat) : Int), vI 1]) rfl rfl (by simp) rfl dX0_goUpOrDown_82 (x_hn (fun h175 e176 => ?_))
                  have f177 : h175 b = some (eO 0 [.ref as, vI c1, vI 0, vI ((t1 : Nat) : Int), vI 1]) := by rw [e176]; exact hu_s
                  refine x_vret C G dX0_goUpOrDown_85 ?_ (by decide) (by decide)
                  have hsol : sol f al t1 (c1 + w) := bI_ne.mp (by omega)
                  rw [show vab v - i = (vab v - i - 1) + 1 by omega, vt, if_pos hsol] at hR
                  refine ⟨rfl, ?_⟩
                  rw [← hw, ← hR]
                  dsimp only
                  rw [e176, he, hu_u]
                  split <;> first | rfl | (exfalso; omega)
        exact LP (vab v + 1) 0 t c h hb hg hk hqq hSS (by omega) (by omega) (by omega) (by omega) (by rw [Nat.sub_zero]) (by rw [hu_i hb])
    exact WAY ((-12)) (by split <;> omega)


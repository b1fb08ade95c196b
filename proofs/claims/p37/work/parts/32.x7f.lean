def cAdd (c : CS) (L : Nat) (au pr : Int) : CS := cu (cu (cG c 10 18 L (FL au pr)) 2 0 (oF [((L + 1 : Nat) : Int)])) 0 0 (oF [0, 0, 0, 0, 0, ((L + 1 : Nat) : Int), c 0 0 6])
theorem kX7_addLevel_0 : Cond.fieldLink "LedgeLevels" 40 "LedgeLevels" "levelCount" "I" ∈ wsX7_addLevel := by decide +kernel
theorem kX7_addLevel_1 : ∀ w ∈ wsX70, w ∈ wsX7_addLevel := by decide +kernel
theorem kX7_addLevel_2 : Cond.fieldLink "LedgeLevels" 15 "LedgeLevels" "levels" "[LLedgeLevels$Level;" ∈ wsX7_addLevel := by decide +kernel
theorem kX7_addLevel_3 : ∀ w ∈ wsX30, w ∈ wsX7_addLevel := by decide +kernel
theorem kX7_addLevel_4 : Cond.classLink "LedgeLevels" 13 "LedgeLevels$Level" ∈ wsX7_addLevel := by decide +kernel
theorem kX7_addLevel_5 : Cond.instantiable "LedgeLevels$Level" 6 ∈ wsX7_addLevel := by decide +kernel
theorem kX7_addLevel_6 : Cond.initialized "LedgeLevels$Level" ∈ wsX7_addLevel := by decide +kernel
theorem kX7_addLevel_7 : Cond.instanceMethod yX3_init ∈ wsX7_addLevel := by decide +kernel
theorem kX7_addLevel_8 : Cond.methodLink "LedgeLevels" 287 yX3_init ∈ wsX7_addLevel := by decide +kernel
theorem kX7_addLevel_9 : Cond.classLink "LedgeLevels" 88 "java/lang/IllegalStateException" ∈ wsX7_addLevel := by decide +kernel
theorem kX7_addLevel_10 : Cond.initialized "java/lang/IllegalStateException" ∈ wsX7_addLevel := by decide +kernel
theorem kX7_addLevel_11 : ∀ w ∈ (vx_atS "LedgeLevels" 92 "java/lang/IllegalStateException" ["java/lang/RuntimeException", "java/lang/Exception"]).filter goodWord, w ∈ wsX7_addLevel := by decide +kernel
set_option maxRecDepth 100000 in
set_option maxHeartbeats 1000000 in
theorem c_X7_addLevel {l : Launch} {D : va_G} {A : Nat → Prop} {h : vh} {ad : AD} {c : CS} {L W : Nat} {au : Int} {w : Nat}  (hR : RepC D ad c L W h) (hO1 : Ok1 c L W) (hw : w < W) : TX l D A yX7_addLevel wsX7_addLevel { frames := 6, cells := 8, slots := 233, locals := 90 } [.ref (ad 0 0), vI au, .ref (ad 18 w)] h (fun rv h' => ∃ (ad9 : AD), rv = some (.ref (ad9 10 L)) ∧ CP D ad9 (L + 1) W h (cAdd c L au (((w + 1 : Nat) : Int))) h' ∧ (Grown ad ad9 L W (L + 1) W h) ∧ (L < 12)) (XP False False (¬ L < 12) h) := by
  refine TX.of (cc := cX7_addLevel) (maxL := 4) (ret := (some (.object "LedgeLevels$Level"))) [(0, .ref (ad 0 0)), (1, vI au), (2, .ref (ad 18 w))] (by decide +kernel) rfl rfl (Nat.le_of_ble_eq_true rfl) ?_
  intro κ C hkl G GT
  subst hkl
  have C : CX κ "LedgeLevels" "addLevel" cX7_addLevel wsX7_addLevel { frames := 6, cells := 8, slots := 233, locals := 90 } D A 4 := C
  have hiz : nq (D.1 20) (D.1 21) := cx_iz C
  obtain ⟨o1, o2, o3, o4, o5, o6, o7⟩ := id hO1
  refine x_aload_n C dX7_addLevel_0 0 rfl ?_
  have f1 : h (ad 0 0) = some (eO 7 [.ref (ad 1 0), .ref (ad 2 0), .ref (ad 3 0), .ref (ad 4 0), .ref (ad 5 0), vI (c 0 0 5), vI (c 0 0 6)]) := hR.1 0 0 (lv0 (by decide))
  refine x_get C (v := vI (c 0 0 5)) f1 (T := TX7) rfl kX7_addLevel_1 5 (by decide) kX7_addLevel_0 rfl dX7_addLevel_1 ?_
  refine x_aload_n C dX7_addLevel_4 0 rfl ?_
  refine x_get C (v := .ref (ad 2 0)) f1 (T := TX7) rfl kX7_addLevel_1 1 (by decide) kX7_addLevel_2 rfl dX7_addLevel_5 ?_
  have f2 : h (ad 2 0) = some (eR D 22 12 ((fun j => if j < (c 2 0 0).toNat then some (ad 10 j) else none))) := hR.1 2 0 (lv0 (by decide))
  refine x_alen C f2 (t0 := 2) rfl 12 rfl dX7_addLevel_8 ?_
  refine x_icmp_lt (tgt := 23) C dX7_addLevel_9 (by decide) (by omega) (by omega) (fun c3 => ?_) (fun c3 => ?_)
  · skip
    refine x_new C (ci := 3) (T := TX3) (fs := [vI 0, .null, .null, .null, vI 0, vI 0]) rfl tyX3_ok kX7_addLevel_3 kX7_addLevel_4 kX7_addLevel_5 kX7_addLevel_6 (by intro j hj; rcases (show j = 0 ∨ j = 1 ∨ j = 2 ∨ j = 3 ∨ j = 4 ∨ j = 5 by omega) with rfl | rfl | rfl | rfl | rfl | rfl <;> rfl) (by decide) (by decide) dX7_addLevel_23 (fun q4 nq7 => x_hn (fun h5 e6 => ?_))
    have nb8 : h q4 = none := nq7
    have f9 : h5 q4 = some (eO 3 [vI 0, .null, .null, .null, vI 0, vI 0]) := by rw [e6]; exact hu_s
    refine x_dup C dX7_addLevel_26 rfl ?_
    refine x_iload_n C dX7_addLevel_27 1 rfl ?_
    refine x_aload_n C dX7_addLevel_28 2 rfl ?_
    refine x_callI C (n := 2) (As := [vI au, .ref (ad 18 w)]) (rest := [.ref q4]) (c_X3_init f9) gX7_addLevel_X3_init kX7_addLevel_6 kX7_addLevel_8 kX7_addLevel_7 rfl (by decide +kernel) rfl rfl rfl (Nat.le_of_ble_eq_true rfl) ⟨by decide, by decide⟩ ⟨(by decide), (by decide)⟩ dX7_addLevel_29 (fun rv10 h11 hp12 => ?_)
    obtain ⟨rfl, g, ak, aq, hi, oc, ob, oa, hn7, hd3, hE8, keep⟩ := hp12
    obtain ⟨hG, hGr⟩ := growLevel (au := au) (pr := ((w + 1 : Nat) : Int)) hR o3 (PAR := .ref (ad 18 w)) rfl nb8 e6 hn7 hd3 hE8 keep
    have hE0 := hE8.1
    refine x_astore_n C (ls' := [(0, .ref (ad 0 0)), (1, vI au), (2, .ref (ad 18 w)), (3, .ref q4)]) dX7_addLevel_32 (by decide) rfl ?_
    refine x_aload_n C dX7_addLevel_33 0 rfl ?_
    have f14 : h5 (ad 0 0) = some (eO 7 [.ref (ad 1 0), .ref (ad 2 0), .ref (ad 3 0), .ref (ad 4 0), .ref (ad 5 0), vI (c 0 0 5), vI (c 0 0 6)]) := by rw [e6, hu_n (vnn f1 nb8)]; exact f1
    have f15 : h11 (ad 0 0) = some (eO 7 [.ref (ad 1 0), .ref (ad 2 0), .ref (ad 3 0), .ref (ad 4 0), .ref (ad 5 0), vI (c 0 0 5), vI (c 0 0 6)]) := keep (ad 0 0) _ ((vnn f1 nb8)) f14
    refine x_get C (v := .ref (ad 2 0)) f15 (T := TX7) rfl kX7_addLevel_1 1 (by decide) kX7_addLevel_2 rfl dX7_addLevel_34 ?_
    refine x_aload_n C dX7_addLevel_37 0 rfl ?_
    refine x_get C (v := vI (c 0 0 5)) f15 (T := TX7) rfl kX7_addLevel_1 5 (by decide) kX7_addLevel_0 rfl dX7_addLevel_38 ?_
    refine x_aload_n C dX7_addLevel_41 3 rfl ?_
    have f16 : h5 (ad 2 0) = some (eR D 22 12 ((fun j => if j < (c 2 0 0).toNat then some (ad 10 j) else none))) := by rw [e6, hu_n (vnn f2 nb8)]; exact f2
    have f17 : h11 (ad 2 0) = some (eR D 22 12 ((fun j => if j < (c 2 0 0).toNat then some (ad 10 j) else none))) := keep (ad 2 0) _ ((vnn f2 nb8)) f16
    refine x_aast C (t0 := 2) f17 rfl hE0 rfl ⟨by omega, by omega⟩ (by decide) dX7_addLevel_42 (x_hn (fun h18 e19 => ?_))
    have f20 : h18 (ad 2 0) = some (eR D 22 12 (va_up ((fun j => if j < (c 2 0 0).toNat then some (ad 10 j) else none)) (Int.toNat (c 0 0 5)) (some q4))) := by rw [e19]; exact hu_s
    refine x_aload_n C dX7_addLevel_43 0 rfl ?_
    refine x_dup C dX7_addLevel_44 rfl ?_
    have f21 : h18 (ad 0 0) = some (eO 7 [.ref (ad 1 0), .ref (ad 2 0), .ref (ad 3 0), .ref (ad 4 0), .ref (ad 5 0), vI (c 0 0 5), vI (c 0 0 6)]) := by rw [e19, hu_n (hR.ne (lv0 (by decide)) (lv0 (by decide)) (fun zz9 => absurd zz9.1 (by decide)))]; exact f15
    refine x_get C (v := vI (c 0 0 5)) f21 (T := TX7) rfl kX7_addLevel_1 5 (by decide) kX7_addLevel_0 rfl dX7_addLevel_45 ?_
    refine x_iconst C dX7_addLevel_48 1 (by decide) ?_
    refine x_iadd C dX7_addLevel_49 ?_
    refine x_put C f21 (T := TX7) rfl tyX7_ok nmX7 kX7_addLevel_1 5 (by decide) kX7_addLevel_0 rfl (fs' := [.ref (ad 1 0), .ref (ad 2 0), .ref (ad 3 0), .ref (ad 4 0), .ref (ad 5 0), vI ((c 0 0 5) + 1), vI (c 0 0 6)]) rfl rfl (by simp) rfl dX7_addLevel_50 (x_hn (fun h22 e23 => ?_))
    have f24 : h22 (ad 0 0) = some (eO 7 [.ref (ad 1 0), .ref (ad 2 0), .ref (ad 3 0), .ref (ad 4 0), .ref (ad 5 0), vI ((c 0 0 5) + 1), vI (c 0 0 6)]) := by rw [e23]; exact hu_s
    refine x_aload_n C dX7_addLevel_53 3 rfl ?_
    refine x_aret C G dX7_addLevel_54 ?_ (by decide) (by decide)
    refine ⟨(adG ad 10 18 L (naL q4 g ak aq hi oc ob oa)), by rw [show (adG ad 10 18 L (naL q4 g ak aq hi oc ob oa)) 10 L = q4 from adG_s ⟨by decide, by decide⟩], ?_, hGr, by omega⟩
    rw [e23, e19]
    exact CP.up (CP.up hG (lv0 (by decide)) (oF [((L + 1 : Nat) : Int)]) (by rw [show Int.toNat (c 0 0 5) = L by omega]; exact rowLev o3 rfl)) (lv0 (by decide)) (oF [0, 0, 0, 0, 0, ((L + 1 : Nat) : Int), c 0 0 6]) (by rw [o1]; rfl)
  · skip
    refine x_throwSw C GT (cls := "java/lang/IllegalStateException") (text := "too many levels") (names := ["java/lang/RuntimeException", "java/lang/Exception"]) (by decide +kernel) (by decide +kernel) kX7_addLevel_9 kX7_addLevel_10 (by decide +kernel) kX7_addLevel_11 (by decide +kernel) (by decide +kernel) dX7_addLevel_12 dX7_addLevel_15 dX7_addLevel_16 dX7_addLevel_19 dX7_addLevel_22 (by decide) (by decide) (by decide) (by decide) (by decide) (by decide) ?_
    exact ⟨rfl, Or.inr (Or.inr ⟨rfl, by omega⟩)⟩

theorem kX7_addLevelN_0 : Cond.fieldLink "LedgeLevels" 40 "LedgeLevels" "levelCount" "I" ∈ wsX7_addLevel := by decide +kernel
theorem kX7_addLevelN_1 : ∀ w ∈ wsX70, w ∈ wsX7_addLevel := by decide +kernel
theorem kX7_addLevelN_2 : Cond.fieldLink "LedgeLevels" 15 "LedgeLevels" "levels" "[LLedgeLevels$Level;" ∈ wsX7_addLevel := by decide +kernel
theorem kX7_addLevelN_3 : ∀ w ∈ wsX30, w ∈ wsX7_addLevel := by decide +kernel
theorem kX7_addLevelN_4 : Cond.classLink "LedgeLevels" 13 "LedgeLevels$Level" ∈ wsX7_addLevel := by decide +kernel
theorem kX7_addLevelN_5 : Cond.instantiable "LedgeLevels$Level" 6 ∈ wsX7_addLevel := by decide +kernel
theorem kX7_addLevelN_6 : Cond.initialized "LedgeLevels$Level" ∈ wsX7_addLevel := by decide +kernel
theorem kX7_addLevelN_7 : Cond.instanceMethod yX3_init ∈ wsX7_addLevel := by decide +kernel
theorem kX7_addLevelN_8 : Cond.methodLink "LedgeLevels" 287 yX3_init ∈ wsX7_addLevel := by decide +kernel
theorem kX7_addLevelN_9 : Cond.classLink "LedgeLevels" 88 "java/lang/IllegalStateException" ∈ wsX7_addLevel := by decide +kernel
theorem kX7_addLevelN_10 : Cond.initialized "java/lang/IllegalStateException" ∈ wsX7_addLevel := by decide +kernel
theorem kX7_addLevelN_11 : ∀ w ∈ (vx_atS "LedgeLevels" 92 "java/lang/IllegalStateException" ["java/lang/RuntimeException", "java/lang/Exception"]).filter goodWord, w ∈ wsX7_addLevel := by decide +kernel
set_option maxRecDepth 100000 in
set_option maxHeartbeats 1000000 in
theorem c_X7_addLevelN {l : Launch} {D : va_G} {A : Nat → Prop} {h : vh} {ad : AD} {c : CS} {L W : Nat} {au : Int}  (hR : RepC D ad c L W h) (hO1 : Ok1 c L W) : TX l D A yX7_addLevel wsX7_addLevel { frames := 6, cells := 8, slots := 233, locals := 90 } [.ref (ad 0 0), vI au, .null] h (fun rv h' => ∃ (ad9 : AD), rv = some (.ref (ad9 10 L)) ∧ CP D ad9 (L + 1) W h (cAdd c L au (0)) h' ∧ (Grown ad ad9 L W (L + 1) W h) ∧ (L < 12)) (XP False False (¬ L < 12) h) := by
  refine TX.of (cc := cX7_addLevel) (maxL := 4) (ret := (some (.object "LedgeLevels$Level"))) [(0, .ref (ad 0 0)), (1, vI au), (2, .null)] (by decide +kernel) rfl rfl (Nat.le_of_ble_eq_true rfl) ?_
  intro κ C hkl G GT
  subst hkl
  have C : CX κ "LedgeLevels" "addLevel" cX7_addLevel wsX7_addLevel { frames := 6, cells := 8, slots := 233, locals := 90 } D A 4 := C
  have hiz : nq (D.1 20) (D.1 21) := cx_iz C
  obtain ⟨o1, o2, o3, o4, o5, o6, o7⟩ := id hO1
  refine x_aload_n C dX7_addLevel_0 0 rfl ?_
  have f1 : h (ad 0 0) = some (eO 7 [.ref (ad 1 0), .ref (ad 2 0), .ref (ad 3 0), .ref (ad 4 0), .ref (ad 5 0), vI (c 0 0 5), vI (c 0 0 6)]) := hR.1 0 0 (lv0 (by decide))
  refine x_get C (v := vI (c 0 0 5)) f1 (T := TX7) rfl kX7_addLevelN_1 5 (by decide) kX7_addLevelN_0 rfl dX7_addLevel_1 ?_
  refine x_aload_n C dX7_addLevel_4 0 rfl ?_
  refine x_get C (v := .ref (ad 2 0)) f1 (T := TX7) rfl kX7_addLevelN_1 1 (by decide) kX7_addLevelN_2 rfl dX7_addLevel_5 ?_
  have f2 : h (ad 2 0) = some (eR D 22 12 ((fun j => if j < (c 2 0 0).toNat then some (ad 10 j) else none))) := hR.1 2 0 (lv0 (by decide))
  refine x_alen C f2 (t0 := 2) rfl 12 rfl dX7_addLevel_8 ?_
  refine x_icmp_lt (tgt := 23) C dX7_addLevel_9 (by decide) (by omega) (by omega) (fun c3 => ?_) (fun c3 => ?_)
  · skip
    refine x_new C (ci := 3) (T := TX3) (fs := [vI 0, .null, .null, .null, vI 0, vI 0]) rfl tyX3_ok kX7_addLevelN_3 kX7_addLevelN_4 kX7_addLevelN_5 kX7_addLevelN_6 (by intro j hj; rcases (show j = 0 ∨ j = 1 ∨ j = 2 ∨ j = 3 ∨ j = 4 ∨ j = 5 by omega) with rfl | rfl | rfl | rfl | rfl | rfl <;> rfl) (by decide) (by decide) dX7_addLevel_23 (fun q4 nq7 => x_hn (fun h5 e6 => ?_))
    have nb8 : h q4 = none := nq7
    have f9 : h5 q4 = some (eO 3 [vI 0, .null, .null, .null, vI 0, vI 0]) := by rw [e6]; exact hu_s
    refine x_dup C dX7_addLevel_26 rfl ?_
    refine x_iload_n C dX7_addLevel_27 1 rfl ?_
    refine x_aload_nN C dX7_addLevel_28 2 rfl ?_
    refine x_callI C (n := 2) (As := [vI au, .null]) (rest := [.ref q4]) (c_X3_initN f9) gX7_addLevel_X3_init kX7_addLevelN_6 kX7_addLevelN_8 kX7_addLevelN_7 rfl (by decide +kernel) rfl rfl rfl (Nat.le_of_ble_eq_true rfl) ⟨by decide, by decide⟩ ⟨(by decide), (by decide)⟩ dX7_addLevel_29 (fun rv10 h11 hp12 => ?_)
    obtain ⟨rfl, g, ak, aq, hi, oc, ob, oa, hn7, hd3, hE8, keep⟩ := hp12
    obtain ⟨hG, hGr⟩ := growLevel (au := au) (pr := 0) hR o3 (PAR := .null) rfl nb8 e6 hn7 hd3 hE8 keep
    have hE0 := hE8.1
    refine x_astore_n C (ls' := [(0, .ref (ad 0 0)), (1, vI au), (2, .null), (3, .ref q4)]) dX7_addLevel_32 (by decide) rfl ?_
    refine x_aload_n C dX7_addLevel_33 0 rfl ?_
    have f14 : h5 (ad 0 0) = some (eO 7 [.ref (ad 1 0), .ref (ad 2 0), .ref (ad 3 0), .ref (ad 4 0), .ref (ad 5 0), vI (c 0 0 5), vI (c 0 0 6)]) := by rw [e6, hu_n (vnn f1 nb8)]; exact f1
    have f15 : h11 (ad 0 0) = some (eO 7 [.ref (ad 1 0), .ref (ad 2 0), .ref (ad 3 0), .ref (ad 4 0), .ref (ad 5 0), vI (c 0 0 5), vI (c 0 0 6)]) := keep (ad 0 0) _ ((vnn f1 nb8)) f14
    refine x_get C (v := .ref (ad 2 0)) f15 (T := TX7) rfl kX7_addLevelN_1 1 (by decide) kX7_addLevelN_2 rfl dX7_addLevel_34 ?_
    refine x_aload_n C dX7_addLevel_37 0 rfl ?_
    refine x_get C (v := vI (c 0 0 5)) f15 (T := TX7) rfl kX7_addLevelN_1 5 (by decide) kX7_addLevelN_0 rfl dX7_addLevel_38 ?_
    refine x_aload_n C dX7_addLevel_41 3 rfl ?_
    have f16 : h5 (ad 2 0) = some (eR D 22 12 ((fun j => if j < (c 2 0 0).toNat then some (ad 10 j) else none))) := by rw [e6, hu_n (vnn f2 nb8)]; exact f2
    have f17 : h11 (ad 2 0) = some (eR D 22 12 ((fun j => if j < (c 2 0 0).toNat then some (ad 10 j) else none))) := keep (ad 2 0) _ ((vnn f2 nb8)) f16
    refine x_aast C (t0 := 2) f17 rfl hE0 rfl ⟨by omega, by omega⟩ (by decide) dX7_addLevel_42 (x_hn (fun h18 e19 => ?_))
    have f20 : h18 (ad 2 0) = some (eR D 22 12 (va_up ((fun j => if j < (c 2 0 0).toNat then some (ad 10 j) else none)) (Int.toNat (c 0 0 5)) (some q4))) := by rw [e19]; exact hu_s
    refine x_aload_n C dX7_addLevel_43 0 rfl ?_
    refine x_dup C dX7_addLevel_44 rfl ?_
    have f21 : h18 (ad 0 0) = some (eO 7 [.ref (ad 1 0), .ref (ad 2 0), .ref (ad 3 0), .ref (ad 4 0), .ref (ad 5 0), vI (c 0 0 5), vI (c 0 0 6)]) := by rw [e19, hu_n (hR.ne (lv0 (by decide)) (lv0 (by decide)) (fun zz9 => absurd zz9.1 (by decide)))]; exact f15
    refine x_get C (v := vI (c 0 0 5)) f21 (T := TX7) rfl kX7_addLevelN_1 5 (by decide) kX7_addLevelN_0 rfl dX7_addLevel_45 ?_
    refine x_iconst C dX7_addLevel_48 1 (by decide) ?_
    refine x_iadd C dX7_addLevel_49 ?_
    refine x_put C f21 (T := TX7) rfl tyX7_ok nmX7 kX7_addLevelN_1 5 (by decide) kX7_addLevelN_0 rfl (fs' := [.ref (ad 1 0), .ref (ad 2 0), .ref (ad 3 0), .ref (ad 4 0), .ref (ad 5 0), vI ((c 0 0 5) + 1), vI (c 0 0 6)]) rfl rfl (by simp) rfl dX7_addLevel_50 (x_hn (fun h22 e23 => ?_))
    have f24 : h22 (ad 0 0) = some (eO 7 [.ref (ad 1 0), .ref (ad 2 0), .ref (ad 3 0), .ref (ad 4 0), .ref (ad 5 0), vI ((c 0 0 5) + 1), vI (c 0 0 6)]) := by rw [e23]; exact hu_s
    refine x_aload_n C dX7_addLevel_53 3 rfl ?_
    refine x_aret C G dX7_addLevel_54 ?_ (by decide) (by decide)
    refine ⟨(adG ad 10 18 L (naL q4 g ak aq hi oc ob oa)), by rw [show (adG ad 10 18 L (naL q4 g ak aq hi oc ob oa)) 10 L = q4 from adG_s ⟨by decide, by decide⟩], ?_, hGr, by omega⟩
    rw [e23, e19]
    exact CP.up (CP.up hG (lv0 (by decide)) (oF [((L + 1 : Nat) : Int)]) (by rw [show Int.toNat (c 0 0 5) = L by omega]; exact rowLev o3 rfl)) (lv0 (by decide)) (oF [0, 0, 0, 0, 0, ((L + 1 : Nat) : Int), c 0 0 6]) (by rw [o1]; rfl)
  · skip
    refine x_throwSw C GT (cls := "java/lang/IllegalStateException") (text := "too many levels") (names := ["java/lang/RuntimeException", "java/lang/Exception"]) (by decide +kernel) (by decide +kernel) kX7_addLevelN_9 kX7_addLevelN_10 (by decide +kernel) kX7_addLevelN_11 (by decide +kernel) (by decide +kernel) dX7_addLevel_12 dX7_addLevel_15 dX7_addLevel_16 dX7_addLevel_19 dX7_addLevel_22 (by decide) (by decide) (by decide) (by decide) (by decide) (by decide) ?_
    exact ⟨rfl, Or.inr (Or.inr ⟨rfl, by omega⟩)⟩



theorem kX7_setStart_0 : Cond.fieldLinkNest "LedgeLevels" 106 "LedgeLevels$Level" "start" "I" "LedgeLevels" ∈ nwAll := by decide +kernel
theorem kX7_setStart_1 : ∀ w ∈ wsX30, w ∈ wsX7_setStart := by decide +kernel
theorem kX7_setStart_2 : Cond.fieldLinkNest "LedgeLevels" 109 "LedgeLevels$Level" "proof" "I" "LedgeLevels" ∈ nwAll := by decide +kernel
set_option maxRecDepth 100000 in
set_option maxHeartbeats 1000000 in
theorem c_X7_setStart {l : Launch} {D : va_G} {A : Nat → Prop} {h : vh} {ad : AD} {c : CS} {L W : Nat} {u z : Int}  (hR : RepC D ad c L W h) (hC : Cok c L W) (hi_u : -2147483648 ≤ u ∧ u ≤ 2147483647) (hi_z : -2147483648 ≤ z ∧ z ≤ 2147483647) : TX l D A yX7_setStart wsX7_setStart { frames := 7, cells := 2, slots := 12, locals := 112 } [.ref (ad 0 0), vI u, vI z] h (fun rv h' => rv = some (vI (c 10 u.toNat 4)) ∧ CP D ad L W h ((cu c 10 u.toNat (oF [c 10 u.toNat 0, c 10 u.toNat 1, 0, 0, z, (-2)]))) h' ∧ ((0 ≤ u ∧ u < (L : Int)) ∧ (0 ≤ z ∧ z < 96))) (XP (¬ (0 ≤ u ∧ u < (L : Int)) ∨ ¬ (0 ≤ z ∧ z < 96)) False False h) := by
  refine TX.of (cc := cX7_setStart) (maxL := 5) (ret := (some .int)) [(0, .ref (ad 0 0)), (1, vI u), (2, vI z)] (by decide +kernel) rfl rfl (Nat.le_of_ble_eq_true rfl) ?_
  intro κ C hkl G GT
  subst hkl
  have C : CX κ "LedgeLevels" "setStart" cX7_setStart wsX7_setStart { frames := 7, cells := 2, slots := 12, locals := 112 } D A 5 := C
  have hiz : nq (D.1 20) (D.1 21) := cx_iz C
  obtain ⟨hO1, q2, q3, q4, q5⟩ := id hC
  obtain ⟨o1, o2, o3, o4, o5, o6, o7⟩ := id hO1
  refine x_aload_n C dX7_setStart_0 0 rfl ?_
  refine x_iload_n C dX7_setStart_1 1 rfl ?_
  have f1 : h (ad 0 0) = some (eO 7 [.ref (ad 1 0), .ref (ad 2 0), .ref (ad 3 0), .ref (ad 4 0), .ref (ad 5 0), vI (c 0 0 5), vI (c 0 0 6)]) := hR.1 0 0 (lv0 (by decide))
  refine x_callVt C (n := 1) (qc := (RX7, TX7, 7)) (As := [vI u]) (rest := []) (c_X7_levelOf (hR) (by assumption) (by omega)) gX7_setStart_X7_levelOf (by decide +kernel) f1 rfl rfl rfl rfl (Nat.le_of_ble_eq_true rfl) ⟨by decide, by decide⟩ ⟨(by decide), (by decide)⟩ dX7_setStart_2 GT (by decide) (by decide) (fun E h9 hx9 => XP.imp hx9 (fun z9 => by first | exact z9.elim | omega) (fun z9 => by first | exact z9.elim | omega) (fun z9 => by first | exact z9.elim | omega)) (fun rv2 h3 hp4 => ?_)
  obtain ⟨rfl, e5, hu_2⟩ := hp4
  obtain rfl := e5.symm
  obtain ⟨⟨g1, g2, g3⟩, ⟨e0, e1, e2, e3⟩, ⟨k1, k2, k3, k4⟩⟩ := q3 u.toNat (by omega)
  refine x_astore_n C (ls' := [(0, .ref (ad 0 0)), (1, vI u), (2, vI z), (3, .ref (ad 10 u.toNat))]) dX7_setStart_5 (by decide) rfl ?_
  refine x_iload_n C dX7_setStart_6 2 rfl ?_
  refine x_callSt C (n := 1) (As := [vI z]) (rest := []) (c_X7_checkCell (hR) (by omega)) gX7_setStart_X7_checkCell (by decide +kernel) rfl rfl rfl (Nat.le_of_ble_eq_true rfl) ⟨by decide, by decide⟩ ⟨(by decide), (by decide)⟩ dX7_setStart_7 GT (by decide) (by decide) (fun E h9 hx9 => XP.imp hx9 (fun z9 => by first | exact z9.elim | omega) (fun z9 => by first | exact z9.elim | omega) (fun z9 => by first | exact z9.elim | omega)) (fun rv6 h7 hp8 => ?_)
  obtain ⟨rfl, e9, hz_7⟩ := hp8
  obtain rfl := e9.symm
  refine x_aload_n C dX7_setStart_10 3 rfl ?_
  have f10 : h (ad 10 u.toNat) = some (eO 3 [vI (c 10 u.toNat 0), va_rf (prf ad (c 10 u.toNat 1)), .ref (ad 11 u.toNat), .ref (ad 14 u.toNat), vI (c 10 u.toNat 4), vI (c 10 u.toNat 5)]) := hR.1 10 u.toNat (lvL (by decide) (by omega))
  refine x_getN (host := "LedgeLevels") C (v := vI (c 10 u.toNat 4)) f10 (T := TX3) rfl kX7_setStart_1 4 (by decide) kX7_setStart_0 rfl dX7_setStart_11 ?_
  refine x_istore C (ls' := [(0, .ref (ad 0 0)), (1, vI u), (2, vI z), (3, .ref (ad 10 u.toNat)), (4, vI (c 10 u.toNat 4))]) dX7_setStart_14 (by decide) rfl ?_
  refine x_aload_n C dX7_setStart_16 3 rfl ?_
  refine x_iload_n C dX7_setStart_17 2 rfl ?_
  refine x_putN (host := "LedgeLevels") C f10 (T := TX3) rfl tyX3_ok nmX3 kX7_setStart_1 4 (by decide) kX7_setStart_0 rfl (fs' := [vI (c 10 u.toNat 0), va_rf (prf ad (c 10 u.toNat 1)), .ref (ad 11 u.toNat), .ref (ad 14 u.toNat), vI z, vI (c 10 u.toNat 5)]) rfl rfl (by simp) rfl dX7_setStart_18 (x_hn (fun h11 e12 => ?_))
  have f13 : h11 (ad 10 u.toNat) = some (eO 3 [vI (c 10 u.toNat 0), va_rf (prf ad (c 10 u.toNat 1)), .ref (ad 11 u.toNat), .ref (ad 14 u.toNat), vI z, vI (c 10 u.toNat 5)]) := by rw [e12]; exact hu_s
  refine x_aload_n C dX7_setStart_21 3 rfl ?_
  refine x_bipush C dX7_setStart_22 (-2) (by decide) ?_
  refine x_putN (host := "LedgeLevels") C f13 (T := TX3) rfl tyX3_ok nmX3 kX7_setStart_1 5 (by decide) kX7_setStart_2 rfl (fs' := [vI (c 10 u.toNat 0), va_rf (prf ad (c 10 u.toNat 1)), .ref (ad 11 u.toNat), .ref (ad 14 u.toNat), vI z, vI (-2)]) rfl rfl (by simp) rfl dX7_setStart_24 (x_hn (fun h14 e15 => ?_))
  have f16 : h14 (ad 10 u.toNat) = some (eO 3 [vI (c 10 u.toNat 0), va_rf (prf ad (c 10 u.toNat 1)), .ref (ad 11 u.toNat), .ref (ad 14 u.toNat), vI z, vI (-2)]) := by rw [e15]; exact hu_s
  refine x_iload C dX7_setStart_27 4 rfl ?_
  refine x_iret C G dX7_setStart_29 ?_ (by decide) (by decide)
  have cp17 : CP D ad L W h (cu c 10 u.toNat (oF [c 10 u.toNat 0, c 10 u.toNat 1, 0, 0, z, (-2)])) h14 := by rw [e15, e12]; simp only [hu_u]; exact (CP.up (CP.rf hR) (lvL (by decide) (by omega)) (oF [c 10 u.toNat 0, c 10 u.toNat 1, 0, 0, z, (-2)]) rfl)
  exact ⟨rfl, cp17, by omega⟩

theorem kX7_star_0 : Cond.classLink "LedgeLevels" 73 "java/lang/IllegalArgumentException" ∈ wsX7_star := by decide +kernel
theorem kX7_star_1 : Cond.initialized "java/lang/IllegalArgumentException" ∈ wsX7_star := by decide +kernel
theorem kX7_star_2 : ∀ w ∈ (vx_atS "LedgeLevels" 77 "java/lang/IllegalArgumentException" ["java/lang/RuntimeException", "java/lang/Exception"]).filter goodWord, w ∈ wsX7_star := by decide +kernel
theorem kX7_star_3 : Cond.fieldLinkNest "LedgeLevels" 182 "LedgeLevels$Work" "author" "I" "LedgeLevels" ∈ nwAll := by decide +kernel
theorem kX7_star_4 : ∀ w ∈ wsX60, w ∈ wsX7_star := by decide +kernel
theorem kX7_star_5 : Cond.fieldLinkNest "LedgeLevels" 187 "LedgeLevels$Work" "given" "[I" "LedgeLevels" ∈ nwAll := by decide +kernel
theorem kX7_star_6 : Cond.classLink "LedgeLevels" 88 "java/lang/IllegalStateException" ∈ wsX7_star := by decide +kernel
theorem kX7_star_7 : Cond.initialized "java/lang/IllegalStateException" ∈ wsX7_star := by decide +kernel
theorem kX7_star_8 : ∀ w ∈ (vx_atS "LedgeLevels" 92 "java/lang/IllegalStateException" ["java/lang/RuntimeException", "java/lang/Exception"]).filter goodWord, w ∈ wsX7_star := by decide +kernel
set_option maxRecDepth 100000 in
set_option maxHeartbeats 1000000 in
theorem c_X7_star {l : Launch} {D : va_G} {A : Nat → Prop} {h : vh} {ad : AD} {c : CS} {L W : Nat} {w p n : Int}  (hR : RepC D ad c L W h) (hC : Cok c L W) (hi_w : -2147483648 ≤ w ∧ w ≤ 2147483647) (hi_p : -2147483648 ≤ p ∧ p ≤ 2147483647) (hi_n : -2147483648 ≤ n ∧ n ≤ 2147483647) : TX l D A yX7_star wsX7_star { frames := 7, cells := 4, slots := 24, locals := 112 } [.ref (ad 0 0), vI w, vI p, vI n] h (fun rv h' => rv = some (vI (c 22 w.toNat p.toNat)) ∧ CP D ad L W h ((cu c 22 w.toNat (fu (c 22 w.toNat) (Int.toNat p) n))) h' ∧ ((0 ≤ w ∧ w < (W : Int)) ∧ (0 ≤ p ∧ p < 6) ∧ (1 ≤ n ∧ n ≤ 5) ∧ 0 ≤ c 18 w.toNat 6 ∧ c 18 w.toNat 1 ≠ p)) (XP (¬ (0 ≤ w ∧ w < (W : Int)) ∨ ¬ (0 ≤ p ∧ p < 6)) ((0 ≤ w ∧ w < (W : Int)) ∧ (0 ≤ p ∧ p < 6) ∧ ¬ (1 ≤ n ∧ n ≤ 5)) ((0 ≤ w ∧ w < (W : Int)) ∧ (0 ≤ p ∧ p < 6) ∧ (1 ≤ n ∧ n ≤ 5) ∧ (c 18 w.toNat 6 < 0 ∨ c 18 w.toNat 1 = p)) h) := by
  refine TX.of (cc := cX7_star) (maxL := 6) (ret := (some .int)) [(0, .ref (ad 0 0)), (1, vI w), (2, vI p), (3, vI n)] (by decide +kernel) rfl rfl (Nat.le_of_ble_eq_true rfl) ?_
  intro κ C hkl G GT
  subst hkl
  have C : CX κ "LedgeLevels" "star" cX7_star wsX7_star { frames := 7, cells := 4, slots := 24, locals := 112 } D A 6 := C
  have hiz : nq (D.1 20) (D.1 21) := cx_iz C
  obtain ⟨hO1, q2, q3, q4, q5⟩ := id hC
  obtain ⟨o1, o2, o3, o4, o5, o6, o7⟩ := id hO1
  refine x_aload_n C dX7_star_0 0 rfl ?_
  refine x_iload_n C dX7_star_1 1 rfl ?_
  have f1 : h (ad 0 0) = some (eO 7 [.ref (ad 1 0), .ref (ad 2 0), .ref (ad 3 0), .ref (ad 4 0), .ref (ad 5 0), vI (c 0 0 5), vI (c 0 0 6)]) := hR.1 0 0 (lv0 (by decide))
  refine x_callVt C (n := 1) (qc := (RX7, TX7, 7)) (As := [vI w]) (rest := []) (c_X7_workOf (hR) (by assumption) (by omega)) gX7_star_X7_workOf (by decide +kernel) f1 rfl rfl rfl rfl (Nat.le_of_ble_eq_true rfl) ⟨by decide, by decide⟩ ⟨(by decide), (by decide)⟩ dX7_star_2 GT (by decide) (by decide) (fun E h9 hx9 => XP.imp hx9 (fun z9 => by first | exact z9.elim | omega) (fun z9 => by first | exact z9.elim | omega) (fun z9 => by first | exact z9.elim | omega)) (fun rv2 h3 hp4 => ?_)
  obtain ⟨rfl, e5, hw_2⟩ := hp4
  obtain rfl := e5.symm
  obtain ⟨⟨g1, g2, g3⟩, ⟨e0, e1, e2, e3, e4, e5, e6⟩⟩ := q4 w.toNat (by omega)
  refine x_astore C (ls' := [(0, .ref (ad 0 0)), (1, vI w), (2, vI p), (3, vI n), (4, .ref (ad 18 w.toNat))]) dX7_star_5 (by decide) rfl ?_
  refine x_iload_n C dX7_star_7 2 rfl ?_
  refine x_callSt C (n := 1) (As := [vI p]) (rest := []) (c_X7_checkPerson (hR) (by omega)) gX7_star_X7_checkPerson (by decide +kernel) rfl rfl rfl (Nat.le_of_ble_eq_true rfl) ⟨by decide, by decide⟩ ⟨(by decide), (by decide)⟩ dX7_star_8 GT (by decide) (by decide) (fun E h9 hx9 => XP.imp hx9 (fun z9 => by first | exact z9.elim | omega) (fun z9 => by first | exact z9.elim | omega) (fun z9 => by first | exact z9.elim | omega)) (fun rv6 h7 hp8 => ?_)
  obtain ⟨rfl, e9, hp_8⟩ := hp8
  obtain rfl := e9.symm
  refine x_iload_n C dX7_star_11 3 rfl ?_
  refine x_iconst C dX7_star_12 1 (by decide) ?_
  refine x_icmp_lt (tgt := 21) C dX7_star_13 (by decide) (by omega) (by omega) (fun c10 => ?_) (fun c10 => ?_)
  · skip
    refine x_throwS C GT (cls := "java/lang/IllegalArgumentException") (text := "no such number of stars") (names := ["java/lang/RuntimeException", "java/lang/Exception"]) (by decide +kernel) (by decide +kernel) kX7_star_0 kX7_star_1 (by decide +kernel) kX7_star_2 (by decide +kernel) (by decide +kernel) dX7_star_21 dX7_star_24 dX7_star_25 dX7_star_27 dX7_star_30 (by decide) (by decide) (by decide) (by decide) (by decide) (by decide) ?_
    exact ⟨rfl, Or.inr (Or.inl ⟨rfl, by omega⟩)⟩
  · skip
    refine x_iload_n C dX7_star_16 3 rfl ?_
    refine x_iconst C dX7_star_17 5 (by decide) ?_
    refine x_icmp_le (tgt := 31) C dX7_star_18 (by decide) (by omega) (by omega) (fun c11 => ?_) (fun c11 => ?_)
    · skip
      refine x_aload C dX7_star_31 4 rfl ?_
      refine x_callSt C (n := 1) (As := [.ref (ad 18 w.toNat)]) (rest := []) (c_X7_checkNotWithdrawn (hR) (by assumption) (by omega)) gX7_star_X7_checkNotWithdrawn (by decide +kernel) rfl rfl rfl (Nat.le_of_ble_eq_true rfl) ⟨by decide, by decide⟩ ⟨(by decide), (by decide)⟩ dX7_star_33 GT (by decide) (by decide) (fun E h9 hx9 => XP.imp hx9 (fun z9 => by first | exact z9.elim | omega) (fun z9 => by first | exact z9.elim | omega) (fun z9 => by first | exact z9.elim | omega)) (fun rv12 h13 hp14 => ?_)
      obtain ⟨rfl, e15, hnw_33⟩ := hp14
      obtain rfl := e15.symm
      refine x_aload C dX7_star_36 4 rfl ?_
      have f16 : h (ad 18 w.toNat) = some (eO 6 [vI (c 18 w.toNat 0), vI (c 18 w.toNat 1), va_rf (prf ad (c 18 w.toNat 2)), .ref (ad 19 w.toNat), vI (c 18 w.toNat 4), .ref (ad 22 w.toNat), vI (c 18 w.toNat 6), vI (c 18 w.toNat 7)]) := hR.1 18 w.toNat (lvW (by decide) (by omega))
      refine x_getN (host := "LedgeLevels") C (v := vI (c 18 w.toNat 1)) f16 (T := TX6) rfl kX7_star_4 1 (by decide) kX7_star_3 rfl dX7_star_38 ?_
      refine x_iload_n C dX7_star_41 2 rfl ?_
      refine x_icmp_ne (tgt := 55) C dX7_star_42 (by decide) (by omega) (by omega) (fun c17 => ?_) (fun c17 => ?_)
      · skip
        refine x_aload C dX7_star_55 4 rfl ?_
        refine x_getN (host := "LedgeLevels") C (v := .ref (ad 22 w.toNat)) f16 (T := TX6) rfl kX7_star_4 5 (by decide) kX7_star_5 rfl dX7_star_57 ?_
        refine x_iload_n C dX7_star_60 2 rfl ?_
        have f18 : h (ad 22 w.toNat) = some (eI D 6 (c 22 w.toNat)) := hR.1 22 w.toNat (lvW (by decide) (by omega))
        refine x_iald C f18 ⟨by omega, by omega⟩ (by decide) dX7_star_61 ?_
        refine x_istore C (ls' := [(0, .ref (ad 0 0)), (1, vI w), (2, vI p), (3, vI n), (4, .ref (ad 18 w.toNat)), (5, vI ((c 22 w.toNat) (Int.toNat p)))]) dX7_star_62 (by decide) rfl ?_
        refine x_aload C dX7_star_64 4 rfl ?_
        refine x_getN (host := "LedgeLevels") C (v := .ref (ad 22 w.toNat)) f16 (T := TX6) rfl kX7_star_4 5 (by decide) kX7_star_5 rfl dX7_star_66 ?_
        refine x_iload_n C dX7_star_69 2 rfl ?_
        refine x_iload_n C dX7_star_70 3 rfl ?_
        refine x_iast C f18 ⟨by omega, by omega⟩ (by decide) dX7_star_71 (x_hn (fun h19 e20 => ?_))
        have f21 : h19 (ad 22 w.toNat) = some (eI D 6 (fu (c 22 w.toNat) (Int.toNat p) n)) := by rw [e20]; exact hu_s
        refine x_iload C dX7_star_72 5 rfl ?_
        refine x_iret C G dX7_star_74 ?_ (by decide) (by decide)
        have cp22 : CP D ad L W h (cu c 22 w.toNat (fu (c 22 w.toNat) (Int.toNat p) n)) h19 := by rw [e20]; exact (CP.up (CP.rf hR) (lvW (by decide) (by omega)) (fu (c 22 w.toNat) (Int.toNat p) n) rfl)
        exact ⟨rfl, cp22, by omega⟩
      · skip
        refine x_throwS C GT (cls := "java/lang/IllegalStateException") (text := "authors do not star their own works") (names := ["java/lang/RuntimeException", "java/lang/Exception"]) (by decide +kernel) (by decide +kernel) kX7_star_6 kX7_star_7 (by decide +kernel) kX7_star_8 (by decide +kernel) (by decide +kernel) dX7_star_45 dX7_star_48 dX7_star_49 dX7_star_51 dX7_star_54 (by decide) (by decide) (by decide) (by decide) (by decide) (by decide) ?_
        exact ⟨rfl, Or.inr (Or.inr ⟨rfl, by omega⟩)⟩
    · skip
      refine x_throwS C GT (cls := "java/lang/IllegalArgumentException") (text := "no such number of stars") (names := ["java/lang/RuntimeException", "java/lang/Exception"]) (by decide +kernel) (by decide +kernel) kX7_star_0 kX7_star_1 (by decide +kernel) kX7_star_2 (by decide +kernel) (by decide +kernel) dX7_star_21 dX7_star_24 dX7_star_25 dX7_star_27 dX7_star_30 (by decide) (by decide) (by decide) (by decide) (by decide) (by decide) ?_
      exact ⟨rfl, Or.inr (Or.inl ⟨rfl, by omega⟩)⟩

theorem kX7_set_0 : Cond.classLink "LedgeLevels" 73 "java/lang/IllegalArgumentException" ∈ wsX7_set := by decide +kernel
theorem kX7_set_1 : Cond.initialized "java/lang/IllegalArgumentException" ∈ wsX7_set := by decide +kernel
theorem kX7_set_2 : ∀ w ∈ (vx_atS "LedgeLevels" 77 "java/lang/IllegalArgumentException" ["java/lang/RuntimeException", "java/lang/Exception"]).filter goodWord, w ∈ wsX7_set := by decide +kernel
theorem kX7_set_3 : Cond.fieldLinkNest "LedgeLevels" 56 "LedgeLevels$Level" "grid" "LLedgeLevels$Grid;" "LedgeLevels" ∈ nwAll := by decide +kernel
theorem kX7_set_4 : ∀ w ∈ wsX30, w ∈ wsX7_set := by decide +kernel
theorem kX7_set_5 : Cond.fieldLinkNest "LedgeLevels" 93 "LedgeLevels$Level" "history" "LLedgeLevels$History;" "LedgeLevels" ∈ nwAll := by decide +kernel
theorem kX7_set_6 : Cond.classLink "LedgeLevels" 88 "java/lang/IllegalStateException" ∈ wsX7_set := by decide +kernel
theorem kX7_set_7 : Cond.initialized "java/lang/IllegalStateException" ∈ wsX7_set := by decide +kernel
theorem kX7_set_8 : ∀ w ∈ (vx_atS "LedgeLevels" 92 "java/lang/IllegalStateException" ["java/lang/RuntimeException", "java/lang/Exception"]).filter goodWord, w ∈ wsX7_set := by decide +kernel
set_option maxRecDepth 100000 in
set_option maxHeartbeats 1000000 in
theorem c_X7_set {l : Launch} {D : va_G} {A : Nat → Prop} {h : vh} {ad : AD} {c : CS} {L W : Nat} {u z k : Int}  (hR : RepC D ad c L W h) (hC : Cok c L W) (hi_u : -2147483648 ≤ u ∧ u ≤ 2147483647) (hi_z : -2147483648 ≤ z ∧ z ≤ 2147483647) (hi_k : -2147483648 ≤ k ∧ k ≤ 2147483647) : TX l D A yX7_set wsX7_set { frames := 7, cells := 3, slots := 18, locals := 112 } [.ref (ad 0 0), vI u, vI z, vI k] h (fun rv h' => rv = some (vI (c 12 u.toNat z.toNat)) ∧ CP D ad L W h ((cu (cu (cu (cu (cu (cu (cu (cu c 15 u.toNat (hrow (c 15 u.toNat) ((c 14 u.toNat 3).toNat) z)) 16 u.toNat (hrow (c 16 u.toNat) ((c 14 u.toNat 3).toNat) (c 12 u.toNat z.toNat))) 17 u.toNat (hrow (c 17 u.toNat) ((c 14 u.toNat 3).toNat) k)) 14 u.toNat (oF [0, 0, 0, ((hd40 ((c 14 u.toNat 3).toNat) + 1 : Nat) : Int), ((0 : Nat) : Int)])) 12 u.toNat (fu (c 12 u.toNat) z.toNat k)) 13 u.toNat (gpq (c 12 u.toNat) (c 13 u.toNat) z k)) 11 u.toNat (oF [0, 0, ((gpa (c 12 u.toNat) (c 13 u.toNat) ((c 11 u.toNat 2).toNat) z k : Nat) : Int)])) 10 u.toNat (oF [c 10 u.toNat 0, c 10 u.toNat 1, 0, 0, c 10 u.toNat 4, (-2)]))) h' ∧ ((0 ≤ u ∧ u < (L : Int)) ∧ (0 ≤ z ∧ z < 96) ∧ (0 ≤ k ∧ k ≤ 8) ∧ ¬ (k = 2 ∧ c 12 u.toNat z.toNat ≠ 2 ∧ 3 ≤ pc3 (c 11 u.toNat 2).toNat))) (XP (¬ (0 ≤ u ∧ u < (L : Int)) ∨ ¬ (0 ≤ z ∧ z < 96)) ((0 ≤ u ∧ u < (L : Int)) ∧ (0 ≤ z ∧ z < 96) ∧ ¬ (0 ≤ k ∧ k ≤ 8)) ((0 ≤ u ∧ u < (L : Int)) ∧ (0 ≤ z ∧ z < 96) ∧ (0 ≤ k ∧ k ≤ 8) ∧ (k = 2 ∧ c 12 u.toNat z.toNat ≠ 2 ∧ 3 ≤ pc3 (c 11 u.toNat 2).toNat)) h) := by
  refine TX.of (cc := cX7_set) (maxL := 6) (ret := (some .int)) [(0, .ref (ad 0 0)), (1, vI u), (2, vI z), (3, vI k)] (by decide +kernel) rfl rfl (Nat.le_of_ble_eq_true rfl) ?_
  intro κ C hkl G GT
  subst hkl
  have C : CX κ "LedgeLevels" "set" cX7_set wsX7_set { frames := 7, cells := 3, slots := 18, locals := 112 } D A 6 := C
  have hiz : nq (D.1 20) (D.1 21) := cx_iz C
  obtain ⟨hO1, q2, q3, q4, q5⟩ := id hC
  obtain ⟨o1, o2, o3, o4, o5, o6, o7⟩ := id hO1
  refine x_aload_n C dX7_set_0 0 rfl ?_
  refine x_iload_n C dX7_set_1 1 rfl ?_
  have f1 : h (ad 0 0) = some (eO 7 [.ref (ad 1 0), .ref (ad 2 0), .ref (ad 3 0), .ref (ad 4 0), .ref (ad 5 0), vI (c 0 0 5), vI (c 0 0 6)]) := hR.1 0 0 (lv0 (by decide))
  refine x_callVt C (n := 1) (qc := (RX7, TX7, 7)) (As := [vI u]) (rest := []) (c_X7_levelOf (hR) (by assumption) (by omega)) gX7_set_X7_levelOf (by decide +kernel) f1 rfl rfl rfl rfl (Nat.le_of_ble_eq_true rfl) ⟨by decide, by decide⟩ ⟨(by decide), (by decide)⟩ dX7_set_2 GT (by decide) (by decide) (fun E h9 hx9 => XP.imp hx9 (fun z9 => by first | exact z9.elim | omega) (fun z9 => by first | exact z9.elim | omega) (fun z9 => by first | exact z9.elim | omega)) (fun rv2 h3 hp4 => ?_)
  obtain ⟨rfl, e5, hu_2⟩ := hp4
  obtain rfl := e5.symm
  obtain ⟨⟨g1, g2, g3⟩, ⟨e0, e1, e2, e3⟩, ⟨k1, k2, k3, k4⟩⟩ := q3 u.toNat (by omega)
  refine x_astore C (ls' := [(0, .ref (ad 0 0)), (1, vI u), (2, vI z), (3, vI k), (4, .ref (ad 10 u.toNat))]) dX7_set_5 (by decide) rfl ?_
  refine x_iload_n C dX7_set_7 2 rfl ?_
  refine x_callSt C (n := 1) (As := [vI z]) (rest := []) (c_X7_checkCell (hR) (by omega)) gX7_set_X7_checkCell (by decide +kernel) rfl rfl rfl (Nat.le_of_ble_eq_true rfl) ⟨by decide, by decide⟩ ⟨(by decide), (by decide)⟩ dX7_set_8 GT (by decide) (by decide) (fun E h9 hx9 => XP.imp hx9 (fun z9 => by first | exact z9.elim | omega) (fun z9 => by first | exact z9.elim | omega) (fun z9 => by first | exact z9.elim | omega)) (fun rv6 h7 hp8 => ?_)
  obtain ⟨rfl, e9, hz_8⟩ := hp8
  obtain rfl := e9.symm
  have gz := g1 z.toNat
  have hpc : pc3 (c 11 u.toNat 2).toNat ≤ 3 := by unfold pc3; omega
  refine x_iload_n C dX7_set_11 3 rfl ?_
  refine x_if_lt (tgt := 21) C dX7_set_12 (by decide) (by omega) (fun c10 => ?_) (fun c10 => ?_)
  · skip
    refine x_throwS C GT (cls := "java/lang/IllegalArgumentException") (text := "no such kind of cell") (names := ["java/lang/RuntimeException", "java/lang/Exception"]) (by decide +kernel) (by decide +kernel) kX7_set_0 kX7_set_1 (by decide +kernel) kX7_set_2 (by decide +kernel) (by decide +kernel) dX7_set_21 dX7_set_24 dX7_set_25 dX7_set_27 dX7_set_30 (by decide) (by decide) (by decide) (by decide) (by decide) (by decide) ?_
    exact ⟨rfl, Or.inr (Or.inl ⟨rfl, by omega⟩)⟩
  · skip
    refine x_iload_n C dX7_set_15 3 rfl ?_
    refine x_bipush C dX7_set_16 8 (by decide) ?_
    refine x_icmp_le (tgt := 31) C dX7_set_18 (by decide) (by omega) (by omega) (fun c11 => ?_) (fun c11 => ?_)
    · skip
      refine x_aload C dX7_set_31 4 rfl ?_
      have f12 : h (ad 10 u.toNat) = some (eO 3 [vI (c 10 u.toNat 0), va_rf (prf ad (c 10 u.toNat 1)), .ref (ad 11 u.toNat), .ref (ad 14 u.toNat), vI (c 10 u.toNat 4), vI (c 10 u.toNat 5)]) := hR.1 10 u.toNat (lvL (by decide) (by omega))
      refine x_getN (host := "LedgeLevels") C (v := .ref (ad 11 u.toNat)) f12 (T := TX3) rfl kX7_set_4 2 (by decide) kX7_set_3 rfl dX7_set_33 ?_
      refine x_iload_n C dX7_set_36 2 rfl ?_
      have f13 : h (ad 11 u.toNat) = some (eO 1 [.ref (ad 12 u.toNat), .ref (ad 13 u.toNat), vI (((c 11 u.toNat 2).toNat : Nat) : Int)]) := hR.1 11 u.toNat (lvL (by decide) (by omega))
      have f14 : h (ad 12 u.toNat) = some (eI D 96 (c 12 u.toNat)) := hR.1 12 u.toNat (lvL (by decide) (by omega))
      refine x_callV C (n := 1) (qc := (RX1, TX1, 3)) (As := [vI z]) (rest := []) (c_X1_kindAt f13 f14 (by omega)) gX7_set_X1_kindAt (by decide +kernel) f13 rfl rfl rfl rfl (Nat.le_of_ble_eq_true rfl) ⟨by decide, by decide⟩ ⟨(by decide), (by decide)⟩ dX7_set_37 (fun rv15 h16 hp17 => ?_)
      obtain ⟨rfl, e18⟩ := hp17
      obtain rfl := e18.symm
      refine x_topv (show kAt (c 12 u.toNat) z = c 12 u.toNat z.toNat from by unfold kAt; rw [if_pos (by omega)]) ?_
      refine x_istore C (ls' := [(0, .ref (ad 0 0)), (1, vI u), (2, vI z), (3, vI k), (4, .ref (ad 10 u.toNat)), (5, vI (c 12 u.toNat z.toNat))]) dX7_set_40 (by decide) rfl ?_
      refine x_iload_n C dX7_set_42 3 rfl ?_
      refine x_iconst C dX7_set_43 2 (by decide) ?_
      refine x_icmp_ne (tgt := 75) C dX7_set_44 (by decide) (by omega) (by omega) (fun c19 => ?_) (fun c19 => ?_)
      · skip
        refine x_aload C dX7_set_75 4 rfl ?_
        refine x_getN (host := "LedgeLevels") C (v := .ref (ad 14 u.toNat)) f12 (T := TX3) rfl kX7_set_4 3 (by decide) kX7_set_5 rfl dX7_set_77 ?_
        refine x_iload_n C dX7_set_80 2 rfl ?_
        refine x_iload C dX7_set_81 5 rfl ?_
        refine x_iload_n C dX7_set_83 3 rfl ?_
        have f20 : h (ad 14 u.toNat) = some (eO 2 [.ref (ad 15 u.toNat), .ref (ad 16 u.toNat), .ref (ad 17 u.toNat), vI (((c 14 u.toNat 3).toNat : Nat) : Int), vI (((c 14 u.toNat 4).toNat : Nat) : Int)]) := hR.1 14 u.toNat (lvL (by decide) (by omega))
        have f21 : h (ad 15 u.toNat) = some (eI D 40 (c 15 u.toNat)) := hR.1 15 u.toNat (lvL (by decide) (by omega))
        have f22 : h (ad 16 u.toNat) = some (eI D 40 (c 16 u.toNat)) := hR.1 16 u.toNat (lvL (by decide) (by omega))
        have f23 : h (ad 17 u.toNat) = some (eI D 40 (c 17 u.toNat)) := hR.1 17 u.toNat (lvL (by decide) (by omega))
        refine x_callV C (n := 3) (qc := (RX2, TX2, 5)) (As := [vI z, vI (c 12 u.toNat z.toNat), vI k]) (rest := []) (c_X2_remember f20 f21 f22 f23 (by omega) ((hR.ne (lvL (by decide) (by omega)) (lvL (by decide) (by omega)) (fun zz9 => absurd zz9.1 (by decide)))) ((hR.ne (lvL (by decide) (by omega)) (lvL (by decide) (by omega)) (fun zz9 => absurd zz9.1 (by decide)))) ((hR.ne (lvL (by decide) (by omega)) (lvL (by decide) (by omega)) (fun zz9 => absurd zz9.1 (by decide))))) gX7_set_X2_remember (by decide +kernel) f20 rfl rfl rfl rfl (Nat.le_of_ble_eq_true rfl) ⟨by decide, by decide⟩ ⟨(by decide), (by decide)⟩ dX7_set_84 (fun rv24 h25 hp26 => ?_)
        obtain ⟨rfl, e27⟩ := hp26
        have f28 : h25 (ad 14 u.toNat) = some (eO 2 [.ref (ad 15 u.toNat), .ref (ad 16 u.toNat), .ref (ad 17 u.toNat), vI ((hd40 ((c 14 u.toNat 3).toNat) + 1 : Nat) : Int), vI ((0 : Nat) : Int)]) := by rw [e27]; exact hu_s
        have f29 : h25 (ad 17 u.toNat) = some (eI D 40 (hrow (c 17 u.toNat) ((c 14 u.toNat 3).toNat) k)) := by rw [e27, hu_n (hR.ne (lvL (by decide) (by omega)) (lvL (by decide) (by omega)) (fun zz9 => absurd zz9.1 (by decide)))]; exact hu_s
        have f30 : h25 (ad 16 u.toNat) = some (eI D 40 (hrow (c 16 u.toNat) ((c 14 u.toNat 3).toNat) (c 12 u.toNat z.toNat))) := by rw [e27, hu_n (hR.ne (lvL (by decide) (by omega)) (lvL (by decide) (by omega)) (fun zz9 => absurd zz9.1 (by decide))), hu_n (hR.ne (lvL (by decide) (by omega)) (lvL (by decide) (by omega)) (fun zz9 => absurd zz9.1 (by decide)))]; exact hu_s
        have f31 : h25 (ad 15 u.toNat) = some (eI D 40 (hrow (c 15 u.toNat) ((c 14 u.toNat 3).toNat) z)) := by rw [e27, hu_n (hR.ne (lvL (by decide) (by omega)) (lvL (by decide) (by omega)) (fun zz9 => absurd zz9.1 (by decide))), hu_n (hR.ne (lvL (by decide) (by omega)) (lvL (by decide) (by omega)) (fun zz9 => absurd zz9.1 (by decide))), hu_n (hR.ne (lvL (by decide) (by omega)) (lvL (by decide) (by omega)) (fun zz9 => absurd zz9.1 (by decide)))]; exact hu_s
        refine x_aload C dX7_set_87 4 rfl ?_
        refine x_iload_n C dX7_set_89 2 rfl ?_
        refine x_iload_n C dX7_set_90 3 rfl ?_
        have f32 : h25 (ad 10 u.toNat) = some (eO 3 [vI (c 10 u.toNat 0), va_rf (prf ad (c 10 u.toNat 1)), .ref (ad 11 u.toNat), .ref (ad 14 u.toNat), vI (c 10 u.toNat 4), vI (c 10 u.toNat 5)]) := by rw [e27, hu_n (hR.ne (lvL (by decide) (by omega)) (lvL (by decide) (by omega)) (fun zz9 => absurd zz9.1 (by decide))), hu_n (hR.ne (lvL (by decide) (by omega)) (lvL (by decide) (by omega)) (fun zz9 => absurd zz9.1 (by decide))), hu_n (hR.ne (lvL (by decide) (by omega)) (lvL (by decide) (by omega)) (fun zz9 => absurd zz9.1 (by decide))), hu_n (hR.ne (lvL (by decide) (by omega)) (lvL (by decide) (by omega)) (fun zz9 => absurd zz9.1 (by decide)))]; exact f12
        have f33 : h25 (ad 11 u.toNat) = some (eO 1 [.ref (ad 12 u.toNat), .ref (ad 13 u.toNat), vI (((c 11 u.toNat 2).toNat : Nat) : Int)]) := by rw [e27, hu_n (hR.ne (lvL (by decide) (by omega)) (lvL (by decide) (by omega)) (fun zz9 => absurd zz9.1 (by decide))), hu_n (hR.ne (lvL (by decide) (by omega)) (lvL (by decide) (by omega)) (fun zz9 => absurd zz9.1 (by decide))), hu_n (hR.ne (lvL (by decide) (by omega)) (lvL (by decide) (by omega)) (fun zz9 => absurd zz9.1 (by decide))), hu_n (hR.ne (lvL (by decide) (by omega)) (lvL (by decide) (by omega)) (fun zz9 => absurd zz9.1 (by decide)))]; exact f13
        have f34 : h25 (ad 12 u.toNat) = some (eI D 96 (c 12 u.toNat)) := by rw [e27, hu_n (hR.ne (lvL (by decide) (by omega)) (lvL (by decide) (by omega)) (fun zz9 => absurd zz9.1 (by decide))), hu_n (hR.ne (lvL (by decide) (by omega)) (lvL (by decide) (by omega)) (fun zz9 => absurd zz9.1 (by decide))), hu_n (hR.ne (lvL (by decide) (by omega)) (lvL (by decide) (by omega)) (fun zz9 => absurd zz9.1 (by decide))), hu_n (hR.ne (lvL (by decide) (by omega)) (lvL (by decide) (by omega)) (fun zz9 => absurd zz9.1 (by decide)))]; exact f14
        have f35 : h (ad 13 u.toNat) = some (eI D 3 (c 13 u.toNat)) := hR.1 13 u.toNat (lvL (by decide) (by omega))
        have f36 : h25 (ad 13 u.toNat) = some (eI D 3 (c 13 u.toNat)) := by rw [e27, hu_n (hR.ne (lvL (by decide) (by omega)) (lvL (by decide) (by omega)) (fun zz9 => absurd zz9.1 (by decide))), hu_n (hR.ne (lvL (by decide) (by omega)) (lvL (by decide) (by omega)) (fun zz9 => absurd zz9.1 (by decide))), hu_n (hR.ne (lvL (by decide) (by omega)) (lvL (by decide) (by omega)) (fun zz9 => absurd zz9.1 (by decide))), hu_n (hR.ne (lvL (by decide) (by omega)) (lvL (by decide) (by omega)) (fun zz9 => absurd zz9.1 (by decide)))]; exact f35
        refine x_callV C (n := 2) (qc := (RX3, TX3, 6)) (As := [vI z, vI k]) (rest := []) (c_X3_putAnew f32 f33 f34 f36 (by omega) (by omega) (by assumption) (by assumption)) gX7_set_X3_putAnew (by decide +kernel) f32 rfl rfl rfl rfl (Nat.le_of_ble_eq_true rfl) ⟨by decide, by decide⟩ ⟨(by decide), (by decide)⟩ dX7_set_91 (fun rv37 h38 hp39 => ?_)
        obtain ⟨rfl, e40⟩ := hp39
        have f41 : h38 (ad 10 u.toNat) = some (eO 3 [vI (c 10 u.toNat 0), va_rf (prf ad (c 10 u.toNat 1)), .ref (ad 11 u.toNat), .ref (ad 14 u.toNat), vI (c 10 u.toNat 4), vI (-2)]) := by rw [e40]; exact hu_s
        have f42 : h38 (ad 11 u.toNat) = some (eO 1 [.ref (ad 12 u.toNat), .ref (ad 13 u.toNat), vI ((gpa (c 12 u.toNat) (c 13 u.toNat) ((c 11 u.toNat 2).toNat) z k : Nat) : Int)]) := by rw [e40, hu_n (hR.ne (lvL (by decide) (by omega)) (lvL (by decide) (by omega)) (fun zz9 => absurd zz9.1 (by decide)))]; exact hu_s
        have f43 : h38 (ad 13 u.toNat) = some (eI D 3 (gpq (c 12 u.toNat) (c 13 u.toNat) z k)) := by rw [e40, hu_n (hR.ne (lvL (by decide) (by omega)) (lvL (by decide) (by omega)) (fun zz9 => absurd zz9.1 (by decide))), hu_n (hR.ne (lvL (by decide) (by omega)) (lvL (by decide) (by omega)) (fun zz9 => absurd zz9.1 (by decide)))]; exact hu_s
        have f44 : h38 (ad 12 u.toNat) = some (eI D 96 (fu (c 12 u.toNat) z.toNat k)) := by rw [e40, hu_n (hR.ne (lvL (by decide) (by omega)) (lvL (by decide) (by omega)) (fun zz9 => absurd zz9.1 (by decide))), hu_n (hR.ne (lvL (by decide) (by omega)) (lvL (by decide) (by omega)) (fun zz9 => absurd zz9.1 (by decide))), hu_n (hR.ne (lvL (by decide) (by omega)) (lvL (by decide) (by omega)) (fun zz9 => absurd zz9.1 (by decide)))]; exact hu_s
        refine x_iload C dX7_set_94 5 rfl ?_
        refine x_iret C G dX7_set_96 ?_ (by decide) (by decide)
        have cp45 : CP D ad L W h (cu (cu (cu (cu (cu (cu (cu (cu c 15 u.toNat (hrow (c 15 u.toNat) ((c 14 u.toNat 3).toNat) z)) 16 u.toNat (hrow (c 16 u.toNat) ((c 14 u.toNat 3).toNat) (c 12 u.toNat z.toNat))) 17 u.toNat (hrow (c 17 u.toNat) ((c 14 u.toNat 3).toNat) k)) 14 u.toNat (oF [0, 0, 0, ((hd40 ((c 14 u.toNat 3).toNat) + 1 : Nat) : Int), ((0 : Nat) : Int)])) 12 u.toNat (fu (c 12 u.toNat) z.toNat k)) 13 u.toNat (gpq (c 12 u.toNat) (c 13 u.toNat) z k)) 11 u.toNat (oF [0, 0, ((gpa (c 12 u.toNat) (c 13 u.toNat) ((c 11 u.toNat 2).toNat) z k : Nat) : Int)])) 10 u.toNat (oF [c 10 u.toNat 0, c 10 u.toNat 1, 0, 0, c 10 u.toNat 4, (-2)])) h38 := by rw [e40, e27]; exact (CP.up (CP.up (CP.up (CP.up (CP.up (CP.up (CP.up (CP.up (CP.rf hR) (lvL (by decide) (by omega)) (hrow (c 15 u.toNat) ((c 14 u.toNat 3).toNat) z) rfl) (lvL (by decide) (by omega)) (hrow (c 16 u.toNat) ((c 14 u.toNat 3).toNat) (c 12 u.toNat z.toNat)) rfl) (lvL (by decide) (by omega)) (hrow (c 17 u.toNat) ((c 14 u.toNat 3).toNat) k) rfl) (lvL (by decide) (by omega)) (oF [0, 0, 0, ((hd40 ((c 14 u.toNat 3).toNat) + 1 : Nat) : Int), ((0 : Nat) : Int)]) rfl) (lvL (by decide) (by omega)) (fu (c 12 u.toNat) z.toNat k) rfl) (lvL (by decide) (by omega)) (gpq (c 12 u.toNat) (c 13 u.toNat) z k) rfl) (lvL (by decide) (by omega)) (oF [0, 0, ((gpa (c 12 u.toNat) (c 13 u.toNat) ((c 11 u.toNat 2).toNat) z k : Nat) : Int)]) rfl) (lvL (by decide) (by omega)) (oF [c 10 u.toNat 0, c 10 u.toNat 1, 0, 0, c 10 u.toNat 4, (-2)]) rfl)
        exact ⟨rfl, cp45, by omega⟩
      · skip
        refine x_iload C dX7_set_47 5 rfl ?_
        refine x_iconst C dX7_set_49 2 (by decide) ?_
        refine x_icmp_eq (tgt := 75) C dX7_set_50 (by decide) (by omega) (by omega) (fun c46 => ?_) (fun c46 => ?_)
        · skip
          refine x_aload C dX7_set_75 4 rfl ?_
          refine x_getN (host := "LedgeLevels") C (v := .ref (ad 14 u.toNat)) f12 (T := TX3) rfl kX7_set_4 3 (by decide) kX7_set_5 rfl dX7_set_77 ?_
          refine x_iload_n C dX7_set_80 2 rfl ?_
          refine x_iload C dX7_set_81 5 rfl ?_
          refine x_iload_n C dX7_set_83 3 rfl ?_
          have f47 : h (ad 14 u.toNat) = some (eO 2 [.ref (ad 15 u.toNat), .ref (ad 16 u.toNat), .ref (ad 17 u.toNat), vI (((c 14 u.toNat 3).toNat : Nat) : Int), vI (((c 14 u.toNat 4).toNat : Nat) : Int)]) := hR.1 14 u.toNat (lvL (by decide) (by omega))
          have f48 : h (ad 15 u.toNat) = some (eI D 40 (c 15 u.toNat)) := hR.1 15 u.toNat (lvL (by decide) (by omega))
          have f49 : h (ad 16 u.toNat) = some (eI D 40 (c 16 u.toNat)) := hR.1 16 u.toNat (lvL (by decide) (by omega))
          have f50 : h (ad 17 u.toNat) = some (eI D 40 (c 17 u.toNat)) := hR.1 17 u.toNat (lvL (by decide) (by omega))
          refine x_callV C (n := 3) (qc := (RX2, TX2, 5)) (As := [vI z, vI (c 12 u.toNat z.toNat), vI k]) (rest := []) (c_X2_remember f47 f48 f49 f50 (by omega) ((hR.ne (lvL (by decide) (by omega)) (lvL (by decide) (by omega)) (fun zz9 => absurd zz9.1 (by decide)))) ((hR.ne (lvL (by decide) (by omega)) (lvL (by decide) (by omega)) (fun zz9 => absurd zz9.1 (by decide)))) ((hR.ne (lvL (by decide) (by omega)) (lvL (by decide) (by omega)) (fun zz9 => absurd zz9.1 (by decide))))) gX7_set_X2_remember (by decide +kernel) f47 rfl rfl rfl rfl (Nat.le_of_ble_eq_true rfl) ⟨by decide, by decide⟩ ⟨(by decide), (by decide)⟩ dX7_set_84 (fun rv51 h52 hp53 => ?_)
          obtain ⟨rfl, e54⟩ := hp53
          have f55 : h52 (ad 14 u.toNat) = some (eO 2 [.ref (ad 15 u.toNat), .ref (ad 16 u.toNat), .ref (ad 17 u.toNat), vI ((hd40 ((c 14 u.toNat 3).toNat) + 1 : Nat) : Int), vI ((0 : Nat) : Int)]) := by rw [e54]; exact hu_s
          have f56 : h52 (ad 17 u.toNat) = some (eI D 40 (hrow (c 17 u.toNat) ((c 14 u.toNat 3).toNat) k)) := by rw [e54, hu_n (hR.ne (lvL (by decide) (by omega)) (lvL (by decide) (by omega)) (fun zz9 => absurd zz9.1 (by decide)))]; exact hu_s
          have f57 : h52 (ad 16 u.toNat) = some (eI D 40 (hrow (c 16 u.toNat) ((c 14 u.toNat 3).toNat) (c 12 u.toNat z.toNat))) := by rw [e54, hu_n (hR.ne (lvL (by decide) (by omega)) (lvL (by decide) (by omega)) (fun zz9 => absurd zz9.1 (by decide))), hu_n (hR.ne (lvL (by decide) (by omega)) (lvL (by decide) (by omega)) (fun zz9 => absurd zz9.1 (by decide)))]; exact hu_s
          have f58 : h52 (ad 15 u.toNat) = some (eI D 40 (hrow (c 15 u.toNat) ((c 14 u.toNat 3).toNat) z)) := by rw [e54, hu_n (hR.ne (lvL (by decide) (by omega)) (lvL (by decide) (by omega)) (fun zz9 => absurd zz9.1 (by decide))), hu_n (hR.ne (lvL (by decide) (by omega)) (lvL (by decide) (by omega)) (fun zz9 => absurd zz9.1 (by decide))), hu_n (hR.ne (lvL (by decide) (by omega)) (lvL (by decide) (by omega)) (fun zz9 => absurd zz9.1 (by decide)))]; exact hu_s
          refine x_aload C dX7_set_87 4 rfl ?_
          refine x_iload_n C dX7_set_89 2 rfl ?_
          refine x_iload_n C dX7_set_90 3 rfl ?_
          have f59 : h52 (ad 10 u.toNat) = some (eO 3 [vI (c 10 u.toNat 0), va_rf (prf ad (c 10 u.toNat 1)), .ref (ad 11 u.toNat), .ref (ad 14 u.toNat), vI (c 10 u.toNat 4), vI (c 10 u.toNat 5)]) := by rw [e54, hu_n (hR.ne (lvL (by decide) (by omega)) (lvL (by decide) (by omega)) (fun zz9 => absurd zz9.1 (by decide))), hu_n (hR.ne (lvL (by decide) (by omega)) (lvL (by decide) (by omega)) (fun zz9 => absurd zz9.1 (by decide))), hu_n (hR.ne (lvL (by decide) (by omega)) (lvL (by decide) (by omega)) (fun zz9 => absurd zz9.1 (by decide))), hu_n (hR.ne (lvL (by decide) (by omega)) (lvL (by decide) (by omega)) (fun zz9 => absurd zz9.1 (by decide)))]; exact f12
          have f60 : h52 (ad 11 u.toNat) = some (eO 1 [.ref (ad 12 u.toNat), .ref (ad 13 u.toNat), vI (((c 11 u.toNat 2).toNat : Nat) : Int)]) := by rw [e54, hu_n (hR.ne (lvL (by decide) (by omega)) (lvL (by decide) (by omega)) (fun zz9 => absurd zz9.1 (by decide))), hu_n (hR.ne (lvL (by decide) (by omega)) (lvL (by decide) (by omega)) (fun zz9 => absurd zz9.1 (by decide))), hu_n (hR.ne (lvL (by decide) (by omega)) (lvL (by decide) (by omega)) (fun zz9 => absurd zz9.1 (by decide))), hu_n (hR.ne (lvL (by decide) (by omega)) (lvL (by decide) (by omega)) (fun zz9 => absurd zz9.1 (by decide)))]; exact f13
          have f61 : h52 (ad 12 u.toNat) = some (eI D 96 (c 12 u.toNat)) := by rw [e54, hu_n (hR.ne (lvL (by decide) (by omega)) (lvL (by decide) (by omega)) (fun zz9 => absurd zz9.1 (by decide))), hu_n (hR.ne (lvL (by decide) (by omega)) (lvL (by decide) (by omega)) (fun zz9 => absurd zz9.1 (by decide))), hu_n (hR.ne (lvL (by decide) (by omega)) (lvL (by decide) (by omega)) (fun zz9 => absurd zz9.1 (by decide))), hu_n (hR.ne (lvL (by decide) (by omega)) (lvL (by decide) (by omega)) (fun zz9 => absurd zz9.1 (by decide)))]; exact f14
          have f62 : h (ad 13 u.toNat) = some (eI D 3 (c 13 u.toNat)) := hR.1 13 u.toNat (lvL (by decide) (by omega))
          have f63 : h52 (ad 13 u.toNat) = some (eI D 3 (c 13 u.toNat)) := by rw [e54, hu_n (hR.ne (lvL (by decide) (by omega)) (lvL (by decide) (by omega)) (fun zz9 => absurd zz9.1 (by decide))), hu_n (hR.ne (lvL (by decide) (by omega)) (lvL (by decide) (by omega)) (fun zz9 => absurd zz9.1 (by decide))), hu_n (hR.ne (lvL (by decide) (by omega)) (lvL (by decide) (by omega)) (fun zz9 => absurd zz9.1 (by decide))), hu_n (hR.ne (lvL (by decide) (by omega)) (lvL (by decide) (by omega)) (fun zz9 => absurd zz9.1 (by decide)))]; exact f62
          refine x_callV C (n := 2) (qc := (RX3, TX3, 6)) (As := [vI z, vI k]) (rest := []) (c_X3_putAnew f59 f60 f61 f63 (by omega) (by omega) (by assumption) (by assumption)) gX7_set_X3_putAnew (by decide +kernel) f59 rfl rfl rfl rfl (Nat.le_of_ble_eq_true rfl) ⟨by decide, by decide⟩ ⟨(by decide), (by decide)⟩ dX7_set_91 (fun rv64 h65 hp66 => ?_)
          obtain ⟨rfl, e67⟩ := hp66
          have f68 : h65 (ad 10 u.toNat) = some (eO 3 [vI (c 10 u.toNat 0), va_rf (prf ad (c 10 u.toNat 1)), .ref (ad 11 u.toNat), .ref (ad 14 u.toNat), vI (c 10 u.toNat 4), vI (-2)]) := by rw [e67]; exact hu_s
          have f69 : h65 (ad 11 u.toNat) = some (eO 1 [.ref (ad 12 u.toNat), .ref (ad 13 u.toNat), vI ((gpa (c 12 u.toNat) (c 13 u.toNat) ((c 11 u.toNat 2).toNat) z k : Nat) : Int)]) := by rw [e67, hu_n (hR.ne (lvL (by decide) (by omega)) (lvL (by decide) (by omega)) (fun zz9 => absurd zz9.1 (by decide)))]; exact hu_s
          have f70 : h65 (ad 13 u.toNat) = some (eI D 3 (gpq (c 12 u.toNat) (c 13 u.toNat) z k)) := by rw [e67, hu_n (hR.ne (lvL (by decide) (by omega)) (lvL (by decide) (by omega)) (fun zz9 => absurd zz9.1 (by decide))), hu_n (hR.ne (lvL (by decide) (by omega)) (lvL (by decide) (by omega)) (fun zz9 => absurd zz9.1 (by decide)))]; exact hu_s
          have f71 : h65 (ad 12 u.toNat) = some (eI D 96 (fu (c 12 u.toNat) z.toNat k)) := by rw [e67, hu_n (hR.ne (lvL (by decide) (by omega)) (lvL (by decide) (by omega)) (fun zz9 => absurd zz9.1 (by decide))), hu_n (hR.ne (lvL (by decide) (by omega)) (lvL (by decide) (by omega)) (fun zz9 => absurd zz9.1 (by decide))), hu_n (hR.ne (lvL (by decide) (by omega)) (lvL (by decide) (by omega)) (fun zz9 => absurd zz9.1 (by decide)))]; exact hu_s
          refine x_iload C dX7_set_94 5 rfl ?_
          refine x_iret C G dX7_set_96 ?_ (by decide) (by decide)
          have cp72 : CP D ad L W h (cu (cu (cu (cu (cu (cu (cu (cu c 15 u.toNat (hrow (c 15 u.toNat) ((c 14 u.toNat 3).toNat) z)) 16 u.toNat (hrow (c 16 u.toNat) ((c 14 u.toNat 3).toNat) (c 12 u.toNat z.toNat))) 17 u.toNat (hrow (c 17 u.toNat) ((c 14 u.toNat 3).toNat) k)) 14 u.toNat (oF [0, 0, 0, ((hd40 ((c 14 u.toNat 3).toNat) + 1 : Nat) : Int), ((0 : Nat) : Int)])) 12 u.toNat (fu (c 12 u.toNat) z.toNat k)) 13 u.toNat (gpq (c 12 u.toNat) (c 13 u.toNat) z k)) 11 u.toNat (oF [0, 0, ((gpa (c 12 u.toNat) (c 13 u.toNat) ((c 11 u.toNat 2).toNat) z k : Nat) : Int)])) 10 u.toNat (oF [c 10 u.toNat 0, c 10 u.toNat 1, 0, 0, c 10 u.toNat 4, (-2)])) h65 := by rw [e67, e54]; exact (CP.up (CP.up (CP.up (CP.up (CP.up (CP.up (CP.up (CP.up (CP.rf hR) (lvL (by decide) (by omega)) (hrow (c 15 u.toNat) ((c 14 u.toNat 3).toNat) z) rfl) (lvL (by decide) (by omega)) (hrow (c 16 u.toNat) ((c 14 u.toNat 3).toNat) (c 12 u.toNat z.toNat)) rfl) (lvL (by decide) (by omega)) (hrow (c 17 u.toNat) ((c 14 u.toNat 3).toNat) k) rfl) (lvL (by decide) (by omega)) (oF [0, 0, 0, ((hd40 ((c 14 u.toNat 3).toNat) + 1 : Nat) : Int), ((0 : Nat) : Int)]) rfl) (lvL (by decide) (by omega)) (fu (c 12 u.toNat) z.toNat k) rfl) (lvL (by decide) (by omega)) (gpq (c 12 u.toNat) (c 13 u.toNat) z k) rfl) (lvL (by decide) (by omega)) (oF [0, 0, ((gpa (c 12 u.toNat) (c 13 u.toNat) ((c 11 u.toNat 2).toNat) z k : Nat) : Int)]) rfl) (lvL (by decide) (by omega)) (oF [c 10 u.toNat 0, c 10 u.toNat 1, 0, 0, c 10 u.toNat 4, (-2)]) rfl)
          exact ⟨rfl, cp72, by omega⟩
        · skip
          refine x_aload C dX7_set_53 4 rfl ?_
          refine x_getN (host := "LedgeLevels") C (v := .ref (ad 11 u.toNat)) f12 (T := TX3) rfl kX7_set_4 2 (by decide) kX7_set_3 rfl dX7_set_55 ?_
          refine x_callV C (n := 0) (qc := (RX1, TX1, 3)) (As := []) (rest := []) (c_X1_keyCount f13 (by omega)) gX7_set_X1_keyCount (by decide +kernel) f13 rfl rfl rfl rfl (Nat.le_of_ble_eq_true rfl) ⟨by decide, by decide⟩ ⟨(by decide), (by decide)⟩ dX7_set_58 (fun rv73 h74 hp75 => ?_)
          obtain ⟨rfl, e76⟩ := hp75
          obtain rfl := e76.symm
          refine x_iconst C dX7_set_61 3 (by decide) ?_
          refine x_icmp_lt (tgt := 75) C dX7_set_62 (by decide) (by omega) (by omega) (fun c77 => ?_) (fun c77 => ?_)
          · skip
            refine x_aload C dX7_set_75 4 rfl ?_
            refine x_getN (host := "LedgeLevels") C (v := .ref (ad 14 u.toNat)) f12 (T := TX3) rfl kX7_set_4 3 (by decide) kX7_set_5 rfl dX7_set_77 ?_
            refine x_iload_n C dX7_set_80 2 rfl ?_
            refine x_iload C dX7_set_81 5 rfl ?_
            refine x_iload_n C dX7_set_83 3 rfl ?_
            have f78 : h (ad 14 u.toNat) = some (eO 2 [.ref (ad 15 u.toNat), .ref (ad 16 u.toNat), .ref (ad 17 u.toNat), vI (((c 14 u.toNat 3).toNat : Nat) : Int), vI (((c 14 u.toNat 4).toNat : Nat) : Int)]) := hR.1 14 u.toNat (lvL (by decide) (by omega))
            have f79 : h (ad 15 u.toNat) = some (eI D 40 (c 15 u.toNat)) := hR.1 15 u.toNat (lvL (by decide) (by omega))
            have f80 : h (ad 16 u.toNat) = some (eI D 40 (c 16 u.toNat)) := hR.1 16 u.toNat (lvL (by decide) (by omega))
            have f81 : h (ad 17 u.toNat) = some (eI D 40 (c 17 u.toNat)) := hR.1 17 u.toNat (lvL (by decide) (by omega))
            refine x_callV C (n := 3) (qc := (RX2, TX2, 5)) (As := [vI z, vI (c 12 u.toNat z.toNat), vI k]) (rest := []) (c_X2_remember f78 f79 f80 f81 (by omega) ((hR.ne (lvL (by decide) (by omega)) (lvL (by decide) (by omega)) (fun zz9 => absurd zz9.1 (by decide)))) ((hR.ne (lvL (by decide) (by omega)) (lvL (by decide) (by omega)) (fun zz9 => absurd zz9.1 (by decide)))) ((hR.ne (lvL (by decide) (by omega)) (lvL (by decide) (by omega)) (fun zz9 => absurd zz9.1 (by decide))))) gX7_set_X2_remember (by decide +kernel) f78 rfl rfl rfl rfl (Nat.le_of_ble_eq_true rfl) ⟨by decide, by decide⟩ ⟨(by decide), (by decide)⟩ dX7_set_84 (fun rv82 h83 hp84 => ?_)
            obtain ⟨rfl, e85⟩ := hp84
            have f86 : h83 (ad 14 u.toNat) = some (eO 2 [.ref (ad 15 u.toNat), .ref (ad 16 u.toNat), .ref (ad 17 u.toNat), vI ((hd40 ((c 14 u.toNat 3).toNat) + 1 : Nat) : Int), vI ((0 : Nat) : Int)]) := by rw [e85]; exact hu_s
            have f87 : h83 (ad 17 u.toNat) = some (eI D 40 (hrow (c 17 u.toNat) ((c 14 u.toNat 3).toNat) k)) := by rw [e85, hu_n (hR.ne (lvL (by decide) (by omega)) (lvL (by decide) (by omega)) (fun zz9 => absurd zz9.1 (by decide)))]; exact hu_s
            have f88 : h83 (ad 16 u.toNat) = some (eI D 40 (hrow (c 16 u.toNat) ((c 14 u.toNat 3).toNat) (c 12 u.toNat z.toNat))) := by rw [e85, hu_n (hR.ne (lvL (by decide) (by omega)) (lvL (by decide) (by omega)) (fun zz9 => absurd zz9.1 (by decide))), hu_n (hR.ne (lvL (by decide) (by omega)) (lvL (by decide) (by omega)) (fun zz9 => absurd zz9.1 (by decide)))]; exact hu_s
            have f89 : h83 (ad 15 u.toNat) = some (eI D 40 (hrow (c 15 u.toNat) ((c 14 u.toNat 3).toNat) z)) := by rw [e85, hu_n (hR.ne (lvL (by decide) (by omega)) (lvL (by decide) (by omega)) (fun zz9 => absurd zz9.1 (by decide))), hu_n (hR.ne (lvL (by decide) (by omega)) (lvL (by decide) (by omega)) (fun zz9 => absurd zz9.1 (by decide))), hu_n (hR.ne (lvL (by decide) (by omega)) (lvL (by decide) (by omega)) (fun zz9 => absurd zz9.1 (by decide)))]; exact hu_s
            refine x_aload C dX7_set_87 4 rfl ?_
            refine x_iload_n C dX7_set_89 2 rfl ?_
            refine x_iload_n C dX7_set_90 3 rfl ?_
            have f90 : h83 (ad 10 u.toNat) = some (eO 3 [vI (c 10 u.toNat 0), va_rf (prf ad (c 10 u.toNat 1)), .ref (ad 11 u.toNat), .ref (ad 14 u.toNat), vI (c 10 u.toNat 4), vI (c 10 u.toNat 5)]) := by rw [e85, hu_n (hR.ne (lvL (by decide) (by omega)) (lvL (by decide) (by omega)) (fun zz9 => absurd zz9.1 (by decide))), hu_n (hR.ne (lvL (by decide) (by omega)) (lvL (by decide) (by omega)) (fun zz9 => absurd zz9.1 (by decide))), hu_n (hR.ne (lvL (by decide) (by omega)) (lvL (by decide) (by omega)) (fun zz9 => absurd zz9.1 (by decide))), hu_n (hR.ne (lvL (by decide) (by omega)) (lvL (by decide) (by omega)) (fun zz9 => absurd zz9.1 (by decide)))]; exact f12
            have f91 : h83 (ad 11 u.toNat) = some (eO 1 [.ref (ad 12 u.toNat), .ref (ad 13 u.toNat), vI (((c 11 u.toNat 2).toNat : Nat) : Int)]) := by rw [e85, hu_n (hR.ne (lvL (by decide) (by omega)) (lvL (by decide) (by omega)) (fun zz9 => absurd zz9.1 (by decide))), hu_n (hR.ne (lvL (by decide) (by omega)) (lvL (by decide) (by omega)) (fun zz9 => absurd zz9.1 (by decide))), hu_n (hR.ne (lvL (by decide) (by omega)) (lvL (by decide) (by omega)) (fun zz9 => absurd zz9.1 (by decide))), hu_n (hR.ne (lvL (by decide) (by omega)) (lvL (by decide) (by omega)) (fun zz9 => absurd zz9.1 (by decide)))]; exact f13
            have f92 : h83 (ad 12 u.toNat) = some (eI D 96 (c 12 u.toNat)) := by rw [e85, hu_n (hR.ne (lvL (by decide) (by omega)) (lvL (by decide) (by omega)) (fun zz9 => absurd zz9.1 (by decide))), hu_n (hR.ne (lvL (by decide) (by omega)) (lvL (by decide) (by omega)) (fun zz9 => absurd zz9.1 (by decide))), hu_n (hR.ne (lvL (by decide) (by omega)) (lvL (by decide) (by omega)) (fun zz9 => absurd zz9.1 (by decide))), hu_n (hR.ne (lvL (by decide) (by omega)) (lvL (by decide) (by omega)) (fun zz9 => absurd zz9.1 (by decide)))]; exact f14
            have f93 : h (ad 13 u.toNat) = some (eI D 3 (c 13 u.toNat)) := hR.1 13 u.toNat (lvL (by decide) (by omega))
            have f94 : h83 (ad 13 u.toNat) = some (eI D 3 (c 13 u.toNat)) := by rw [e85, hu_n (hR.ne (lvL (by decide) (by omega)) (lvL (by decide) (by omega)) (fun zz9 => absurd zz9.1 (by decide))), hu_n (hR.ne (lvL (by decide) (by omega)) (lvL (by decide) (by omega)) (fun zz9 => absurd zz9.1 (by decide))), hu_n (hR.ne (lvL (by decide) (by omega)) (lvL (by decide) (by omega)) (fun zz9 => absurd zz9.1 (by decide))), hu_n (hR.ne (lvL (by decide) (by omega)) (lvL (by decide) (by omega)) (fun zz9 => absurd zz9.1 (by decide)))]; exact f93
            refine x_callV C (n := 2) (qc := (RX3, TX3, 6)) (As := [vI z, vI k]) (rest := []) (c_X3_putAnew f90 f91 f92 f94 (by omega) (by omega) (by assumption) (by assumption)) gX7_set_X3_putAnew (by decide +kernel) f90 rfl rfl rfl rfl (Nat.le_of_ble_eq_true rfl) ⟨by decide, by decide⟩ ⟨(by decide), (by decide)⟩ dX7_set_91 (fun rv95 h96 hp97 => ?_)
            obtain ⟨rfl, e98⟩ := hp97
            have f99 : h96 (ad 10 u.toNat) = some (eO 3 [vI (c 10 u.toNat 0), va_rf (prf ad (c 10 u.toNat 1)), .ref (ad 11 u.toNat), .ref (ad 14 u.toNat), vI (c 10 u.toNat 4), vI (-2)]) := by rw [e98]; exact hu_s
            have f100 : h96 (ad 11 u.toNat) = some (eO 1 [.ref (ad 12 u.toNat), .ref (ad 13 u.toNat), vI ((gpa (c 12 u.toNat) (c 13 u.toNat) ((c 11 u.toNat 2).toNat) z k : Nat) : Int)]) := by rw [e98, hu_n (hR.ne (lvL (by decide) (by omega)) (lvL (by decide) (by omega)) (fun zz9 => absurd zz9.1 (by decide)))]; exact hu_s
            have f101 : h96 (ad 13 u.toNat) = some (eI D 3 (gpq (c 12 u.toNat) (c 13 u.toNat) z k)) := by rw [e98, hu_n (hR.ne (lvL (by decide) (by omega)) (lvL (by decide) (by omega)) (fun zz9 => absurd zz9.1 (by decide))), hu_n (hR.ne (lvL (by decide) (by omega)) (lvL (by decide) (by omega)) (fun zz9 => absurd zz9.1 (by decide)))]; exact hu_s
            have f102 : h96 (ad 12 u.toNat) = some (eI D 96 (fu (c 12 u.toNat) z.toNat k)) := by rw [e98, hu_n (hR.ne (lvL (by decide) (by omega)) (lvL (by decide) (by omega)) (fun zz9 => absurd zz9.1 (by decide))), hu_n (hR.ne (lvL (by decide) (by omega)) (lvL (by decide) (by omega)) (fun zz9 => absurd zz9.1 (by decide))), hu_n (hR.ne (lvL (by decide) (by omega)) (lvL (by decide) (by omega)) (fun zz9 => absurd zz9.1 (by decide)))]; exact hu_s
            refine x_iload C dX7_set_94 5 rfl ?_
            refine x_iret C G dX7_set_96 ?_ (by decide) (by decide)
            have cp103 : CP D ad L W h (cu (cu (cu (cu (cu (cu (cu (cu c 15 u.toNat (hrow (c 15 u.toNat) ((c 14 u.toNat 3).toNat) z)) 16 u.toNat (hrow (c 16 u.toNat) ((c 14 u.toNat 3).toNat) (c 12 u.toNat z.toNat))) 17 u.toNat (hrow (c 17 u.toNat) ((c 14 u.toNat 3).toNat) k)) 14 u.toNat (oF [0, 0, 0, ((hd40 ((c 14 u.toNat 3).toNat) + 1 : Nat) : Int), ((0 : Nat) : Int)])) 12 u.toNat (fu (c 12 u.toNat) z.toNat k)) 13 u.toNat (gpq (c 12 u.toNat) (c 13 u.toNat) z k)) 11 u.toNat (oF [0, 0, ((gpa (c 12 u.toNat) (c 13 u.toNat) ((c 11 u.toNat 2).toNat) z k : Nat) : Int)])) 10 u.toNat (oF [c 10 u.toNat 0, c 10 u.toNat 1, 0, 0, c 10 u.toNat 4, (-2)])) h96 := by rw [e98, e85]; exact (CP.up (CP.up (CP.up (CP.up (CP.up (CP.up (CP.up (CP.up (CP.rf hR) (lvL (by decide) (by omega)) (hrow (c 15 u.toNat) ((c 14 u.toNat 3).toNat) z) rfl) (lvL (by decide) (by omega)) (hrow (c 16 u.toNat) ((c 14 u.toNat 3).toNat) (c 12 u.toNat z.toNat)) rfl) (lvL (by decide) (by omega)) (hrow (c 17 u.toNat) ((c 14 u.toNat 3).toNat) k) rfl) (lvL (by decide) (by omega)) (oF [0, 0, 0, ((hd40 ((c 14 u.toNat 3).toNat) + 1 : Nat) : Int), ((0 : Nat) : Int)]) rfl) (lvL (by decide) (by omega)) (fu (c 12 u.toNat) z.toNat k) rfl) (lvL (by decide) (by omega)) (gpq (c 12 u.toNat) (c 13 u.toNat) z k) rfl) (lvL (by decide) (by omega)) (oF [0, 0, ((gpa (c 12 u.toNat) (c 13 u.toNat) ((c 11 u.toNat 2).toNat) z k : Nat) : Int)]) rfl) (lvL (by decide) (by omega)) (oF [c 10 u.toNat 0, c 10 u.toNat 1, 0, 0, c 10 u.toNat 4, (-2)]) rfl)
            exact ⟨rfl, cp103, by omega⟩
          · skip
            refine x_throwS C GT (cls := "java/lang/IllegalStateException") (text := "too many keys") (names := ["java/lang/RuntimeException", "java/lang/Exception"]) (by decide +kernel) (by decide +kernel) kX7_set_6 kX7_set_7 (by decide +kernel) kX7_set_8 (by decide +kernel) (by decide +kernel) dX7_set_65 dX7_set_68 dX7_set_69 dX7_set_71 dX7_set_74 (by decide) (by decide) (by decide) (by decide) (by decide) (by decide) ?_
            exact ⟨rfl, Or.inr (Or.inr ⟨rfl, by omega⟩)⟩
    · skip
      refine x_throwS C GT (cls := "java/lang/IllegalArgumentException") (text := "no such kind of cell") (names := ["java/lang/RuntimeException", "java/lang/Exception"]) (by decide +kernel) (by decide +kernel) kX7_set_0 kX7_set_1 (by decide +kernel) kX7_set_2 (by decide +kernel) (by decide +kernel) dX7_set_21 dX7_set_24 dX7_set_25 dX7_set_27 dX7_set_30 (by decide) (by decide) (by decide) (by decide) (by decide) (by decide) ?_
      exact ⟨rfl, Or.inr (Or.inl ⟨rfl, by omega⟩)⟩

theorem kX7_undo_0 : Cond.fieldLinkNest "LedgeLevels" 93 "LedgeLevels$Level" "history" "LLedgeLevels$History;" "LedgeLevels" ∈ nwAll := by decide +kernel
theorem kX7_undo_1 : ∀ w ∈ wsX30, w ∈ wsX7_undo := by decide +kernel
theorem kX7_undo_2 : Cond.fieldLinkNest "LedgeLevels" 112 "LedgeLevels$History" "done" "I" "LedgeLevels" ∈ nwAll := by decide +kernel
theorem kX7_undo_3 : ∀ w ∈ wsX20, w ∈ wsX7_undo := by decide +kernel
theorem kX7_undo_4 : Cond.classLink "LedgeLevels" 88 "java/lang/IllegalStateException" ∈ wsX7_undo := by decide +kernel
theorem kX7_undo_5 : Cond.initialized "java/lang/IllegalStateException" ∈ wsX7_undo := by decide +kernel
theorem kX7_undo_6 : ∀ w ∈ (vx_atS "LedgeLevels" 92 "java/lang/IllegalStateException" ["java/lang/RuntimeException", "java/lang/Exception"]).filter goodWord, w ∈ wsX7_undo := by decide +kernel
set_option maxRecDepth 100000 in
set_option maxHeartbeats 1000000 in
theorem c_X7_undo {l : Launch} {D : va_G} {A : Nat → Prop} {h : vh} {ad : AD} {c : CS} {L W : Nat} {u : Int}  (hR : RepC D ad c L W h) (hC : Cok c L W) (hi_u : -2147483648 ≤ u ∧ u ≤ 2147483647) : TX l D A yX7_undo wsX7_undo { frames := 7, cells := 2, slots := 12, locals := 112 } [.ref (ad 0 0), vI u] h (fun rv h' => rv = some (vI (c 15 u.toNat ((c 14 u.toNat 3).toNat - 1))) ∧ CP D ad L W h ((cu (cu (cu (cu (cu c 14 u.toNat (oF [0, 0, 0, ((((c 14 u.toNat 3).toNat) - 1 : Nat) : Int), ((((c 14 u.toNat 4).toNat) + 1 : Nat) : Int)])) 12 u.toNat (fu (c 12 u.toNat) ((c 15 u.toNat) (((c 14 u.toNat 3).toNat) - 1)).toNat ((c 16 u.toNat) (((c 14 u.toNat 3).toNat) - 1)))) 13 u.toNat (gpq (c 12 u.toNat) (c 13 u.toNat) ((c 15 u.toNat) (((c 14 u.toNat 3).toNat) - 1)) ((c 16 u.toNat) (((c 14 u.toNat 3).toNat) - 1)))) 11 u.toNat (oF [0, 0, ((gpa (c 12 u.toNat) (c 13 u.toNat) ((c 11 u.toNat 2).toNat) ((c 15 u.toNat) (((c 14 u.toNat 3).toNat) - 1)) ((c 16 u.toNat) (((c 14 u.toNat 3).toNat) - 1)) : Nat) : Int)])) 10 u.toNat (oF [c 10 u.toNat 0, c 10 u.toNat 1, 0, 0, c 10 u.toNat 4, (-2)]))) h' ∧ ((0 ≤ u ∧ u < (L : Int)) ∧ 1 ≤ c 14 u.toNat 3)) (XP (¬ (0 ≤ u ∧ u < (L : Int))) False ((0 ≤ u ∧ u < (L : Int)) ∧ c 14 u.toNat 3 ≤ 0) h) := by
  refine TX.of (cc := cX7_undo) (maxL := 5) (ret := (some .int)) [(0, .ref (ad 0 0)), (1, vI u)] (by decide +kernel) rfl rfl (Nat.le_of_ble_eq_true rfl) ?_
  intro κ C hkl G GT
  subst hkl
  have C : CX κ "LedgeLevels" "undo" cX7_undo wsX7_undo { frames := 7, cells := 2, slots := 12, locals := 112 } D A 5 := C
  have hiz : nq (D.1 20) (D.1 21) := cx_iz C
  obtain ⟨hO1, q2, q3, q4, q5⟩ := id hC
  obtain ⟨o1, o2, o3, o4, o5, o6, o7⟩ := id hO1
  refine x_aload_n C dX7_undo_0 0 rfl ?_
  refine x_iload_n C dX7_undo_1 1 rfl ?_
  have f1 : h (ad 0 0) = some (eO 7 [.ref (ad 1 0), .ref (ad 2 0), .ref (ad 3 0), .ref (ad 4 0), .ref (ad 5 0), vI (c 0 0 5), vI (c 0 0 6)]) := hR.1 0 0 (lv0 (by decide))
  refine x_callVt C (n := 1) (qc := (RX7, TX7, 7)) (As := [vI u]) (rest := []) (c_X7_levelOf (hR) (by assumption) (by omega)) gX7_undo_X7_levelOf (by decide +kernel) f1 rfl rfl rfl rfl (Nat.le_of_ble_eq_true rfl) ⟨by decide, by decide⟩ ⟨(by decide), (by decide)⟩ dX7_undo_2 GT (by decide) (by decide) (fun E h9 hx9 => XP.imp hx9 (fun z9 => by first | exact z9.elim | omega) (fun z9 => by first | exact z9.elim | omega) (fun z9 => by first | exact z9.elim | omega)) (fun rv2 h3 hp4 => ?_)
  obtain ⟨rfl, e5, hu_2⟩ := hp4
  obtain rfl := e5.symm
  obtain ⟨⟨g1, g2, g3⟩, ⟨e0, e1, e2, e3⟩, ⟨k1, k2, k3, k4⟩⟩ := q3 u.toNat (by omega)
  have gz := k2 ((c 14 u.toNat 3).toNat - 1)
  have gk := k3 ((c 14 u.toNat 3).toNat - 1)
  refine x_astore_n C (ls' := [(0, .ref (ad 0 0)), (1, vI u), (2, .ref (ad 10 u.toNat))]) dX7_undo_5 (by decide) rfl ?_
  refine x_aload_n C dX7_undo_6 2 rfl ?_
  have f6 : h (ad 10 u.toNat) = some (eO 3 [vI (c 10 u.toNat 0), va_rf (prf ad (c 10 u.toNat 1)), .ref (ad 11 u.toNat), .ref (ad 14 u.toNat), vI (c 10 u.toNat 4), vI (c 10 u.toNat 5)]) := hR.1 10 u.toNat (lvL (by decide) (by omega))
  refine x_getN (host := "LedgeLevels") C (v := .ref (ad 14 u.toNat)) f6 (T := TX3) rfl kX7_undo_1 3 (by decide) kX7_undo_0 rfl dX7_undo_7 ?_
  refine x_astore_n C (ls' := [(0, .ref (ad 0 0)), (1, vI u), (2, .ref (ad 10 u.toNat)), (3, .ref (ad 14 u.toNat))]) dX7_undo_10 (by decide) rfl ?_
  refine x_aload_n C dX7_undo_11 3 rfl ?_
  have f7 : h (ad 14 u.toNat) = some (eO 2 [.ref (ad 15 u.toNat), .ref (ad 16 u.toNat), .ref (ad 17 u.toNat), vI (((c 14 u.toNat 3).toNat : Nat) : Int), vI (((c 14 u.toNat 4).toNat : Nat) : Int)]) := hR.1 14 u.toNat (lvL (by decide) (by omega))
  refine x_getN (host := "LedgeLevels") C (v := vI (((c 14 u.toNat 3).toNat : Nat) : Int)) f7 (T := TX2) rfl kX7_undo_3 3 (by decide) kX7_undo_2 rfl dX7_undo_12 ?_
  refine x_if_gt (tgt := 28) C dX7_undo_15 (by decide) (by omega) (fun c8 => ?_) (fun c8 => ?_)
  · skip
    refine x_aload_n C dX7_undo_28 3 rfl ?_
    refine x_callV C (n := 0) (qc := (RX2, TX2, 5)) (As := []) (rest := []) (c_X2_stepBack f7 (by omega) (by omega)) gX7_undo_X2_stepBack (by decide +kernel) f7 rfl rfl rfl rfl (Nat.le_of_ble_eq_true rfl) ⟨by decide, by decide⟩ ⟨(by decide), (by decide)⟩ dX7_undo_29 (fun rv9 h10 hp11 => ?_)
    obtain ⟨rfl, e12⟩ := hp11
    have f13 : h10 (ad 14 u.toNat) = some (eO 2 [.ref (ad 15 u.toNat), .ref (ad 16 u.toNat), .ref (ad 17 u.toNat), vI ((((c 14 u.toNat 3).toNat) - 1 : Nat) : Int), vI ((((c 14 u.toNat 4).toNat) + 1 : Nat) : Int)]) := by rw [e12]; exact hu_s
    refine x_aload_n C dX7_undo_32 3 rfl ?_
    have f14 : h (ad 15 u.toNat) = some (eI D 40 (c 15 u.toNat)) := hR.1 15 u.toNat (lvL (by decide) (by omega))
    have f15 : h10 (ad 15 u.toNat) = some (eI D 40 (c 15 u.toNat)) := by rw [e12, hu_n (hR.ne (lvL (by decide) (by omega)) (lvL (by decide) (by omega)) (fun zz9 => absurd zz9.1 (by decide)))]; exact f14
    refine x_callV C (n := 0) (qc := (RX2, TX2, 5)) (As := []) (rest := []) (c_X2_cellOfNext f13 f15 (by omega)) gX7_undo_X2_cellOfNext (by decide +kernel) f13 rfl rfl rfl rfl (Nat.le_of_ble_eq_true rfl) ⟨by decide, by decide⟩ ⟨(by decide), (by decide)⟩ dX7_undo_33 (fun rv16 h17 hp18 => ?_)
    obtain ⟨rfl, e19⟩ := hp18
    obtain rfl := e19.symm
    refine x_istore C (ls' := [(0, .ref (ad 0 0)), (1, vI u), (2, .ref (ad 10 u.toNat)), (3, .ref (ad 14 u.toNat)), (4, vI ((c 15 u.toNat) (((c 14 u.toNat 3).toNat) - 1)))]) dX7_undo_36 (by decide) rfl ?_
    refine x_aload_n C dX7_undo_38 2 rfl ?_
    refine x_iload C dX7_undo_39 4 rfl ?_
    refine x_aload_n C dX7_undo_41 3 rfl ?_
    have f20 : h (ad 16 u.toNat) = some (eI D 40 (c 16 u.toNat)) := hR.1 16 u.toNat (lvL (by decide) (by omega))
    have f21 : h10 (ad 16 u.toNat) = some (eI D 40 (c 16 u.toNat)) := by rw [e12, hu_n (hR.ne (lvL (by decide) (by omega)) (lvL (by decide) (by omega)) (fun zz9 => absurd zz9.1 (by decide)))]; exact f20
    refine x_callV C (n := 0) (qc := (RX2, TX2, 5)) (As := []) (rest := [vI ((c 15 u.toNat) (((c 14 u.toNat 3).toNat) - 1)), .ref (ad 10 u.toNat)]) (c_X2_kindBeforeNext f13 f21 (by omega)) gX7_undo_X2_kindBeforeNext (by decide +kernel) f13 rfl rfl rfl rfl (Nat.le_of_ble_eq_true rfl) ⟨by decide, by decide⟩ ⟨(by decide), (by decide)⟩ dX7_undo_42 (fun rv22 h23 hp24 => ?_)
    obtain ⟨rfl, e25⟩ := hp24
    obtain rfl := e25.symm
    have f26 : h10 (ad 10 u.toNat) = some (eO 3 [vI (c 10 u.toNat 0), va_rf (prf ad (c 10 u.toNat 1)), .ref (ad 11 u.toNat), .ref (ad 14 u.toNat), vI (c 10 u.toNat 4), vI (c 10 u.toNat 5)]) := by rw [e12, hu_n (hR.ne (lvL (by decide) (by omega)) (lvL (by decide) (by omega)) (fun zz9 => absurd zz9.1 (by decide)))]; exact f6
    have f27 : h (ad 11 u.toNat) = some (eO 1 [.ref (ad 12 u.toNat), .ref (ad 13 u.toNat), vI (((c 11 u.toNat 2).toNat : Nat) : Int)]) := hR.1 11 u.toNat (lvL (by decide) (by omega))
    have f28 : h10 (ad 11 u.toNat) = some (eO 1 [.ref (ad 12 u.toNat), .ref (ad 13 u.toNat), vI (((c 11 u.toNat 2).toNat : Nat) : Int)]) := by rw [e12, hu_n (hR.ne (lvL (by decide) (by omega)) (lvL (by decide) (by omega)) (fun zz9 => absurd zz9.1 (by decide)))]; exact f27
    have f29 : h (ad 12 u.toNat) = some (eI D 96 (c 12 u.toNat)) := hR.1 12 u.toNat (lvL (by decide) (by omega))
    have f30 : h10 (ad 12 u.toNat) = some (eI D 96 (c 12 u.toNat)) := by rw [e12, hu_n (hR.ne (lvL (by decide) (by omega)) (lvL (by decide) (by omega)) (fun zz9 => absurd zz9.1 (by decide)))]; exact f29
    have f31 : h (ad 13 u.toNat) = some (eI D 3 (c 13 u.toNat)) := hR.1 13 u.toNat (lvL (by decide) (by omega))
    have f32 : h10 (ad 13 u.toNat) = some (eI D 3 (c 13 u.toNat)) := by rw [e12, hu_n (hR.ne (lvL (by decide) (by omega)) (lvL (by decide) (by omega)) (fun zz9 => absurd zz9.1 (by decide)))]; exact f31
    refine x_callV C (n := 2) (qc := (RX3, TX3, 6)) (As := [vI ((c 15 u.toNat) (((c 14 u.toNat 3).toNat) - 1)), vI ((c 16 u.toNat) (((c 14 u.toNat 3).toNat) - 1))]) (rest := []) (c_X3_putAnew f26 f28 f30 f32 (by omega) (by omega) (by assumption) (by assumption)) gX7_undo_X3_putAnew (by decide +kernel) f26 rfl rfl rfl rfl (Nat.le_of_ble_eq_true rfl) ⟨by decide, by decide⟩ ⟨(by decide), (by decide)⟩ dX7_undo_45 (fun rv33 h34 hp35 => ?_)
    obtain ⟨rfl, e36⟩ := hp35
    have f37 : h34 (ad 10 u.toNat) = some (eO 3 [vI (c 10 u.toNat 0), va_rf (prf ad (c 10 u.toNat 1)), .ref (ad 11 u.toNat), .ref (ad 14 u.toNat), vI (c 10 u.toNat 4), vI (-2)]) := by rw [e36]; exact hu_s
    have f38 : h34 (ad 11 u.toNat) = some (eO 1 [.ref (ad 12 u.toNat), .ref (ad 13 u.toNat), vI ((gpa (c 12 u.toNat) (c 13 u.toNat) ((c 11 u.toNat 2).toNat) ((c 15 u.toNat) (((c 14 u.toNat 3).toNat) - 1)) ((c 16 u.toNat) (((c 14 u.toNat 3).toNat) - 1)) : Nat) : Int)]) := by rw [e36, hu_n (hR.ne (lvL (by decide) (by omega)) (lvL (by decide) (by omega)) (fun zz9 => absurd zz9.1 (by decide)))]; exact hu_s
    have f39 : h34 (ad 13 u.toNat) = some (eI D 3 (gpq (c 12 u.toNat) (c 13 u.toNat) ((c 15 u.toNat) (((c 14 u.toNat 3).toNat) - 1)) ((c 16 u.toNat) (((c 14 u.toNat 3).toNat) - 1)))) := by rw [e36, hu_n (hR.ne (lvL (by decide) (by omega)) (lvL (by decide) (by omega)) (fun zz9 => absurd zz9.1 (by decide))), hu_n (hR.ne (lvL (by decide) (by omega)) (lvL (by decide) (by omega)) (fun zz9 => absurd zz9.1 (by decide)))]; exact hu_s
    have f40 : h34 (ad 12 u.toNat) = some (eI D 96 (fu (c 12 u.toNat) ((c 15 u.toNat) (((c 14 u.toNat 3).toNat) - 1)).toNat ((c 16 u.toNat) (((c 14 u.toNat 3).toNat) - 1)))) := by rw [e36, hu_n (hR.ne (lvL (by decide) (by omega)) (lvL (by decide) (by omega)) (fun zz9 => absurd zz9.1 (by decide))), hu_n (hR.ne (lvL (by decide) (by omega)) (lvL (by decide) (by omega)) (fun zz9 => absurd zz9.1 (by decide))), hu_n (hR.ne (lvL (by decide) (by omega)) (lvL (by decide) (by omega)) (fun zz9 => absurd zz9.1 (by decide)))]; exact hu_s
    refine x_iload C dX7_undo_48 4 rfl ?_
    refine x_iret C G dX7_undo_50 ?_ (by decide) (by decide)
    have cp41 : CP D ad L W h (cu (cu (cu (cu (cu c 14 u.toNat (oF [0, 0, 0, ((((c 14 u.toNat 3).toNat) - 1 : Nat) : Int), ((((c 14 u.toNat 4).toNat) + 1 : Nat) : Int)])) 12 u.toNat (fu (c 12 u.toNat) ((c 15 u.toNat) (((c 14 u.toNat 3).toNat) - 1)).toNat ((c 16 u.toNat) (((c 14 u.toNat 3).toNat) - 1)))) 13 u.toNat (gpq (c 12 u.toNat) (c 13 u.toNat) ((c 15 u.toNat) (((c 14 u.toNat 3).toNat) - 1)) ((c 16 u.toNat) (((c 14 u.toNat 3).toNat) - 1)))) 11 u.toNat (oF [0, 0, ((gpa (c 12 u.toNat) (c 13 u.toNat) ((c 11 u.toNat 2).toNat) ((c 15 u.toNat) (((c 14 u.toNat 3).toNat) - 1)) ((c 16 u.toNat) (((c 14 u.toNat 3).toNat) - 1)) : Nat) : Int)])) 10 u.toNat (oF [c 10 u.toNat 0, c 10 u.toNat 1, 0, 0, c 10 u.toNat 4, (-2)])) h34 := by rw [e36, e12]; exact (CP.up (CP.up (CP.up (CP.up (CP.up (CP.rf hR) (lvL (by decide) (by omega)) (oF [0, 0, 0, ((((c 14 u.toNat 3).toNat) - 1 : Nat) : Int), ((((c 14 u.toNat 4).toNat) + 1 : Nat) : Int)]) rfl) (lvL (by decide) (by omega)) (fu (c 12 u.toNat) ((c 15 u.toNat) (((c 14 u.toNat 3).toNat) - 1)).toNat ((c 16 u.toNat) (((c 14 u.toNat 3).toNat) - 1))) rfl) (lvL (by decide) (by omega)) (gpq (c 12 u.toNat) (c 13 u.toNat) ((c 15 u.toNat) (((c 14 u.toNat 3).toNat) - 1)) ((c 16 u.toNat) (((c 14 u.toNat 3).toNat) - 1))) rfl) (lvL (by decide) (by omega)) (oF [0, 0, ((gpa (c 12 u.toNat) (c 13 u.toNat) ((c 11 u.toNat 2).toNat) ((c 15 u.toNat) (((c 14 u.toNat 3).toNat) - 1)) ((c 16 u.toNat) (((c 14 u.toNat 3).toNat) - 1)) : Nat) : Int)]) rfl) (lvL (by decide) (by omega)) (oF [c 10 u.toNat 0, c 10 u.toNat 1, 0, 0, c 10 u.toNat 4, (-2)]) rfl)
    exact ⟨rfl, cp41, by omega⟩
  · skip
    refine x_throwS C GT (cls := "java/lang/IllegalStateException") (text := "no edit to undo") (names := ["java/lang/RuntimeException", "java/lang/Exception"]) (by decide +kernel) (by decide +kernel) kX7_undo_4 kX7_undo_5 (by decide +kernel) kX7_undo_6 (by decide +kernel) (by decide +kernel) dX7_undo_18 dX7_undo_21 dX7_undo_22 dX7_undo_24 dX7_undo_27 (by decide) (by decide) (by decide) (by decide) (by decide) (by decide) ?_
    exact ⟨rfl, Or.inr (Or.inr ⟨rfl, by omega⟩)⟩

theorem kX7_redo_0 : Cond.fieldLinkNest "LedgeLevels" 93 "LedgeLevels$Level" "history" "LLedgeLevels$History;" "LedgeLevels" ∈ nwAll := by decide +kernel
theorem kX7_redo_1 : ∀ w ∈ wsX30, w ∈ wsX7_redo := by decide +kernel
theorem kX7_redo_2 : Cond.fieldLinkNest "LedgeLevels" 126 "LedgeLevels$History" "undone" "I" "LedgeLevels" ∈ nwAll := by decide +kernel
theorem kX7_redo_3 : ∀ w ∈ wsX20, w ∈ wsX7_redo := by decide +kernel
theorem kX7_redo_4 : Cond.classLink "LedgeLevels" 88 "java/lang/IllegalStateException" ∈ wsX7_redo := by decide +kernel
theorem kX7_redo_5 : Cond.initialized "java/lang/IllegalStateException" ∈ wsX7_redo := by decide +kernel
theorem kX7_redo_6 : ∀ w ∈ (vx_atS "LedgeLevels" 92 "java/lang/IllegalStateException" ["java/lang/RuntimeException", "java/lang/Exception"]).filter goodWord, w ∈ wsX7_redo := by decide +kernel
set_option maxRecDepth 100000 in
set_option maxHeartbeats 1000000 in
theorem c_X7_redo {l : Launch} {D : va_G} {A : Nat → Prop} {h : vh} {ad : AD} {c : CS} {L W : Nat} {u : Int}  (hR : RepC D ad c L W h) (hC : Cok c L W) (hi_u : -2147483648 ≤ u ∧ u ≤ 2147483647) : TX l D A yX7_redo wsX7_redo { frames := 7, cells := 2, slots := 12, locals := 112 } [.ref (ad 0 0), vI u] h (fun rv h' => rv = some (vI (c 15 u.toNat (c 14 u.toNat 3).toNat)) ∧ CP D ad L W h ((cu (cu (cu (cu (cu c 12 u.toNat (fu (c 12 u.toNat) ((c 15 u.toNat) ((c 14 u.toNat 3).toNat)).toNat ((c 17 u.toNat) ((c 14 u.toNat 3).toNat)))) 13 u.toNat (gpq (c 12 u.toNat) (c 13 u.toNat) ((c 15 u.toNat) ((c 14 u.toNat 3).toNat)) ((c 17 u.toNat) ((c 14 u.toNat 3).toNat)))) 11 u.toNat (oF [0, 0, ((gpa (c 12 u.toNat) (c 13 u.toNat) ((c 11 u.toNat 2).toNat) ((c 15 u.toNat) ((c 14 u.toNat 3).toNat)) ((c 17 u.toNat) ((c 14 u.toNat 3).toNat)) : Nat) : Int)])) 10 u.toNat (oF [c 10 u.toNat 0, c 10 u.toNat 1, 0, 0, c 10 u.toNat 4, (-2)])) 14 u.toNat (oF [0, 0, 0, ((((c 14 u.toNat 3).toNat) + 1 : Nat) : Int), ((((c 14 u.toNat 4).toNat) - 1 : Nat) : Int)]))) h' ∧ ((0 ≤ u ∧ u < (L : Int)) ∧ 1 ≤ c 14 u.toNat 4)) (XP (¬ (0 ≤ u ∧ u < (L : Int))) False ((0 ≤ u ∧ u < (L : Int)) ∧ c 14 u.toNat 4 ≤ 0) h) := by
  refine TX.of (cc := cX7_redo) (maxL := 5) (ret := (some .int)) [(0, .ref (ad 0 0)), (1, vI u)] (by decide +kernel) rfl rfl (Nat.le_of_ble_eq_true rfl) ?_
  intro κ C hkl G GT
  subst hkl
  have C : CX κ "LedgeLevels" "redo" cX7_redo wsX7_redo { frames := 7, cells := 2, slots := 12, locals := 112 } D A 5 := C
  have hiz : nq (D.1 20) (D.1 21) := cx_iz C
  obtain ⟨hO1, q2, q3, q4, q5⟩ := id hC
  obtain ⟨o1, o2, o3, o4, o5, o6, o7⟩ := id hO1
  refine x_aload_n C dX7_redo_0 0 rfl ?_
  refine x_iload_n C dX7_redo_1 1 rfl ?_
  have f1 : h (ad 0 0) = some (eO 7 [.ref (ad 1 0), .ref (ad 2 0), .ref (ad 3 0), .ref (ad 4 0), .ref (ad 5 0), vI (c 0 0 5), vI (c 0 0 6)]) := hR.1 0 0 (lv0 (by decide))
  refine x_callVt C (n := 1) (qc := (RX7, TX7, 7)) (As := [vI u]) (rest := []) (c_X7_levelOf (hR) (by assumption) (by omega)) gX7_redo_X7_levelOf (by decide +kernel) f1 rfl rfl rfl rfl (Nat.le_of_ble_eq_true rfl) ⟨by decide, by decide⟩ ⟨(by decide), (by decide)⟩ dX7_redo_2 GT (by decide) (by decide) (fun E h9 hx9 => XP.imp hx9 (fun z9 => by first | exact z9.elim | omega) (fun z9 => by first | exact z9.elim | omega) (fun z9 => by first | exact z9.elim | omega)) (fun rv2 h3 hp4 => ?_)
  obtain ⟨rfl, e5, hu_2⟩ := hp4
  obtain rfl := e5.symm
  obtain ⟨⟨g1, g2, g3⟩, ⟨e0, e1, e2, e3⟩, ⟨k1, k2, k3, k4⟩⟩ := q3 u.toNat (by omega)
  have gz := k2 (c 14 u.toNat 3).toNat
  have gk := k4 (c 14 u.toNat 3).toNat
  refine x_astore_n C (ls' := [(0, .ref (ad 0 0)), (1, vI u), (2, .ref (ad 10 u.toNat))]) dX7_redo_5 (by decide) rfl ?_
  refine x_aload_n C dX7_redo_6 2 rfl ?_
  have f6 : h (ad 10 u.toNat) = some (eO 3 [vI (c 10 u.toNat 0), va_rf (prf ad (c 10 u.toNat 1)), .ref (ad 11 u.toNat), .ref (ad 14 u.toNat), vI (c 10 u.toNat 4), vI (c 10 u.toNat 5)]) := hR.1 10 u.toNat (lvL (by decide) (by omega))
  refine x_getN (host := "LedgeLevels") C (v := .ref (ad 14 u.toNat)) f6 (T := TX3) rfl kX7_redo_1 3 (by decide) kX7_redo_0 rfl dX7_redo_7 ?_
  refine x_astore_n C (ls' := [(0, .ref (ad 0 0)), (1, vI u), (2, .ref (ad 10 u.toNat)), (3, .ref (ad 14 u.toNat))]) dX7_redo_10 (by decide) rfl ?_
  refine x_aload_n C dX7_redo_11 3 rfl ?_
  have f7 : h (ad 14 u.toNat) = some (eO 2 [.ref (ad 15 u.toNat), .ref (ad 16 u.toNat), .ref (ad 17 u.toNat), vI (((c 14 u.toNat 3).toNat : Nat) : Int), vI (((c 14 u.toNat 4).toNat : Nat) : Int)]) := hR.1 14 u.toNat (lvL (by decide) (by omega))
  refine x_getN (host := "LedgeLevels") C (v := vI (((c 14 u.toNat 4).toNat : Nat) : Int)) f7 (T := TX2) rfl kX7_redo_3 4 (by decide) kX7_redo_2 rfl dX7_redo_12 ?_
  refine x_if_gt (tgt := 28) C dX7_redo_15 (by decide) (by omega) (fun c8 => ?_) (fun c8 => ?_)
  · skip
    refine x_aload_n C dX7_redo_28 3 rfl ?_
    have f9 : h (ad 15 u.toNat) = some (eI D 40 (c 15 u.toNat)) := hR.1 15 u.toNat (lvL (by decide) (by omega))
    refine x_callV C (n := 0) (qc := (RX2, TX2, 5)) (As := []) (rest := []) (c_X2_cellOfNext f7 f9 (by omega)) gX7_redo_X2_cellOfNext (by decide +kernel) f7 rfl rfl rfl rfl (Nat.le_of_ble_eq_true rfl) ⟨by decide, by decide⟩ ⟨(by decide), (by decide)⟩ dX7_redo_29 (fun rv10 h11 hp12 => ?_)
    obtain ⟨rfl, e13⟩ := hp12
    obtain rfl := e13.symm
    refine x_istore C (ls' := [(0, .ref (ad 0 0)), (1, vI u), (2, .ref (ad 10 u.toNat)), (3, .ref (ad 14 u.toNat)), (4, vI ((c 15 u.toNat) ((c 14 u.toNat 3).toNat)))]) dX7_redo_32 (by decide) rfl ?_
    refine x_aload_n C dX7_redo_34 2 rfl ?_
    refine x_iload C dX7_redo_35 4 rfl ?_
    refine x_aload_n C dX7_redo_37 3 rfl ?_
    have f14 : h (ad 17 u.toNat) = some (eI D 40 (c 17 u.toNat)) := hR.1 17 u.toNat (lvL (by decide) (by omega))
    refine x_callV C (n := 0) (qc := (RX2, TX2, 5)) (As := []) (rest := [vI ((c 15 u.toNat) ((c 14 u.toNat 3).toNat)), .ref (ad 10 u.toNat)]) (c_X2_kindAfterNext f7 f14 (by omega)) gX7_redo_X2_kindAfterNext (by decide +kernel) f7 rfl rfl rfl rfl (Nat.le_of_ble_eq_true rfl) ⟨by decide, by decide⟩ ⟨(by decide), (by decide)⟩ dX7_redo_38 (fun rv15 h16 hp17 => ?_)
    obtain ⟨rfl, e18⟩ := hp17
    obtain rfl := e18.symm
    have f19 : h (ad 11 u.toNat) = some (eO 1 [.ref (ad 12 u.toNat), .ref (ad 13 u.toNat), vI (((c 11 u.toNat 2).toNat : Nat) : Int)]) := hR.1 11 u.toNat (lvL (by decide) (by omega))
    have f20 : h (ad 12 u.toNat) = some (eI D 96 (c 12 u.toNat)) := hR.1 12 u.toNat (lvL (by decide) (by omega))
    have f21 : h (ad 13 u.toNat) = some (eI D 3 (c 13 u.toNat)) := hR.1 13 u.toNat (lvL (by decide) (by omega))
    refine x_callV C (n := 2) (qc := (RX3, TX3, 6)) (As := [vI ((c 15 u.toNat) ((c 14 u.toNat 3).toNat)), vI ((c 17 u.toNat) ((c 14 u.toNat 3).toNat))]) (rest := []) (c_X3_putAnew f6 f19 f20 f21 (by omega) (by omega) (by assumption) (by assumption)) gX7_redo_X3_putAnew (by decide +kernel) f6 rfl rfl rfl rfl (Nat.le_of_ble_eq_true rfl) ⟨by decide, by decide⟩ ⟨(by decide), (by decide)⟩ dX7_redo_41 (fun rv22 h23 hp24 => ?_)
    obtain ⟨rfl, e25⟩ := hp24
    have f26 : h23 (ad 10 u.toNat) = some (eO 3 [vI (c 10 u.toNat 0), va_rf (prf ad (c 10 u.toNat 1)), .ref (ad 11 u.toNat), .ref (ad 14 u.toNat), vI (c 10 u.toNat 4), vI (-2)]) := by rw [e25]; exact hu_s
    have f27 : h23 (ad 11 u.toNat) = some (eO 1 [.ref (ad 12 u.toNat), .ref (ad 13 u.toNat), vI ((gpa (c 12 u.toNat) (c 13 u.toNat) ((c 11 u.toNat 2).toNat) ((c 15 u.toNat) ((c 14 u.toNat 3).toNat)) ((c 17 u.toNat) ((c 14 u.toNat 3).toNat)) : Nat) : Int)]) := by rw [e25, hu_n (hR.ne (lvL (by decide) (by omega)) (lvL (by decide) (by omega)) (fun zz9 => absurd zz9.1 (by decide)))]; exact hu_s
    have f28 : h23 (ad 13 u.toNat) = some (eI D 3 (gpq (c 12 u.toNat) (c 13 u.toNat) ((c 15 u.toNat) ((c 14 u.toNat 3).toNat)) ((c 17 u.toNat) ((c 14 u.toNat 3).toNat)))) := by rw [e25, hu_n (hR.ne (lvL (by decide) (by omega)) (lvL (by decide) (by omega)) (fun zz9 => absurd zz9.1 (by decide))), hu_n (hR.ne (lvL (by decide) (by omega)) (lvL (by decide) (by omega)) (fun zz9 => absurd zz9.1 (by decide)))]; exact hu_s
    have f29 : h23 (ad 12 u.toNat) = some (eI D 96 (fu (c 12 u.toNat) ((c 15 u.toNat) ((c 14 u.toNat 3).toNat)).toNat ((c 17 u.toNat) ((c 14 u.toNat 3).toNat)))) := by rw [e25, hu_n (hR.ne (lvL (by decide) (by omega)) (lvL (by decide) (by omega)) (fun zz9 => absurd zz9.1 (by decide))), hu_n (hR.ne (lvL (by decide) (by omega)) (lvL (by decide) (by omega)) (fun zz9 => absurd zz9.1 (by decide))), hu_n (hR.ne (lvL (by decide) (by omega)) (lvL (by decide) (by omega)) (fun zz9 => absurd zz9.1 (by decide)))]; exact hu_s
    refine x_aload_n C dX7_redo_44 3 rfl ?_
    have f30 : h23 (ad 14 u.toNat) = some (eO 2 [.ref (ad 15 u.toNat), .ref (ad 16 u.toNat), .ref (ad 17 u.toNat), vI (((c 14 u.toNat 3).toNat : Nat) : Int), vI (((c 14 u.toNat 4).toNat : Nat) : Int)]) := by rw [e25, hu_n (hR.ne (lvL (by decide) (by omega)) (lvL (by decide) (by omega)) (fun zz9 => absurd zz9.1 (by decide))), hu_n (hR.ne (lvL (by decide) (by omega)) (lvL (by decide) (by omega)) (fun zz9 => absurd zz9.1 (by decide))), hu_n (hR.ne (lvL (by decide) (by omega)) (lvL (by decide) (by omega)) (fun zz9 => absurd zz9.1 (by decide))), hu_n (hR.ne (lvL (by decide) (by omega)) (lvL (by decide) (by omega)) (fun zz9 => absurd zz9.1 (by decide)))]; exact f7
    refine x_callV C (n := 0) (qc := (RX2, TX2, 5)) (As := []) (rest := []) (c_X2_stepOn f30 (by omega) (by omega)) gX7_redo_X2_stepOn (by decide +kernel) f30 rfl rfl rfl rfl (Nat.le_of_ble_eq_true rfl) ⟨by decide, by decide⟩ ⟨(by decide), (by decide)⟩ dX7_redo_45 (fun rv31 h32 hp33 => ?_)
    obtain ⟨rfl, e34⟩ := hp33
    have f35 : h32 (ad 14 u.toNat) = some (eO 2 [.ref (ad 15 u.toNat), .ref (ad 16 u.toNat), .ref (ad 17 u.toNat), vI ((((c 14 u.toNat 3).toNat) + 1 : Nat) : Int), vI ((((c 14 u.toNat 4).toNat) - 1 : Nat) : Int)]) := by rw [e34]; exact hu_s
    refine x_iload C dX7_redo_48 4 rfl ?_
    refine x_iret C G dX7_redo_50 ?_ (by decide) (by decide)
    have cp36 : CP D ad L W h (cu (cu (cu (cu (cu c 12 u.toNat (fu (c 12 u.toNat) ((c 15 u.toNat) ((c 14 u.toNat 3).toNat)).toNat ((c 17 u.toNat) ((c 14 u.toNat 3).toNat)))) 13 u.toNat (gpq (c 12 u.toNat) (c 13 u.toNat) ((c 15 u.toNat) ((c 14 u.toNat 3).toNat)) ((c 17 u.toNat) ((c 14 u.toNat 3).toNat)))) 11 u.toNat (oF [0, 0, ((gpa (c 12 u.toNat) (c 13 u.toNat) ((c 11 u.toNat 2).toNat) ((c 15 u.toNat) ((c 14 u.toNat 3).toNat)) ((c 17 u.toNat) ((c 14 u.toNat 3).toNat)) : Nat) : Int)])) 10 u.toNat (oF [c 10 u.toNat 0, c 10 u.toNat 1, 0, 0, c 10 u.toNat 4, (-2)])) 14 u.toNat (oF [0, 0, 0, ((((c 14 u.toNat 3).toNat) + 1 : Nat) : Int), ((((c 14 u.toNat 4).toNat) - 1 : Nat) : Int)])) h32 := by rw [e34, e25]; exact (CP.up (CP.up (CP.up (CP.up (CP.up (CP.rf hR) (lvL (by decide) (by omega)) (fu (c 12 u.toNat) ((c 15 u.toNat) ((c 14 u.toNat 3).toNat)).toNat ((c 17 u.toNat) ((c 14 u.toNat 3).toNat))) rfl) (lvL (by decide) (by omega)) (gpq (c 12 u.toNat) (c 13 u.toNat) ((c 15 u.toNat) ((c 14 u.toNat 3).toNat)) ((c 17 u.toNat) ((c 14 u.toNat 3).toNat))) rfl) (lvL (by decide) (by omega)) (oF [0, 0, ((gpa (c 12 u.toNat) (c 13 u.toNat) ((c 11 u.toNat 2).toNat) ((c 15 u.toNat) ((c 14 u.toNat 3).toNat)) ((c 17 u.toNat) ((c 14 u.toNat 3).toNat)) : Nat) : Int)]) rfl) (lvL (by decide) (by omega)) (oF [c 10 u.toNat 0, c 10 u.toNat 1, 0, 0, c 10 u.toNat 4, (-2)]) rfl) (lvL (by decide) (by omega)) (oF [0, 0, 0, ((((c 14 u.toNat 3).toNat) + 1 : Nat) : Int), ((((c 14 u.toNat 4).toNat) - 1 : Nat) : Int)]) rfl)
    exact ⟨rfl, cp36, by omega⟩
  · skip
    refine x_throwS C GT (cls := "java/lang/IllegalStateException") (text := "no edit to do again") (names := ["java/lang/RuntimeException", "java/lang/Exception"]) (by decide +kernel) (by decide +kernel) kX7_redo_4 kX7_redo_5 (by decide +kernel) kX7_redo_6 (by decide +kernel) (by decide +kernel) dX7_redo_18 dX7_redo_21 dX7_redo_22 dX7_redo_24 dX7_redo_27 (by decide) (by decide) (by decide) (by decide) (by decide) (by decide) ?_
    exact ⟨rfl, Or.inr (Or.inr ⟨rfl, by omega⟩)⟩

set_option maxRecDepth 100000 in
set_option maxHeartbeats 1000000 in
theorem c_X7_run {l : Launch} {D : va_G} {A : Nat → Prop} {h : vh} {ad : AD} {c : CS} {L W : Nat} {p w : Int}  (hR : RepC D ad c L W h) (hC : Cok c L W) (hi_p : -2147483648 ≤ p ∧ p ≤ 2147483647) (hi_w : -2147483648 ≤ w ∧ w ≤ 2147483647) : TX l D A yX7_run wsX7_run { frames := 7, cells := 3, slots := 18, locals := 112 } [.ref (ad 0 0), vI p, vI w] h (fun rv h' => rv = some (vI ((if (X0 (c 20 w.toNat) (c 21 w.toNat) (c 18 w.toNat 4)).2.2.2 = 3 then -1 else if (X0 (c 20 w.toNat) (c 21 w.toNat) (c 18 w.toNat 4)).2.2.2 = 2 then -2 else (X0 (c 20 w.toNat) (c 21 w.toNat) (c 18 w.toNat 4)).1))) ∧ CP D ad L W h ((cu (cu (cu c 24 p.toNat (oF [0, (X0 (c 20 w.toNat) (c 21 w.toNat) (c 18 w.toNat 4)).1, 0, (((X0 (c 20 w.toNat) (c 21 w.toNat) (c 18 w.toNat 4)).2.2.1 : Nat) : Int), (X0 (c 20 w.toNat) (c 21 w.toNat) (c 18 w.toNat 4)).2.2.2])) 23 p.toNat (oF [0, ((w.toNat + 1 : Nat) : Int), (X0 (c 20 w.toNat) (c 21 w.toNat) (c 18 w.toNat 4)).2.2.2, 0])) 18 w.toNat (oF [c 18 w.toNat 0, c 18 w.toNat 1, c 18 w.toNat 2, 0, (c 18 w.toNat 4), 0, c 18 w.toNat 6, (if (X0 (c 20 w.toNat) (c 21 w.toNat) (c 18 w.toNat 4)).2.2.2 = 2 then (if (c 18 w.toNat 7) < 0 ∨ 0 < (c 18 w.toNat 7) then 0 else (c 18 w.toNat 7)) else (c 18 w.toNat 7))]))) h' ∧ ((0 ≤ p ∧ p < 6) ∧ (0 ≤ w ∧ w < (W : Int)) ∧ 0 ≤ c 18 w.toNat 6)) (XP (¬ (0 ≤ p ∧ p < 6) ∨ ¬ (0 ≤ w ∧ w < (W : Int))) False ((0 ≤ p ∧ p < 6) ∧ (0 ≤ w ∧ w < (W : Int)) ∧ c 18 w.toNat 6 < 0) h) := by
  refine TX.of (cc := cX7_run) (maxL := 5) (ret := (some .int)) [(0, .ref (ad 0 0)), (1, vI p), (2, vI w)] (by decide +kernel) rfl rfl (Nat.le_of_ble_eq_true rfl) ?_
  intro κ C hkl G GT
  subst hkl
  have C : CX κ "LedgeLevels" "run" cX7_run wsX7_run { frames := 7, cells := 3, slots := 18, locals := 112 } D A 5 := C
  have hiz : nq (D.1 20) (D.1 21) := cx_iz C
  obtain ⟨hO1, q2, q3, q4, q5⟩ := id hC
  obtain ⟨o1, o2, o3, o4, o5, o6, o7⟩ := id hO1
  refine x_aload_n C dX7_run_0 0 rfl ?_
  refine x_iload_n C dX7_run_1 1 rfl ?_
  have f1 : h (ad 0 0) = some (eO 7 [.ref (ad 1 0), .ref (ad 2 0), .ref (ad 3 0), .ref (ad 4 0), .ref (ad 5 0), vI (c 0 0 5), vI (c 0 0 6)]) := hR.1 0 0 (lv0 (by decide))
  refine x_callVt C (n := 1) (qc := (RX7, TX7, 7)) (As := [vI p]) (rest := []) (c_X7_runOf (hR) (by assumption) (by omega)) gX7_run_X7_runOf (by decide +kernel) f1 rfl rfl rfl rfl (Nat.le_of_ble_eq_true rfl) ⟨by decide, by decide⟩ ⟨(by decide), (by decide)⟩ dX7_run_2 GT (by decide) (by decide) (fun E h9 hx9 => XP.imp hx9 (fun z9 => by first | exact z9.elim | omega) (fun z9 => by first | exact z9.elim | omega) (fun z9 => by first | exact z9.elim | omega)) (fun rv2 h3 hp4 => ?_)
  obtain ⟨rfl, e5, hp_2⟩ := hp4
  obtain rfl := e5.symm
  obtain ⟨r1, r2, r3, r4, r5, r6, r7, r8⟩ := q5 p.toNat (by omega)
  refine x_astore_n C (ls' := [(0, .ref (ad 0 0)), (1, vI p), (2, vI w), (3, .ref (ad 23 p.toNat))]) dX7_run_5 (by decide) rfl ?_
  refine x_aload_n C dX7_run_6 0 rfl ?_
  refine x_iload_n C dX7_run_7 2 rfl ?_
  refine x_callVt C (n := 1) (qc := (RX7, TX7, 7)) (As := [vI w]) (rest := []) (c_X7_workOf (hR) (by assumption) (by omega)) gX7_run_X7_workOf (by decide +kernel) f1 rfl rfl rfl rfl (Nat.le_of_ble_eq_true rfl) ⟨by decide, by decide⟩ ⟨(by decide), (by decide)⟩ dX7_run_8 GT (by decide) (by decide) (fun E h9 hx9 => XP.imp hx9 (fun z9 => by first | exact z9.elim | omega) (fun z9 => by first | exact z9.elim | omega) (fun z9 => by first | exact z9.elim | omega)) (fun rv6 h7 hp8 => ?_)
  obtain ⟨rfl, e9, hw_8⟩ := hp8
  obtain rfl := e9.symm
  obtain ⟨⟨g1, g2, g3⟩, ⟨e0, e1, e2, e3, e4, e5, e6⟩⟩ := q4 w.toNat (by omega)
  obtain ⟨y1, y2, y3, y4, y5, y6, y7⟩ := X0_ok (f := c 20 w.toNat) (q := c 21 w.toNat) e3
  refine x_astore C (ls' := [(0, .ref (ad 0 0)), (1, vI p), (2, vI w), (3, .ref (ad 23 p.toNat)), (4, .ref (ad 18 w.toNat))]) dX7_run_11 (by decide) rfl ?_
  refine x_aload C dX7_run_13 4 rfl ?_
  refine x_callSt C (n := 1) (As := [.ref (ad 18 w.toNat)]) (rest := []) (c_X7_checkNotWithdrawn (hR) (by assumption) (by omega)) gX7_run_X7_checkNotWithdrawn (by decide +kernel) rfl rfl rfl (Nat.le_of_ble_eq_true rfl) ⟨by decide, by decide⟩ ⟨(by decide), (by decide)⟩ dX7_run_15 GT (by decide) (by decide) (fun E h9 hx9 => XP.imp hx9 (fun z9 => by first | exact z9.elim | omega) (fun z9 => by first | exact z9.elim | omega) (fun z9 => by first | exact z9.elim | omega)) (fun rv10 h11 hp12 => ?_)
  obtain ⟨rfl, e13, hnw_15⟩ := hp12
  obtain rfl := e13.symm
  refine x_aload_n C dX7_run_18 3 rfl ?_
  refine x_aload C dX7_run_19 4 rfl ?_
  have f14 : h (ad 23 p.toNat) = some (eO 4 [.ref (ad 24 p.toNat), va_rf (prf ad (c 23 p.toNat 1)), vI (c 23 p.toNat 2), vI (c 23 p.toNat 3)]) := hR.1 23 p.toNat (lvR (by decide) (by omega))
  have f15 : h (ad 24 p.toNat) = some (eO 0 [.ref (ad 1 0), vI (c 24 p.toNat 1), vI (c 24 p.toNat 2), vI (((c 24 p.toNat 3).toNat : Nat) : Int), vI (c 24 p.toNat 4)]) := hR.1 24 p.toNat (lvR (by decide) (by omega))
  have f16 : h (ad 18 w.toNat) = some (eO 6 [vI (c 18 w.toNat 0), vI (c 18 w.toNat 1), va_rf (prf ad (c 18 w.toNat 2)), .ref (ad 19 w.toNat), vI (c 18 w.toNat 4), .ref (ad 22 w.toNat), vI (c 18 w.toNat 6), vI (c 18 w.toNat 7)]) := hR.1 18 w.toNat (lvW (by decide) (by omega))
  have f17 : h (ad 19 w.toNat) = some (eO 1 [.ref (ad 20 w.toNat), .ref (ad 21 w.toNat), vI (((c 19 w.toNat 2).toNat : Nat) : Int)]) := hR.1 19 w.toNat (lvW (by decide) (by omega))
  have f18 : h (ad 20 w.toNat) = some (eI D 96 (c 20 w.toNat)) := hR.1 20 w.toNat (lvW (by decide) (by omega))
  have f19 : h (ad 21 w.toNat) = some (eI D 3 (c 21 w.toNat)) := hR.1 21 w.toNat (lvW (by decide) (by omega))
  refine x_callV C (n := 1) (qc := (RX4, TX4, 4)) (As := [.ref (ad 18 w.toNat)]) (rest := []) (c_X4_beginOn f14 f15 f16 f17 f18 f19 (by omega) (by assumption) (by assumption) (by omega)) gX7_run_X4_beginOn (by decide +kernel) f14 rfl rfl rfl rfl (Nat.le_of_ble_eq_true rfl) ⟨by decide, by decide⟩ ⟨(by decide), (by decide)⟩ dX7_run_21 (fun rv20 h21 hp22 => ?_)
  obtain ⟨rfl, e23⟩ := hp22
  have f24 : h21 (ad 18 w.toNat) = some (eO 6 [vI (c 18 w.toNat 0), vI (c 18 w.toNat 1), va_rf (prf ad (c 18 w.toNat 2)), .ref (ad 19 w.toNat), vI (c 18 w.toNat 4), .ref (ad 22 w.toNat), vI (c 18 w.toNat 6), vI ((if (X0 (c 20 w.toNat) (c 21 w.toNat) (c 18 w.toNat 4)).2.2.2 = 2 then (if (c 18 w.toNat 7) < 0 ∨ 0 < (c 18 w.toNat 7) then 0 else (c 18 w.toNat 7)) else (c 18 w.toNat 7)))]) := by rw [e23]; exact hu_s
  have f25 : h21 (ad 23 p.toNat) = some (eO 4 [.ref (ad 24 p.toNat), .ref (ad 18 w.toNat), vI ((X0 (c 20 w.toNat) (c 21 w.toNat) (c 18 w.toNat 4)).2.2.2), vI 0]) := by rw [e23, hu_n (hR.ne (lvR (by decide) (by omega)) (lvW (by decide) (by omega)) (fun zz9 => absurd zz9.1 (by decide)))]; exact hu_s
  have f26 : h21 (ad 24 p.toNat) = some (eO 0 [.ref (ad 1 0), vI ((X0 (c 20 w.toNat) (c 21 w.toNat) (c 18 w.toNat 4)).1), vI 0, vI (((X0 (c 20 w.toNat) (c 21 w.toNat) (c 18 w.toNat 4)).2.2.1 : Nat) : Int), vI ((X0 (c 20 w.toNat) (c 21 w.toNat) (c 18 w.toNat 4)).2.2.2)]) := by rw [e23, hu_n (hR.ne (lvR (by decide) (by omega)) (lvW (by decide) (by omega)) (fun zz9 => absurd zz9.1 (by decide))), hu_n (hR.ne (lvR (by decide) (by omega)) (lvR (by decide) (by omega)) (fun zz9 => absurd zz9.1 (by decide)))]; exact hu_s
  refine x_aload_n C dX7_run_24 3 rfl ?_
  refine x_callV C (n := 0) (qc := (RX4, TX4, 4)) (As := []) (rest := []) (c_X4_answer f25 f26 (by omega) (by omega)) gX7_run_X4_answer (by decide +kernel) f25 rfl rfl rfl rfl (Nat.le_of_ble_eq_true rfl) ⟨by decide, by decide⟩ ⟨(by decide), (by decide)⟩ dX7_run_25 (fun rv27 h28 hp29 => ?_)
  obtain ⟨rfl, e30⟩ := hp29
  obtain rfl := e30.symm
  refine x_iret C G dX7_run_28 ?_ (by decide) (by decide)
  have cp31 : CP D ad L W h (cu (cu (cu c 24 p.toNat (oF [0, (X0 (c 20 w.toNat) (c 21 w.toNat) (c 18 w.toNat 4)).1, 0, (((X0 (c 20 w.toNat) (c 21 w.toNat) (c 18 w.toNat 4)).2.2.1 : Nat) : Int), (X0 (c 20 w.toNat) (c 21 w.toNat) (c 18 w.toNat 4)).2.2.2])) 23 p.toNat (oF [0, ((w.toNat + 1 : Nat) : Int), (X0 (c 20 w.toNat) (c 21 w.toNat) (c 18 w.toNat 4)).2.2.2, 0])) 18 w.toNat (oF [c 18 w.toNat 0, c 18 w.toNat 1, c 18 w.toNat 2, 0, (c 18 w.toNat 4), 0, c 18 w.toNat 6, (if (X0 (c 20 w.toNat) (c 21 w.toNat) (c 18 w.toNat 4)).2.2.2 = 2 then (if (c 18 w.toNat 7) < 0 ∨ 0 < (c 18 w.toNat 7) then 0 else (c 18 w.toNat 7)) else (c 18 w.toNat 7))])) h21 := by rw [e23]; exact (CP.up (CP.up (CP.up (CP.rf hR) (lvR (by decide) (by omega)) (oF [0, (X0 (c 20 w.toNat) (c 21 w.toNat) (c 18 w.toNat 4)).1, 0, (((X0 (c 20 w.toNat) (c 21 w.toNat) (c 18 w.toNat 4)).2.2.1 : Nat) : Int), (X0 (c 20 w.toNat) (c 21 w.toNat) (c 18 w.toNat 4)).2.2.2]) rfl) (lvR (by decide) (by omega)) (oF [0, ((w.toNat + 1 : Nat) : Int), (X0 (c 20 w.toNat) (c 21 w.toNat) (c 18 w.toNat 4)).2.2.2, 0]) rfl) (lvW (by decide) (by omega)) (oF [c 18 w.toNat 0, c 18 w.toNat 1, c 18 w.toNat 2, 0, (c 18 w.toNat 4), 0, c 18 w.toNat 6, (if (X0 (c 20 w.toNat) (c 21 w.toNat) (c 18 w.toNat 4)).2.2.2 = 2 then (if (c 18 w.toNat 7) < 0 ∨ 0 < (c 18 w.toNat 7) then 0 else (c 18 w.toNat 7)) else (c 18 w.toNat 7))]) rfl)
  exact ⟨rfl, cp31, by omega⟩

theorem kX7_step_0 : Cond.classLink "LedgeLevels" 73 "java/lang/IllegalArgumentException" ∈ wsX7_step := by decide +kernel
theorem kX7_step_1 : Cond.initialized "java/lang/IllegalArgumentException" ∈ wsX7_step := by decide +kernel
theorem kX7_step_2 : ∀ w ∈ (vx_atS "LedgeLevels" 77 "java/lang/IllegalArgumentException" ["java/lang/RuntimeException", "java/lang/Exception"]).filter goodWord, w ∈ wsX7_step := by decide +kernel
theorem kX7_step_3 : Cond.fieldLinkNest "LedgeLevels" 202 "LedgeLevels$Run" "state" "I" "LedgeLevels" ∈ nwAll := by decide +kernel
theorem kX7_step_4 : ∀ w ∈ wsX40, w ∈ wsX7_step := by decide +kernel
theorem kX7_step_5 : Cond.fieldLinkNest "LedgeLevels" 207 "LedgeLevels$Run" "steps" "I" "LedgeLevels" ∈ nwAll := by decide +kernel
theorem kX7_step_6 : Cond.classLink "LedgeLevels" 88 "java/lang/IllegalStateException" ∈ wsX7_step := by decide +kernel
theorem kX7_step_7 : Cond.initialized "java/lang/IllegalStateException" ∈ wsX7_step := by decide +kernel
theorem kX7_step_8 : ∀ w ∈ (vx_atS "LedgeLevels" 92 "java/lang/IllegalStateException" ["java/lang/RuntimeException", "java/lang/Exception"]).filter goodWord, w ∈ wsX7_step := by decide +kernel
set_option maxRecDepth 100000 in
set_option maxHeartbeats 1000000 in
theorem c_X7_step {l : Launch} {D : va_G} {A : Nat → Prop} {h : vh} {ad : AD} {c : CS} {L W : Nat} {p z : Int}  (hR : RepC D ad c L W h) (hC : Cok c L W) (hi_p : -2147483648 ≤ p ∧ p ≤ 2147483647) (hi_z : -2147483648 ≤ z ∧ z ≤ 2147483647) : TX l D A yX7_step wsX7_step { frames := 7, cells := 2, slots := 12, locals := 112 } [.ref (ad 0 0), vI p, vI z] h (fun rv h' => ∃ (x : Nat), rv = some (vI ((if (mv (c 20 x) (kbf (c 20 x) (c 21 x)) (c 19 x 2).toNat (c 1 0) z (c 24 p.toNat 1) (c 24 p.toNat 2) (c 24 p.toNat 3).toNat).2.2.2 = 3 then -1 else if (mv (c 20 x) (kbf (c 20 x) (c 21 x)) (c 19 x 2).toNat (c 1 0) z (c 24 p.toNat 1) (c 24 p.toNat 2) (c 24 p.toNat 3).toNat).2.2.2 = 2 then -2 else (mv (c 20 x) (kbf (c 20 x) (c 21 x)) (c 19 x 2).toNat (c 1 0) z (c 24 p.toNat 1) (c 24 p.toNat 2) (c 24 p.toNat 3).toNat).1))) ∧ CP D ad L W h ((cu (cu (cu c 24 p.toNat (oF [0, (mv (c 20 x) (kbf (c 20 x) (c 21 x)) ((c 19 x 2).toNat) (c 1 0) z (c 24 p.toNat 1) (c 24 p.toNat 2) ((c 24 p.toNat 3).toNat)).1, (mv (c 20 x) (kbf (c 20 x) (c 21 x)) ((c 19 x 2).toNat) (c 1 0) z (c 24 p.toNat 1) (c 24 p.toNat 2) ((c 24 p.toNat 3).toNat)).2.1, (((mv (c 20 x) (kbf (c 20 x) (c 21 x)) ((c 19 x 2).toNat) (c 1 0) z (c 24 p.toNat 1) (c 24 p.toNat 2) ((c 24 p.toNat 3).toNat)).2.2.1 : Nat) : Int), (mv (c 20 x) (kbf (c 20 x) (c 21 x)) ((c 19 x 2).toNat) (c 1 0) z (c 24 p.toNat 1) (c 24 p.toNat 2) ((c 24 p.toNat 3).toNat)).2.2.2])) 23 p.toNat (oF [0, ((x + 1 : Nat) : Int), (mv (c 20 x) (kbf (c 20 x) (c 21 x)) ((c 19 x 2).toNat) (c 1 0) z (c 24 p.toNat 1) (c 24 p.toNat 2) ((c 24 p.toNat 3).toNat)).2.2.2, (c 23 p.toNat 3) + 1])) 18 x (oF [c 18 x 0, c 18 x 1, c 18 x 2, 0, (c 18 x 4), 0, c 18 x 6, (if (mv (c 20 x) (kbf (c 20 x) (c 21 x)) ((c 19 x 2).toNat) (c 1 0) z (c 24 p.toNat 1) (c 24 p.toNat 2) ((c 24 p.toNat 3).toNat)).2.2.2 = 2 then (if (c 18 x 7) < 0 ∨ ((c 23 p.toNat 3) + 1) < (c 18 x 7) then ((c 23 p.toNat 3) + 1) else (c 18 x 7)) else (c 18 x 7))]))) h' ∧ ((0 ≤ p ∧ p < 6) ∧ (0 ≤ z ∧ z < 6) ∧ c 23 p.toNat 2 = 1 ∧ c 23 p.toNat 3 < 200 ∧ x < W ∧ c 23 p.toNat 1 = (x : Int) + 1)) (XP (¬ (0 ≤ p ∧ p < 6)) ((0 ≤ p ∧ p < 6) ∧ ¬ (0 ≤ z ∧ z < 6)) ((0 ≤ p ∧ p < 6) ∧ (0 ≤ z ∧ z < 6) ∧ (c 23 p.toNat 2 ≠ 1 ∨ 200 ≤ c 23 p.toNat 3)) h) := by
  refine TX.of (cc := cX7_step) (maxL := 4) (ret := (some .int)) [(0, .ref (ad 0 0)), (1, vI p), (2, vI z)] (by decide +kernel) rfl rfl (Nat.le_of_ble_eq_true rfl) ?_
  intro κ C hkl G GT
  subst hkl
  have C : CX κ "LedgeLevels" "step" cX7_step wsX7_step { frames := 7, cells := 2, slots := 12, locals := 112 } D A 4 := C
  have hiz : nq (D.1 20) (D.1 21) := cx_iz C
  obtain ⟨hO1, q2, q3, q4, q5⟩ := id hC
  obtain ⟨o1, o2, o3, o4, o5, o6, o7⟩ := id hO1
  refine x_aload_n C dX7_step_0 0 rfl ?_
  refine x_iload_n C dX7_step_1 1 rfl ?_
  have f1 : h (ad 0 0) = some (eO 7 [.ref (ad 1 0), .ref (ad 2 0), .ref (ad 3 0), .ref (ad 4 0), .ref (ad 5 0), vI (c 0 0 5), vI (c 0 0 6)]) := hR.1 0 0 (lv0 (by decide))
  refine x_callVt C (n := 1) (qc := (RX7, TX7, 7)) (As := [vI p]) (rest := []) (c_X7_runOf (hR) (by assumption) (by omega)) gX7_step_X7_runOf (by decide +kernel) f1 rfl rfl rfl rfl (Nat.le_of_ble_eq_true rfl) ⟨by decide, by decide⟩ ⟨(by decide), (by decide)⟩ dX7_step_2 GT (by decide) (by decide) (fun E h9 hx9 => XP.imp hx9 (fun z9 => by first | exact z9.elim | omega) (fun z9 => by first | exact z9.elim | omega) (fun z9 => by first | exact z9.elim | omega)) (fun rv2 h3 hp4 => ?_)
  obtain ⟨rfl, e5, hp_2⟩ := hp4
  obtain rfl := e5.symm
  obtain ⟨r1, r2, r3, r4, r5, r6, r7, r8⟩ := q5 p.toNat (by omega)
  refine x_astore_n C (ls' := [(0, .ref (ad 0 0)), (1, vI p), (2, vI z), (3, .ref (ad 23 p.toNat))]) dX7_step_5 (by decide) rfl ?_
  refine x_iload_n C dX7_step_6 2 rfl ?_
  refine x_if_lt (tgt := 16) C dX7_step_7 (by decide) (by omega) (fun c6 => ?_) (fun c6 => ?_)
  · skip
    refine x_throwS C GT (cls := "java/lang/IllegalArgumentException") (text := "no such input") (names := ["java/lang/RuntimeException", "java/lang/Exception"]) (by decide +kernel) (by decide +kernel) kX7_step_0 kX7_step_1 (by decide +kernel) kX7_step_2 (by decide +kernel) (by decide +kernel) dX7_step_16 dX7_step_19 dX7_step_20 dX7_step_22 dX7_step_25 (by decide) (by decide) (by decide) (by decide) (by decide) (by decide) ?_
    exact ⟨rfl, Or.inr (Or.inl ⟨rfl, by omega⟩)⟩
  · skip
    refine x_iload_n C dX7_step_10 2 rfl ?_
    refine x_bipush C dX7_step_11 6 (by decide) ?_
    refine x_icmp_lt (tgt := 26) C dX7_step_13 (by decide) (by omega) (by omega) (fun c7 => ?_) (fun c7 => ?_)
    · skip
      refine x_aload_n C dX7_step_26 3 rfl ?_
      have f8 : h (ad 23 p.toNat) = some (eO 4 [.ref (ad 24 p.toNat), va_rf (prf ad (c 23 p.toNat 1)), vI (c 23 p.toNat 2), vI (c 23 p.toNat 3)]) := hR.1 23 p.toNat (lvR (by decide) (by omega))
      refine x_getN (host := "LedgeLevels") C (v := vI (c 23 p.toNat 2)) f8 (T := TX4) rfl kX7_step_4 2 (by decide) kX7_step_3 rfl dX7_step_27 ?_
      refine x_iconst C dX7_step_30 1 (by decide) ?_
      refine x_icmp_eq (tgt := 44) C dX7_step_31 (by decide) (by omega) (by omega) (fun c9 => ?_) (fun c9 => ?_)
      · skip
        refine x_aload_n C dX7_step_44 3 rfl ?_
        refine x_getN (host := "LedgeLevels") C (v := vI (c 23 p.toNat 3)) f8 (T := TX4) rfl kX7_step_4 3 (by decide) kX7_step_5 rfl dX7_step_45 ?_
        refine x_sipush C dX7_step_48 200 (by decide) ?_
        refine x_icmp_lt (tgt := 64) C dX7_step_51 (by decide) (by omega) (by omega) (fun c10 => ?_) (fun c10 => ?_)
        · skip
          obtain ⟨x, hz, hq⟩ : ∃ x : Nat, c 23 p.toNat 1 = (x : Int) + 1 ∧ prf ad (c 23 p.toNat 1) = some (ad 18 x) := by
            rcases prf_or (ad := ad) r1.1 with ⟨hz, hq⟩ | q9
            · exfalso; omega
            · exact q9
          obtain ⟨⟨g1, g2, g3⟩, ⟨e0, e1, e2, e3, e4, e5, e6⟩⟩ := q4 x (by omega)
          obtain ⟨y1, y2, y3, y4, y5, y6, y7⟩ := mv_r (kbf_r (c 20 x) (c 21 x)) q2 r5 r6 (show (c 24 p.toNat 3).toNat < 8 by omega) (f := c 20 x) (al := (c 19 x 2).toNat) (inp := z)
          refine x_aload_n C dX7_step_64 3 rfl ?_
          refine x_iload_n C dX7_step_65 2 rfl ?_
          have f11 : h (ad 23 p.toNat) = some (eO 4 [.ref (ad 24 p.toNat), .ref (ad 18 x), vI (c 23 p.toNat 2), vI (c 23 p.toNat 3)]) := by have q9 := f8; rw [hq] at q9; exact q9
          have f12 : h (ad 24 p.toNat) = some (eO 0 [.ref (ad 1 0), vI (c 24 p.toNat 1), vI (c 24 p.toNat 2), vI (((c 24 p.toNat 3).toNat : Nat) : Int), vI (c 24 p.toNat 4)]) := hR.1 24 p.toNat (lvR (by decide) (by omega))
          have f13 : h (ad 24 p.toNat) = some (eO 0 [.ref (ad 1 0), vI (c 24 p.toNat 1), vI (c 24 p.toNat 2), vI (((c 24 p.toNat 3).toNat : Nat) : Int), vI 1]) := by have q9 := f12; rw [(r4 (by omega)).2] at q9; exact q9
          have f14 : h (ad 18 x) = some (eO 6 [vI (c 18 x 0), vI (c 18 x 1), va_rf (prf ad (c 18 x 2)), .ref (ad 19 x), vI (c 18 x 4), .ref (ad 22 x), vI (c 18 x 6), vI (c 18 x 7)]) := hR.1 18 x (lvW (by decide) (by omega))
          have f15 : h (ad 19 x) = some (eO 1 [.ref (ad 20 x), .ref (ad 21 x), vI (((c 19 x 2).toNat : Nat) : Int)]) := hR.1 19 x (lvW (by decide) (by omega))
          have f16 : h (ad 20 x) = some (eI D 96 (c 20 x)) := hR.1 20 x (lvW (by decide) (by omega))
          have f17 : h (ad 21 x) = some (eI D 3 (c 21 x)) := hR.1 21 x (lvW (by decide) (by omega))
          have f18 : h (ad 1 0) = some (eI D 3 (c 1 0)) := hR.1 1 0 (lv0 (by decide))
          refine x_callV C (n := 1) (qc := (RX4, TX4, 4)) (As := [vI z]) (rest := []) (c_X4_goOn f11 f13 f14 f15 f16 f17 f18 (by omega) (by omega) (by omega) (by assumption) (by assumption) (by assumption) (by omega) (by omega) (by omega) (by omega)) gX7_step_X4_goOn (by decide +kernel) f11 rfl rfl rfl rfl (Nat.le_of_ble_eq_true rfl) ⟨by decide, by decide⟩ ⟨(by decide), (by decide)⟩ dX7_step_66 (fun rv19 h20 hp21 => ?_)
          obtain ⟨rfl, e22⟩ := hp21
          have f23 : h20 (ad 18 x) = some (eO 6 [vI (c 18 x 0), vI (c 18 x 1), va_rf (prf ad (c 18 x 2)), .ref (ad 19 x), vI (c 18 x 4), .ref (ad 22 x), vI (c 18 x 6), vI ((if (mv (c 20 x) (kbf (c 20 x) (c 21 x)) ((c 19 x 2).toNat) (c 1 0) z (c 24 p.toNat 1) (c 24 p.toNat 2) ((c 24 p.toNat 3).toNat)).2.2.2 = 2 then (if (c 18 x 7) < 0 ∨ ((c 23 p.toNat 3) + 1) < (c 18 x 7) then ((c 23 p.toNat 3) + 1) else (c 18 x 7)) else (c 18 x 7)))]) := by rw [e22]; exact hu_s
          have f24 : h20 (ad 23 p.toNat) = some (eO 4 [.ref (ad 24 p.toNat), .ref (ad 18 x), vI ((mv (c 20 x) (kbf (c 20 x) (c 21 x)) ((c 19 x 2).toNat) (c 1 0) z (c 24 p.toNat 1) (c 24 p.toNat 2) ((c 24 p.toNat 3).toNat)).2.2.2), vI ((c 23 p.toNat 3) + 1)]) := by rw [e22, hu_n (hR.ne (lvR (by decide) (by omega)) (lvW (by decide) (by omega)) (fun zz9 => absurd zz9.1 (by decide)))]; exact hu_s
          have f25 : h20 (ad 24 p.toNat) = some (eO 0 [.ref (ad 1 0), vI ((mv (c 20 x) (kbf (c 20 x) (c 21 x)) ((c 19 x 2).toNat) (c 1 0) z (c 24 p.toNat 1) (c 24 p.toNat 2) ((c 24 p.toNat 3).toNat)).1), vI ((mv (c 20 x) (kbf (c 20 x) (c 21 x)) ((c 19 x 2).toNat) (c 1 0) z (c 24 p.toNat 1) (c 24 p.toNat 2) ((c 24 p.toNat 3).toNat)).2.1), vI (((mv (c 20 x) (kbf (c 20 x) (c 21 x)) ((c 19 x 2).toNat) (c 1 0) z (c 24 p.toNat 1) (c 24 p.toNat 2) ((c 24 p.toNat 3).toNat)).2.2.1 : Nat) : Int), vI ((mv (c 20 x) (kbf (c 20 x) (c 21 x)) ((c 19 x 2).toNat) (c 1 0) z (c 24 p.toNat 1) (c 24 p.toNat 2) ((c 24 p.toNat 3).toNat)).2.2.2)]) := by rw [e22, hu_n (hR.ne (lvR (by decide) (by omega)) (lvW (by decide) (by omega)) (fun zz9 => absurd zz9.1 (by decide))), hu_n (hR.ne (lvR (by decide) (by omega)) (lvR (by decide) (by omega)) (fun zz9 => absurd zz9.1 (by decide)))]; exact hu_s
          refine x_aload_n C dX7_step_69 3 rfl ?_
          refine x_callV C (n := 0) (qc := (RX4, TX4, 4)) (As := []) (rest := []) (c_X4_answer f24 f25 (by omega) (by omega)) gX7_step_X4_answer (by decide +kernel) f24 rfl rfl rfl rfl (Nat.le_of_ble_eq_true rfl) ⟨by decide, by decide⟩ ⟨(by decide), (by decide)⟩ dX7_step_70 (fun rv26 h27 hp28 => ?_)
          obtain ⟨rfl, e29⟩ := hp28
          obtain rfl := e29.symm
          refine x_iret C G dX7_step_73 ?_ (by decide) (by decide)
          have cp30 : CP D ad L W h (cu (cu (cu c 24 p.toNat (oF [0, (mv (c 20 x) (kbf (c 20 x) (c 21 x)) ((c 19 x 2).toNat) (c 1 0) z (c 24 p.toNat 1) (c 24 p.toNat 2) ((c 24 p.toNat 3).toNat)).1, (mv (c 20 x) (kbf (c 20 x) (c 21 x)) ((c 19 x 2).toNat) (c 1 0) z (c 24 p.toNat 1) (c 24 p.toNat 2) ((c 24 p.toNat 3).toNat)).2.1, (((mv (c 20 x) (kbf (c 20 x) (c 21 x)) ((c 19 x 2).toNat) (c 1 0) z (c 24 p.toNat 1) (c 24 p.toNat 2) ((c 24 p.toNat 3).toNat)).2.2.1 : Nat) : Int), (mv (c 20 x) (kbf (c 20 x) (c 21 x)) ((c 19 x 2).toNat) (c 1 0) z (c 24 p.toNat 1) (c 24 p.toNat 2) ((c 24 p.toNat 3).toNat)).2.2.2])) 23 p.toNat (oF [0, ((x + 1 : Nat) : Int), (mv (c 20 x) (kbf (c 20 x) (c 21 x)) ((c 19 x 2).toNat) (c 1 0) z (c 24 p.toNat 1) (c 24 p.toNat 2) ((c 24 p.toNat 3).toNat)).2.2.2, (c 23 p.toNat 3) + 1])) 18 x (oF [c 18 x 0, c 18 x 1, c 18 x 2, 0, (c 18 x 4), 0, c 18 x 6, (if (mv (c 20 x) (kbf (c 20 x) (c 21 x)) ((c 19 x 2).toNat) (c 1 0) z (c 24 p.toNat 1) (c 24 p.toNat 2) ((c 24 p.toNat 3).toNat)).2.2.2 = 2 then (if (c 18 x 7) < 0 ∨ ((c 23 p.toNat 3) + 1) < (c 18 x 7) then ((c 23 p.toNat 3) + 1) else (c 18 x 7)) else (c 18 x 7))])) h20 := by rw [e22]; exact (CP.up (CP.up (CP.up (CP.rf hR) (lvR (by decide) (by omega)) (oF [0, (mv (c 20 x) (kbf (c 20 x) (c 21 x)) ((c 19 x 2).toNat) (c 1 0) z (c 24 p.toNat 1) (c 24 p.toNat 2) ((c 24 p.toNat 3).toNat)).1, (mv (c 20 x) (kbf (c 20 x) (c 21 x)) ((c 19 x 2).toNat) (c 1 0) z (c 24 p.toNat 1) (c 24 p.toNat 2) ((c 24 p.toNat 3).toNat)).2.1, (((mv (c 20 x) (kbf (c 20 x) (c 21 x)) ((c 19 x 2).toNat) (c 1 0) z (c 24 p.toNat 1) (c 24 p.toNat 2) ((c 24 p.toNat 3).toNat)).2.2.1 : Nat) : Int), (mv (c 20 x) (kbf (c 20 x) (c 21 x)) ((c 19 x 2).toNat) (c 1 0) z (c 24 p.toNat 1) (c 24 p.toNat 2) ((c 24 p.toNat 3).toNat)).2.2.2]) rfl) (lvR (by decide) (by omega)) (oF [0, ((x + 1 : Nat) : Int), (mv (c 20 x) (kbf (c 20 x) (c 21 x)) ((c 19 x 2).toNat) (c 1 0) z (c 24 p.toNat 1) (c 24 p.toNat 2) ((c 24 p.toNat 3).toNat)).2.2.2, (c 23 p.toNat 3) + 1]) rfl) (lvW (by decide) (by omega)) (oF [c 18 x 0, c 18 x 1, c 18 x 2, 0, (c 18 x 4), 0, c 18 x 6, (if (mv (c 20 x) (kbf (c 20 x) (c 21 x)) ((c 19 x 2).toNat) (c 1 0) z (c 24 p.toNat 1) (c 24 p.toNat 2) ((c 24 p.toNat 3).toNat)).2.2.2 = 2 then (if (c 18 x 7) < 0 ∨ ((c 23 p.toNat 3) + 1) < (c 18 x 7) then ((c 23 p.toNat 3) + 1) else (c 18 x 7)) else (c 18 x 7))]) rfl)
          exact ⟨x, rfl, cp30, by omega⟩
        · skip
          refine x_throwS C GT (cls := "java/lang/IllegalStateException") (text := "the run has all its steps") (names := ["java/lang/RuntimeException", "java/lang/Exception"]) (by decide +kernel) (by decide +kernel) kX7_step_6 kX7_step_7 (by decide +kernel) kX7_step_8 (by decide +kernel) (by decide +kernel) dX7_step_54 dX7_step_57 dX7_step_58 dX7_step_60 dX7_step_63 (by decide) (by decide) (by decide) (by decide) (by decide) (by decide) ?_
          exact ⟨rfl, Or.inr (Or.inr ⟨rfl, by omega⟩)⟩
      · skip
        refine x_throwS C GT (cls := "java/lang/IllegalStateException") (text := "no run that goes on") (names := ["java/lang/RuntimeException", "java/lang/Exception"]) (by decide +kernel) (by decide +kernel) kX7_step_6 kX7_step_7 (by decide +kernel) kX7_step_8 (by decide +kernel) (by decide +kernel) dX7_step_34 dX7_step_37 dX7_step_38 dX7_step_40 dX7_step_43 (by decide) (by decide) (by decide) (by decide) (by decide) (by decide) ?_
        exact ⟨rfl, Or.inr (Or.inr ⟨rfl, by omega⟩)⟩
    · skip
      refine x_throwS C GT (cls := "java/lang/IllegalArgumentException") (text := "no such input") (names := ["java/lang/RuntimeException", "java/lang/Exception"]) (by decide +kernel) (by decide +kernel) kX7_step_0 kX7_step_1 (by decide +kernel) kX7_step_2 (by decide +kernel) (by decide +kernel) dX7_step_16 dX7_step_19 dX7_step_20 dX7_step_22 dX7_step_25 (by decide) (by decide) (by decide) (by decide) (by decide) (by decide) ?_
      exact ⟨rfl, Or.inr (Or.inl ⟨rfl, by omega⟩)⟩


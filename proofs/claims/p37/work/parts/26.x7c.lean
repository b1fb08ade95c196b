/-- a search has been made: only its own cells have changed -/
def SE (c c1 : CS) : Prop := (∀ k i, ¬ (5 ≤ k ∧ k ≤ 9) → c1 k i = c k i) ∧ SSok (c1 5 0 4) ((c1 5 0 5).toNat, c1 7 0, c1 8 0, c1 9 0, c1 5 0 6) ∧ c1 5 0 4 = c 5 0 4 + 1
theorem SE.mk5 {c : CS} {f6 R1 N1 Q1 : Nat → Int} {m1 : Nat} {w1 : Int} (h : SSok (c 5 0 4 + 1) (m1, Q1, N1, R1, w1)) : SE c (cu (cu (cu (cu (cu c 6 0 f6) 9 0 R1) 8 0 N1) 7 0 Q1) 5 0 (oF [0, 0, 0, 0, c 5 0 4 + 1, ((m1 : Nat) : Int), w1])) := by
  refine ⟨fun k i hk => ?_, h, rfl⟩
  rw [cu_n (by omega), cu_n (by omega), cu_n (by omega), cu_n (by omega), cu_n (by omega)]
theorem SE.mk4 {c : CS} {f6 R1 Q1 : Nat → Int} {m1 : Nat} {w1 : Int} (h : SSok (c 5 0 4 + 1) (m1, Q1, c 8 0, R1, w1)) : SE c (cu (cu (cu (cu c 6 0 f6) 9 0 R1) 7 0 Q1) 5 0 (oF [0, 0, 0, 0, c 5 0 4 + 1, ((m1 : Nat) : Int), w1])) := by
  refine ⟨fun k i hk => ?_, h, rfl⟩
  rw [cu_n (by omega), cu_n (by omega), cu_n (by omega), cu_n (by omega)]
theorem SE.cok {c c1 : CS} {L W : Nat} (h : SE c c1) (hC : Cok c L W) : Cok c1 L W := by
  have e := fun k i (hk : ¬ (5 ≤ k ∧ k ≤ 9)) => h.1 k i hk
  obtain ⟨h1, q2, q3, q4, q5⟩ := hC
  refine ⟨?_, ?_, fun i hi => ?_, fun i hi => ?_, fun p hp => ?_⟩
  · unfold Ok1 at h1 ⊢; rw [e 0 0 (by omega), e 2 0 (by omega), e 3 0 (by omega), e 4 0 (by omega)]; exact h1
  · rw [e 1 0 (by omega)]; exact q2
  · have := q3 i hi
    unfold OkL OkH at this ⊢
    rw [e 12 i (by omega), e 13 i (by omega), e 11 i (by omega), e 10 i (by omega), e 14 i (by omega), e 15 i (by omega), e 16 i (by omega), e 17 i (by omega)]
    exact this
  · have := q4 i hi
    unfold OkW at this ⊢
    rw [e 20 i (by omega), e 21 i (by omega), e 19 i (by omega), e 18 i (by omega), e 22 i (by omega)]
    exact this
  · have := q5 p hp
    unfold OkR at this ⊢
    rw [e 23 p (by omega), e 24 p (by omega)]
    exact this

theorem kX7_prove_0 : Cond.fieldLink "LedgeLevels" 36 "LedgeLevels" "search" "LLedgeLevels$Search;" ∈ wsX7_prove := by decide +kernel
theorem kX7_prove_1 : ∀ w ∈ wsX70, w ∈ wsX7_prove := by decide +kernel
theorem kX7_prove_2 : Cond.fieldLinkNest "LedgeLevels" 56 "LedgeLevels$Level" "grid" "LLedgeLevels$Grid;" "LedgeLevels" ∈ nwAll := by decide +kernel
theorem kX7_prove_3 : ∀ w ∈ wsX30, w ∈ wsX7_prove := by decide +kernel
theorem kX7_prove_4 : Cond.fieldLinkNest "LedgeLevels" 106 "LedgeLevels$Level" "start" "I" "LedgeLevels" ∈ nwAll := by decide +kernel
theorem kX7_prove_5 : Cond.fieldLinkNest "LedgeLevels" 109 "LedgeLevels$Level" "proof" "I" "LedgeLevels" ∈ nwAll := by decide +kernel
set_option maxRecDepth 100000 in
set_option maxHeartbeats 1000000 in
theorem c_X7_prove {l : Launch} {D : va_G} {A : Nat → Prop} {h : vh} {ad : AD} {c : CS} {L W : Nat} {u : Int}  (hR : RepC D ad c L W h) (hC : Cok c L W) (hSo : OkS c) (hi_u : -2147483648 ≤ u ∧ u ≤ 2147483647) : TX l D A yX7_prove wsX7_prove { frames := 7, cells := 1, slots := 6, locals := 143 } [.ref (ad 0 0), vI u] h (fun rv h' => ∃ (c1 : CS) (w1 : Int), rv = some (vI w1) ∧ CP D ad L W h (cu c1 10 u.toNat (oF [c1 10 u.toNat 0, c1 10 u.toNat 1, 0, 0, c1 10 u.toNat 4, w1])) h' ∧ (SE c c1) ∧ (Found (TT (c 12 u.toNat) (c 13 u.toNat) (c 11 u.toNat 2).toNat (c 1 0)) (X0 (c 12 u.toNat) (c 13 u.toNat) (c 10 u.toNat 4)) w1) ∧ ((0 ≤ u ∧ u < (L : Int)))) (XP (¬ (0 ≤ u ∧ u < (L : Int))) False False h) := by
  refine TX.of (cc := cX7_prove) (maxL := 3) (ret := (some .int)) [(0, .ref (ad 0 0)), (1, vI u)] (by decide +kernel) rfl rfl (Nat.le_of_ble_eq_true rfl) ?_
  intro κ C hkl G GT
  subst hkl
  have C : CX κ "LedgeLevels" "prove" cX7_prove wsX7_prove { frames := 7, cells := 1, slots := 6, locals := 143 } D A 3 := C
  have hiz : nq (D.1 20) (D.1 21) := cx_iz C
  obtain ⟨hO1, q2, q3, q4, q5⟩ := id hC
  obtain ⟨o1, o2, o3, o4, o5, o6, o7⟩ := id hO1
  obtain ⟨hss, hs1, hs2⟩ := id hSo
  refine x_aload_n C dX7_prove_0 0 rfl ?_
  refine x_iload_n C dX7_prove_1 1 rfl ?_
  have f1 : h (ad 0 0) = some (eO 7 [.ref (ad 1 0), .ref (ad 2 0), .ref (ad 3 0), .ref (ad 4 0), .ref (ad 5 0), vI (c 0 0 5), vI (c 0 0 6)]) := hR.1 0 0 (lv0 (by decide))
  refine x_callVt C (n := 1) (qc := (RX7, TX7, 7)) (As := [vI u]) (rest := []) (c_X7_levelOf (hR) (by assumption) (by omega)) gX7_prove_X7_levelOf (by decide +kernel) f1 rfl rfl rfl rfl (Nat.le_of_ble_eq_true rfl) ⟨by decide, by decide⟩ ⟨(by decide), (by decide)⟩ dX7_prove_2 GT (by decide) (by decide) (fun E h9 hx9 => XP.imp hx9 (fun z9 => by first | exact z9.elim | omega) (fun z9 => by first | exact z9.elim | omega) (fun z9 => by first | exact z9.elim | omega)) (fun rv2 h3 hp4 => ?_)
  obtain ⟨rfl, e5, hu_2⟩ := hp4
  obtain rfl := e5.symm
  obtain ⟨⟨g1, g2, g3⟩, ⟨e0, e1, e2, e3⟩, ⟨k1, k2, k3, k4⟩⟩ := q3 u.toNat (by omega)
  refine x_astore_n C (ls' := [(0, .ref (ad 0 0)), (1, vI u), (2, .ref (ad 10 u.toNat))]) dX7_prove_5 (by decide) rfl ?_
  refine x_aload_n C dX7_prove_6 2 rfl ?_
  refine x_aload_n C dX7_prove_7 0 rfl ?_
  refine x_get C (v := .ref (ad 5 0)) f1 (T := TX7) rfl kX7_prove_1 4 (by decide) kX7_prove_0 rfl dX7_prove_8 ?_
  refine x_aload_n C dX7_prove_11 2 rfl ?_
  have f6 : h (ad 10 u.toNat) = some (eO 3 [vI (c 10 u.toNat 0), va_rf (prf ad (c 10 u.toNat 1)), .ref (ad 11 u.toNat), .ref (ad 14 u.toNat), vI (c 10 u.toNat 4), vI (c 10 u.toNat 5)]) := hR.1 10 u.toNat (lvL (by decide) (by omega))
  refine x_getN (host := "LedgeLevels") C (v := .ref (ad 11 u.toNat)) f6 (T := TX3) rfl kX7_prove_3 2 (by decide) kX7_prove_2 rfl dX7_prove_12 ?_
  refine x_aload_n C dX7_prove_15 2 rfl ?_
  refine x_getN (host := "LedgeLevels") C (v := vI (c 10 u.toNat 4)) f6 (T := TX3) rfl kX7_prove_3 4 (by decide) kX7_prove_4 rfl dX7_prove_16 ?_
  refine x_iconst C dX7_prove_19 1 (by decide) ?_
  have f7 : h (ad 5 0) = some (eO 5 [.ref (ad 6 0), .ref (ad 7 0), .ref (ad 8 0), .ref (ad 9 0), vI (c 5 0 4), vI (((c 5 0 5).toNat : Nat) : Int), vI (c 5 0 6)]) := hR.1 5 0 (lv0 (by decide))
  have f8 : h (ad 7 0) = some (eI D 6144 (c 7 0)) := hR.1 7 0 (lv0 (by decide))
  have f9 : h (ad 8 0) = some (eI D 6144 (c 8 0)) := hR.1 8 0 (lv0 (by decide))
  have f10 : h (ad 9 0) = some (eZ D 96 (c 9 0)) := hR.1 9 0 (lv0 (by decide))
  have f11 : h (ad 6 0) = some (eO 0 [.ref (ad 1 0), vI (c 6 0 1), vI (c 6 0 2), vI (((c 6 0 3).toNat : Nat) : Int), vI (c 6 0 4)]) := hR.1 6 0 (lv0 (by decide))
  have f12 : h (ad 11 u.toNat) = some (eO 1 [.ref (ad 12 u.toNat), .ref (ad 13 u.toNat), vI (((c 11 u.toNat 2).toNat : Nat) : Int)]) := hR.1 11 u.toNat (lvL (by decide) (by omega))
  have f13 : h (ad 12 u.toNat) = some (eI D 96 (c 12 u.toNat)) := hR.1 12 u.toNat (lvL (by decide) (by omega))
  have f14 : h (ad 13 u.toNat) = some (eI D 3 (c 13 u.toNat)) := hR.1 13 u.toNat (lvL (by decide) (by omega))
  have f15 : h (ad 1 0) = some (eI D 3 (c 1 0)) := hR.1 1 0 (lv0 (by decide))
  refine x_callV C (n := 3) (qc := (RX5, TX5, 7)) (As := [.ref (ad 11 u.toNat), vI (c 10 u.toNat 4), vI 1]) (rest := [.ref (ad 10 u.toNat)]) (c_X5_explore f7 f8 f9 f10 f11 f12 f13 f14 f15 (by omega) (by omega) (hss) (by omega) ((hR.ne (lv0 (by decide)) (lv0 (by decide)) (fun zz9 => absurd zz9.1 (by decide)))) (by assumption) (by assumption) (by assumption) (by omega)) gX7_prove_X5_explore (by decide +kernel) f7 rfl rfl rfl rfl (Nat.le_of_ble_eq_true rfl) ⟨by decide, by decide⟩ ⟨(by decide), (by decide)⟩ dX7_prove_20 (fun rv16 h17 hp18 => ?_)
  obtain ⟨c_20, v_21, s_22, w_23, t_24, m_25, Q_26, N_27, R_28, rfl, e19, hF_20, hR1_20, hok1_20⟩ := hp18
  have f29 : h17 (ad 5 0) = some (eO 5 [.ref (ad 6 0), .ref (ad 7 0), .ref (ad 8 0), .ref (ad 9 0), vI ((c 5 0 4) + 1), vI ((m_25 : Nat) : Int), vI w_23]) := by rw [e19]; exact hu_s
  have f30 : h17 (ad 7 0) = some (eI D 6144 Q_26) := by rw [e19, hu_n (hR.ne (lv0 (by decide)) (lv0 (by decide)) (fun zz9 => absurd zz9.1 (by decide)))]; exact hu_s
  have f31 : h17 (ad 8 0) = some (eI D 6144 N_27) := by rw [e19, hu_n (hR.ne (lv0 (by decide)) (lv0 (by decide)) (fun zz9 => absurd zz9.1 (by decide))), hu_n (hR.ne (lv0 (by decide)) (lv0 (by decide)) (fun zz9 => absurd zz9.1 (by decide)))]; exact hu_s
  have f32 : h17 (ad 9 0) = some (eZ D 96 R_28) := by rw [e19, hu_n (hR.ne (lv0 (by decide)) (lv0 (by decide)) (fun zz9 => absurd zz9.1 (by decide))), hu_n (hR.ne (lv0 (by decide)) (lv0 (by decide)) (fun zz9 => absurd zz9.1 (by decide))), hu_n (hR.ne (lv0 (by decide)) (lv0 (by decide)) (fun zz9 => absurd zz9.1 (by decide)))]; exact hu_s
  have f33 : h17 (ad 6 0) = some (eO 0 [.ref (ad 1 0), vI c_20, vI v_21, vI ((t_24 : Nat) : Int), vI s_22]) := by rw [e19, hu_n (hR.ne (lv0 (by decide)) (lv0 (by decide)) (fun zz9 => absurd zz9.1 (by decide))), hu_n (hR.ne (lv0 (by decide)) (lv0 (by decide)) (fun zz9 => absurd zz9.1 (by decide))), hu_n (hR.ne (lv0 (by decide)) (lv0 (by decide)) (fun zz9 => absurd zz9.1 (by decide))), hu_n (hR.ne (lv0 (by decide)) (lv0 (by decide)) (fun zz9 => absurd zz9.1 (by decide)))]; exact hu_s
  have cp34 : CP D ad L W h (cu (cu (cu (cu (cu c 6 0 (oF [0, c_20, v_21, ((t_24 : Nat) : Int), s_22])) 9 0 (R_28)) 8 0 (N_27)) 7 0 (Q_26)) 5 0 (oF [0, 0, 0, 0, (c 5 0 4) + 1, ((m_25 : Nat) : Int), w_23])) h17 := by rw [e19]; exact (CP.up (CP.up (CP.up (CP.up (CP.up (CP.rf hR) (lv0 (by decide)) (oF [0, c_20, v_21, ((t_24 : Nat) : Int), s_22]) rfl) (lv0 (by decide)) (R_28) rfl) (lv0 (by decide)) (N_27) rfl) (lv0 (by decide)) (Q_26) rfl) (lv0 (by decide)) (oF [0, 0, 0, 0, (c 5 0 4) + 1, ((m_25 : Nat) : Int), w_23]) rfl)
  obtain ⟨c1, hSE, hCPc1⟩ : ∃ c1 : CS, (SE c c1) ∧ CP D ad L W h c1 h17 := ⟨(cu (cu (cu (cu (cu c 6 0 (oF [0, c_20, v_21, ((t_24 : Nat) : Int), s_22])) 9 0 (R_28)) 8 0 (N_27)) 7 0 (Q_26)) 5 0 (oF [0, 0, 0, 0, (c 5 0 4) + 1, ((m_25 : Nat) : Int), w_23])), SE.mk5 hok1_20, cp34⟩
  have f35 : h17 (ad 10 u.toNat) = some (eO 3 [vI (c1 10 u.toNat 0), va_rf (prf ad (c1 10 u.toNat 1)), .ref (ad 11 u.toNat), .ref (ad 14 u.toNat), vI (c1 10 u.toNat 4), vI (c1 10 u.toNat 5)]) := hCPc1.1.1 10 u.toNat (lvL (by decide) (by omega))
  refine x_putN (host := "LedgeLevels") C f35 (T := TX3) rfl tyX3_ok nmX3 kX7_prove_3 5 (by decide) kX7_prove_5 rfl (fs' := [vI (c1 10 u.toNat 0), va_rf (prf ad (c1 10 u.toNat 1)), .ref (ad 11 u.toNat), .ref (ad 14 u.toNat), vI (c1 10 u.toNat 4), vI w_23]) rfl rfl (by simp) rfl dX7_prove_23 (x_hn (fun h36 e37 => ?_))
  have f38 : h36 (ad 10 u.toNat) = some (eO 3 [vI (c1 10 u.toNat 0), va_rf (prf ad (c1 10 u.toNat 1)), .ref (ad 11 u.toNat), .ref (ad 14 u.toNat), vI (c1 10 u.toNat 4), vI w_23]) := by rw [e37]; exact hu_s
  refine x_aload_n C dX7_prove_26 2 rfl ?_
  refine x_getN (host := "LedgeLevels") C (v := vI w_23) f38 (T := TX3) rfl kX7_prove_3 5 (by decide) kX7_prove_5 rfl dX7_prove_27 ?_
  refine x_iret C G dX7_prove_30 ?_ (by decide) (by decide)
  have cp39 : CP D ad L W h (cu c1 10 u.toNat (oF [c1 10 u.toNat 0, c1 10 u.toNat 1, 0, 0, c1 10 u.toNat 4, w_23])) h36 := by rw [e37]; exact (CP.up hCPc1 (lvL (by decide) (by omega)) (oF [c1 10 u.toNat 0, c1 10 u.toNat 1, 0, 0, c1 10 u.toNat 4, w_23]) rfl)
  exact ⟨c1, _, rfl, cp39, hSE, hF_20, by omega⟩

theorem kX7_shortest_0 : Cond.classLink "LedgeLevels" 73 "java/lang/IllegalArgumentException" ∈ wsX7_shortest := by decide +kernel
theorem kX7_shortest_1 : Cond.initialized "java/lang/IllegalArgumentException" ∈ wsX7_shortest := by decide +kernel
theorem kX7_shortest_2 : ∀ w ∈ (vx_atS "LedgeLevels" 77 "java/lang/IllegalArgumentException" ["java/lang/RuntimeException", "java/lang/Exception"]).filter goodWord, w ∈ wsX7_shortest := by decide +kernel
theorem kX7_shortest_3 : Cond.fieldLink "LedgeLevels" 36 "LedgeLevels" "search" "LLedgeLevels$Search;" ∈ wsX7_shortest := by decide +kernel
theorem kX7_shortest_4 : ∀ w ∈ wsX70, w ∈ wsX7_shortest := by decide +kernel
theorem kX7_shortest_5 : Cond.fieldLinkNest "LedgeLevels" 56 "LedgeLevels$Level" "grid" "LLedgeLevels$Grid;" "LedgeLevels" ∈ nwAll := by decide +kernel
theorem kX7_shortest_6 : ∀ w ∈ wsX30, w ∈ wsX7_shortest := by decide +kernel
theorem kX7_shortest_7 : Cond.fieldLinkNest "LedgeLevels" 106 "LedgeLevels$Level" "start" "I" "LedgeLevels" ∈ nwAll := by decide +kernel
set_option maxRecDepth 100000 in
set_option maxHeartbeats 1000000 in
theorem c_X7_shortest {l : Launch} {D : va_G} {A : Nat → Prop} {h : vh} {ad : AD} {c : CS} {L W : Nat} {u n : Int}  (hR : RepC D ad c L W h) (hC : Cok c L W) (hSo : OkS c) (hi_u : -2147483648 ≤ u ∧ u ≤ 2147483647) (hi_n : -2147483648 ≤ n ∧ n ≤ 2147483647) : TX l D A yX7_shortest wsX7_shortest { frames := 7, cells := 2, slots := 12, locals := 142 } [.ref (ad 0 0), vI u, vI n] h (fun rv h' => ∃ (c1 : CS) (w1 : Int), rv = some (vI w1) ∧ CP D ad L W h (c1) h' ∧ (SE c c1) ∧ (FoundM (TT (c 12 u.toNat) (c 13 u.toNat) (c 11 u.toNat 2).toNat (c 1 0)) (X0 (c 12 u.toNat) (c 13 u.toNat) (c 10 u.toNat 4)) n w1) ∧ ((0 ≤ u ∧ u < (L : Int)) ∧ 0 ≤ n ∧ n ≤ 5)) (XP (¬ (0 ≤ u ∧ u < (L : Int))) ((0 ≤ u ∧ u < (L : Int)) ∧ ¬ (0 ≤ n ∧ n ≤ 5)) False h) := by
  refine TX.of (cc := cX7_shortest) (maxL := 4) (ret := (some .int)) [(0, .ref (ad 0 0)), (1, vI u), (2, vI n)] (by decide +kernel) rfl rfl (Nat.le_of_ble_eq_true rfl) ?_
  intro κ C hkl G GT
  subst hkl
  have C : CX κ "LedgeLevels" "shortest" cX7_shortest wsX7_shortest { frames := 7, cells := 2, slots := 12, locals := 142 } D A 4 := C
  have hiz : nq (D.1 20) (D.1 21) := cx_iz C
  obtain ⟨hO1, q2, q3, q4, q5⟩ := id hC
  obtain ⟨o1, o2, o3, o4, o5, o6, o7⟩ := id hO1
  obtain ⟨hss, hs1, hs2⟩ := id hSo
  refine x_aload_n C dX7_shortest_0 0 rfl ?_
  refine x_iload_n C dX7_shortest_1 1 rfl ?_
  have f1 : h (ad 0 0) = some (eO 7 [.ref (ad 1 0), .ref (ad 2 0), .ref (ad 3 0), .ref (ad 4 0), .ref (ad 5 0), vI (c 0 0 5), vI (c 0 0 6)]) := hR.1 0 0 (lv0 (by decide))
  refine x_callVt C (n := 1) (qc := (RX7, TX7, 7)) (As := [vI u]) (rest := []) (c_X7_levelOf (hR) (by assumption) (by omega)) gX7_shortest_X7_levelOf (by decide +kernel) f1 rfl rfl rfl rfl (Nat.le_of_ble_eq_true rfl) ⟨by decide, by decide⟩ ⟨(by decide), (by decide)⟩ dX7_shortest_2 GT (by decide) (by decide) (fun E h9 hx9 => XP.imp hx9 (fun z9 => by first | exact z9.elim | omega) (fun z9 => by first | exact z9.elim | omega) (fun z9 => by first | exact z9.elim | omega)) (fun rv2 h3 hp4 => ?_)
  obtain ⟨rfl, e5, hu_2⟩ := hp4
  obtain rfl := e5.symm
  obtain ⟨⟨g1, g2, g3⟩, ⟨e0, e1, e2, e3⟩, ⟨k1, k2, k3, k4⟩⟩ := q3 u.toNat (by omega)
  refine x_astore_n C (ls' := [(0, .ref (ad 0 0)), (1, vI u), (2, vI n), (3, .ref (ad 10 u.toNat))]) dX7_shortest_5 (by decide) rfl ?_
  refine x_iload_n C dX7_shortest_6 2 rfl ?_
  refine x_if_lt (tgt := 15) C dX7_shortest_7 (by decide) (by omega) (fun c6 => ?_) (fun c6 => ?_)
  · skip
    refine x_throwS C GT (cls := "java/lang/IllegalArgumentException") (text := "no such number of steps") (names := ["java/lang/RuntimeException", "java/lang/Exception"]) (by decide +kernel) (by decide +kernel) kX7_shortest_0 kX7_shortest_1 (by decide +kernel) kX7_shortest_2 (by decide +kernel) (by decide +kernel) dX7_shortest_15 dX7_shortest_18 dX7_shortest_19 dX7_shortest_21 dX7_shortest_24 (by decide) (by decide) (by decide) (by decide) (by decide) (by decide) ?_
    exact ⟨rfl, Or.inr (Or.inl ⟨rfl, by omega⟩)⟩
  · skip
    refine x_iload_n C dX7_shortest_10 2 rfl ?_
    refine x_iconst C dX7_shortest_11 5 (by decide) ?_
    refine x_icmp_le (tgt := 25) C dX7_shortest_12 (by decide) (by omega) (by omega) (fun c7 => ?_) (fun c7 => ?_)
    · skip
      refine x_aload_n C dX7_shortest_25 0 rfl ?_
      refine x_get C (v := .ref (ad 5 0)) f1 (T := TX7) rfl kX7_shortest_4 4 (by decide) kX7_shortest_3 rfl dX7_shortest_26 ?_
      refine x_aload_n C dX7_shortest_29 3 rfl ?_
      have f8 : h (ad 10 u.toNat) = some (eO 3 [vI (c 10 u.toNat 0), va_rf (prf ad (c 10 u.toNat 1)), .ref (ad 11 u.toNat), .ref (ad 14 u.toNat), vI (c 10 u.toNat 4), vI (c 10 u.toNat 5)]) := hR.1 10 u.toNat (lvL (by decide) (by omega))
      refine x_getN (host := "LedgeLevels") C (v := .ref (ad 11 u.toNat)) f8 (T := TX3) rfl kX7_shortest_6 2 (by decide) kX7_shortest_5 rfl dX7_shortest_30 ?_
      refine x_aload_n C dX7_shortest_33 3 rfl ?_
      refine x_getN (host := "LedgeLevels") C (v := vI (c 10 u.toNat 4)) f8 (T := TX3) rfl kX7_shortest_6 4 (by decide) kX7_shortest_7 rfl dX7_shortest_34 ?_
      refine x_iload_n C dX7_shortest_37 2 rfl ?_
      have f9 : h (ad 5 0) = some (eO 5 [.ref (ad 6 0), .ref (ad 7 0), .ref (ad 8 0), .ref (ad 9 0), vI (c 5 0 4), vI (((c 5 0 5).toNat : Nat) : Int), vI (c 5 0 6)]) := hR.1 5 0 (lv0 (by decide))
      have f10 : h (ad 7 0) = some (eI D 6144 (c 7 0)) := hR.1 7 0 (lv0 (by decide))
      have f11 : h (ad 9 0) = some (eZ D 96 (c 9 0)) := hR.1 9 0 (lv0 (by decide))
      have f12 : h (ad 6 0) = some (eO 0 [.ref (ad 1 0), vI (c 6 0 1), vI (c 6 0 2), vI (((c 6 0 3).toNat : Nat) : Int), vI (c 6 0 4)]) := hR.1 6 0 (lv0 (by decide))
      have f13 : h (ad 11 u.toNat) = some (eO 1 [.ref (ad 12 u.toNat), .ref (ad 13 u.toNat), vI (((c 11 u.toNat 2).toNat : Nat) : Int)]) := hR.1 11 u.toNat (lvL (by decide) (by omega))
      have f14 : h (ad 12 u.toNat) = some (eI D 96 (c 12 u.toNat)) := hR.1 12 u.toNat (lvL (by decide) (by omega))
      have f15 : h (ad 13 u.toNat) = some (eI D 3 (c 13 u.toNat)) := hR.1 13 u.toNat (lvL (by decide) (by omega))
      have f16 : h (ad 1 0) = some (eI D 3 (c 1 0)) := hR.1 1 0 (lv0 (by decide))
      refine x_callV C (n := 3) (qc := (RX5, TX5, 7)) (As := [.ref (ad 11 u.toNat), vI (c 10 u.toNat 4), vI n]) (rest := []) (c_X5_fewestStepsByRows f9 f10 f11 f12 f13 f14 f15 f16 (by omega) (by omega) (hss) (by omega) (by assumption) (by assumption) (by assumption) (by omega)) gX7_shortest_X5_fewestStepsByRows (by decide +kernel) f9 rfl rfl rfl rfl (Nat.le_of_ble_eq_true rfl) ⟨by decide, by decide⟩ ⟨(by decide), (by decide)⟩ dX7_shortest_38 (fun rv17 h18 hp19 => ?_)
      obtain ⟨c_21, v_22, s_23, r_24, t_25, m_26, Q_27, rfl, e20, hF_38, hok1_38⟩ := hp19
      have f28 : h18 (ad 5 0) = some (eO 5 [.ref (ad 6 0), .ref (ad 7 0), .ref (ad 8 0), .ref (ad 9 0), vI ((c 5 0 4) + 1), vI ((m_26 : Nat) : Int), vI (-1)]) := by rw [e20]; exact hu_s
      have f29 : h18 (ad 7 0) = some (eI D 6144 Q_27) := by rw [e20, hu_n (hR.ne (lv0 (by decide)) (lv0 (by decide)) (fun zz9 => absurd zz9.1 (by decide)))]; exact hu_s
      have f30 : h18 (ad 9 0) = some (eZ D 96 (rz0 (c 9 0) 96)) := by rw [e20, hu_n (hR.ne (lv0 (by decide)) (lv0 (by decide)) (fun zz9 => absurd zz9.1 (by decide))), hu_n (hR.ne (lv0 (by decide)) (lv0 (by decide)) (fun zz9 => absurd zz9.1 (by decide)))]; exact hu_s
      have f31 : h18 (ad 6 0) = some (eO 0 [.ref (ad 1 0), vI c_21, vI v_22, vI ((t_25 : Nat) : Int), vI s_23]) := by rw [e20, hu_n (hR.ne (lv0 (by decide)) (lv0 (by decide)) (fun zz9 => absurd zz9.1 (by decide))), hu_n (hR.ne (lv0 (by decide)) (lv0 (by decide)) (fun zz9 => absurd zz9.1 (by decide))), hu_n (hR.ne (lv0 (by decide)) (lv0 (by decide)) (fun zz9 => absurd zz9.1 (by decide)))]; exact hu_s
      have cp32 : CP D ad L W h (cu (cu (cu (cu c 6 0 (oF [0, c_21, v_22, ((t_25 : Nat) : Int), s_23])) 9 0 (rz0 (c 9 0) 96)) 7 0 (Q_27)) 5 0 (oF [0, 0, 0, 0, (c 5 0 4) + 1, ((m_26 : Nat) : Int), (-1)])) h18 := by rw [e20]; exact (CP.up (CP.up (CP.up (CP.up (CP.rf hR) (lv0 (by decide)) (oF [0, c_21, v_22, ((t_25 : Nat) : Int), s_23]) rfl) (lv0 (by decide)) (rz0 (c 9 0) 96) rfl) (lv0 (by decide)) (Q_27) rfl) (lv0 (by decide)) (oF [0, 0, 0, 0, (c 5 0 4) + 1, ((m_26 : Nat) : Int), (-1)]) rfl)
      obtain ⟨c1, hSE, hCPc1⟩ : ∃ c1 : CS, (SE c c1) ∧ CP D ad L W h c1 h18 := ⟨(cu (cu (cu (cu c 6 0 (oF [0, c_21, v_22, ((t_25 : Nat) : Int), s_23])) 9 0 (rz0 (c 9 0) 96)) 7 0 (Q_27)) 5 0 (oF [0, 0, 0, 0, (c 5 0 4) + 1, ((m_26 : Nat) : Int), (-1)])), SE.mk4 hok1_38, cp32⟩
      refine x_iret C G dX7_shortest_41 ?_ (by decide) (by decide)
      exact ⟨c1, _, rfl, hCPc1, hSE, hF_38, by omega⟩
    · skip
      refine x_throwS C GT (cls := "java/lang/IllegalArgumentException") (text := "no such number of steps") (names := ["java/lang/RuntimeException", "java/lang/Exception"]) (by decide +kernel) (by decide +kernel) kX7_shortest_0 kX7_shortest_1 (by decide +kernel) kX7_shortest_2 (by decide +kernel) (by decide +kernel) dX7_shortest_15 dX7_shortest_18 dX7_shortest_19 dX7_shortest_21 dX7_shortest_24 (by decide) (by decide) (by decide) (by decide) (by decide) (by decide) ?_
      exact ⟨rfl, Or.inr (Or.inl ⟨rfl, by omega⟩)⟩

theorem kX7_reach_0 : Cond.fieldLink "LedgeLevels" 36 "LedgeLevels" "search" "LLedgeLevels$Search;" ∈ wsX7_reach := by decide +kernel
theorem kX7_reach_1 : ∀ w ∈ wsX70, w ∈ wsX7_reach := by decide +kernel
theorem kX7_reach_2 : Cond.fieldLinkNest "LedgeLevels" 56 "LedgeLevels$Level" "grid" "LLedgeLevels$Grid;" "LedgeLevels" ∈ nwAll := by decide +kernel
theorem kX7_reach_3 : ∀ w ∈ wsX30, w ∈ wsX7_reach := by decide +kernel
theorem kX7_reach_4 : Cond.fieldLinkNest "LedgeLevels" 106 "LedgeLevels$Level" "start" "I" "LedgeLevels" ∈ nwAll := by decide +kernel
set_option maxRecDepth 100000 in
set_option maxHeartbeats 1000000 in
theorem c_X7_reach {l : Launch} {D : va_G} {A : Nat → Prop} {h : vh} {ad : AD} {c : CS} {L W : Nat} {u : Int}  (hR : RepC D ad c L W h) (hC : Cok c L W) (hSo : OkS c) (hi_u : -2147483648 ≤ u ∧ u ≤ 2147483647) : TX l D A yX7_reach wsX7_reach { frames := 7, cells := 1, slots := 6, locals := 143 } [.ref (ad 0 0), vI u] h (fun rv h' => ∃ (c1 : CS), rv = some (vI ((cntR (c1 9 0) 96 : Nat) : Int)) ∧ CP D ad L W h (c1) h' ∧ (SE c c1) ∧ (∀ x : Nat, x < 96 → (c1 9 0 x = 1 ↔ Seen (TT (c 12 u.toNat) (c 13 u.toNat) (c 11 u.toNat 2).toNat (c 1 0)) (X0 (c 12 u.toNat) (c 13 u.toNat) (c 10 u.toNat 4)) x)) ∧ (∀ x, 0 ≤ c1 9 0 x ∧ c1 9 0 x ≤ 1) ∧ ((0 ≤ u ∧ u < (L : Int)))) (XP (¬ (0 ≤ u ∧ u < (L : Int))) False False h) := by
  refine TX.of (cc := cX7_reach) (maxL := 3) (ret := (some .int)) [(0, .ref (ad 0 0)), (1, vI u)] (by decide +kernel) rfl rfl (Nat.le_of_ble_eq_true rfl) ?_
  intro κ C hkl G GT
  subst hkl
  have C : CX κ "LedgeLevels" "reach" cX7_reach wsX7_reach { frames := 7, cells := 1, slots := 6, locals := 143 } D A 3 := C
  have hiz : nq (D.1 20) (D.1 21) := cx_iz C
  obtain ⟨hO1, q2, q3, q4, q5⟩ := id hC
  obtain ⟨o1, o2, o3, o4, o5, o6, o7⟩ := id hO1
  obtain ⟨hss, hs1, hs2⟩ := id hSo
  refine x_aload_n C dX7_reach_0 0 rfl ?_
  refine x_iload_n C dX7_reach_1 1 rfl ?_
  have f1 : h (ad 0 0) = some (eO 7 [.ref (ad 1 0), .ref (ad 2 0), .ref (ad 3 0), .ref (ad 4 0), .ref (ad 5 0), vI (c 0 0 5), vI (c 0 0 6)]) := hR.1 0 0 (lv0 (by decide))
  refine x_callVt C (n := 1) (qc := (RX7, TX7, 7)) (As := [vI u]) (rest := []) (c_X7_levelOf (hR) (by assumption) (by omega)) gX7_reach_X7_levelOf (by decide +kernel) f1 rfl rfl rfl rfl (Nat.le_of_ble_eq_true rfl) ⟨by decide, by decide⟩ ⟨(by decide), (by decide)⟩ dX7_reach_2 GT (by decide) (by decide) (fun E h9 hx9 => XP.imp hx9 (fun z9 => by first | exact z9.elim | omega) (fun z9 => by first | exact z9.elim | omega) (fun z9 => by first | exact z9.elim | omega)) (fun rv2 h3 hp4 => ?_)
  obtain ⟨rfl, e5, hu_2⟩ := hp4
  obtain rfl := e5.symm
  obtain ⟨⟨g1, g2, g3⟩, ⟨e0, e1, e2, e3⟩, ⟨k1, k2, k3, k4⟩⟩ := q3 u.toNat (by omega)
  refine x_astore_n C (ls' := [(0, .ref (ad 0 0)), (1, vI u), (2, .ref (ad 10 u.toNat))]) dX7_reach_5 (by decide) rfl ?_
  refine x_aload_n C dX7_reach_6 0 rfl ?_
  refine x_get C (v := .ref (ad 5 0)) f1 (T := TX7) rfl kX7_reach_1 4 (by decide) kX7_reach_0 rfl dX7_reach_7 ?_
  refine x_aload_n C dX7_reach_10 2 rfl ?_
  have f6 : h (ad 10 u.toNat) = some (eO 3 [vI (c 10 u.toNat 0), va_rf (prf ad (c 10 u.toNat 1)), .ref (ad 11 u.toNat), .ref (ad 14 u.toNat), vI (c 10 u.toNat 4), vI (c 10 u.toNat 5)]) := hR.1 10 u.toNat (lvL (by decide) (by omega))
  refine x_getN (host := "LedgeLevels") C (v := .ref (ad 11 u.toNat)) f6 (T := TX3) rfl kX7_reach_3 2 (by decide) kX7_reach_2 rfl dX7_reach_11 ?_
  refine x_aload_n C dX7_reach_14 2 rfl ?_
  refine x_getN (host := "LedgeLevels") C (v := vI (c 10 u.toNat 4)) f6 (T := TX3) rfl kX7_reach_3 4 (by decide) kX7_reach_4 rfl dX7_reach_15 ?_
  refine x_iconst C dX7_reach_18 0 (by decide) ?_
  have f7 : h (ad 5 0) = some (eO 5 [.ref (ad 6 0), .ref (ad 7 0), .ref (ad 8 0), .ref (ad 9 0), vI (c 5 0 4), vI (((c 5 0 5).toNat : Nat) : Int), vI (c 5 0 6)]) := hR.1 5 0 (lv0 (by decide))
  have f8 : h (ad 7 0) = some (eI D 6144 (c 7 0)) := hR.1 7 0 (lv0 (by decide))
  have f9 : h (ad 8 0) = some (eI D 6144 (c 8 0)) := hR.1 8 0 (lv0 (by decide))
  have f10 : h (ad 9 0) = some (eZ D 96 (c 9 0)) := hR.1 9 0 (lv0 (by decide))
  have f11 : h (ad 6 0) = some (eO 0 [.ref (ad 1 0), vI (c 6 0 1), vI (c 6 0 2), vI (((c 6 0 3).toNat : Nat) : Int), vI (c 6 0 4)]) := hR.1 6 0 (lv0 (by decide))
  have f12 : h (ad 11 u.toNat) = some (eO 1 [.ref (ad 12 u.toNat), .ref (ad 13 u.toNat), vI (((c 11 u.toNat 2).toNat : Nat) : Int)]) := hR.1 11 u.toNat (lvL (by decide) (by omega))
  have f13 : h (ad 12 u.toNat) = some (eI D 96 (c 12 u.toNat)) := hR.1 12 u.toNat (lvL (by decide) (by omega))
  have f14 : h (ad 13 u.toNat) = some (eI D 3 (c 13 u.toNat)) := hR.1 13 u.toNat (lvL (by decide) (by omega))
  have f15 : h (ad 1 0) = some (eI D 3 (c 1 0)) := hR.1 1 0 (lv0 (by decide))
  refine x_callV C (n := 3) (qc := (RX5, TX5, 7)) (As := [.ref (ad 11 u.toNat), vI (c 10 u.toNat 4), vI 0]) (rest := []) (c_X5_explore f7 f8 f9 f10 f11 f12 f13 f14 f15 (by omega) (by omega) (hss) (by omega) ((hR.ne (lv0 (by decide)) (lv0 (by decide)) (fun zz9 => absurd zz9.1 (by decide)))) (by assumption) (by assumption) (by assumption) (by omega)) gX7_reach_X5_explore (by decide +kernel) f7 rfl rfl rfl rfl (Nat.le_of_ble_eq_true rfl) ⟨by decide, by decide⟩ ⟨(by decide), (by decide)⟩ dX7_reach_19 (fun rv16 h17 hp18 => ?_)
  obtain ⟨c_20, v_21, s_22, w_23, t_24, m_25, Q_26, N_27, R_28, rfl, e19, hF_19, hR1_19, hok1_19⟩ := hp18
  have f29 : h17 (ad 5 0) = some (eO 5 [.ref (ad 6 0), .ref (ad 7 0), .ref (ad 8 0), .ref (ad 9 0), vI ((c 5 0 4) + 1), vI ((m_25 : Nat) : Int), vI w_23]) := by rw [e19]; exact hu_s
  have f30 : h17 (ad 7 0) = some (eI D 6144 Q_26) := by rw [e19, hu_n (hR.ne (lv0 (by decide)) (lv0 (by decide)) (fun zz9 => absurd zz9.1 (by decide)))]; exact hu_s
  have f31 : h17 (ad 8 0) = some (eI D 6144 N_27) := by rw [e19, hu_n (hR.ne (lv0 (by decide)) (lv0 (by decide)) (fun zz9 => absurd zz9.1 (by decide))), hu_n (hR.ne (lv0 (by decide)) (lv0 (by decide)) (fun zz9 => absurd zz9.1 (by decide)))]; exact hu_s
  have f32 : h17 (ad 9 0) = some (eZ D 96 R_28) := by rw [e19, hu_n (hR.ne (lv0 (by decide)) (lv0 (by decide)) (fun zz9 => absurd zz9.1 (by decide))), hu_n (hR.ne (lv0 (by decide)) (lv0 (by decide)) (fun zz9 => absurd zz9.1 (by decide))), hu_n (hR.ne (lv0 (by decide)) (lv0 (by decide)) (fun zz9 => absurd zz9.1 (by decide)))]; exact hu_s
  have f33 : h17 (ad 6 0) = some (eO 0 [.ref (ad 1 0), vI c_20, vI v_21, vI ((t_24 : Nat) : Int), vI s_22]) := by rw [e19, hu_n (hR.ne (lv0 (by decide)) (lv0 (by decide)) (fun zz9 => absurd zz9.1 (by decide))), hu_n (hR.ne (lv0 (by decide)) (lv0 (by decide)) (fun zz9 => absurd zz9.1 (by decide))), hu_n (hR.ne (lv0 (by decide)) (lv0 (by decide)) (fun zz9 => absurd zz9.1 (by decide))), hu_n (hR.ne (lv0 (by decide)) (lv0 (by decide)) (fun zz9 => absurd zz9.1 (by decide)))]; exact hu_s
  have cp34 : CP D ad L W h (cu (cu (cu (cu (cu c 6 0 (oF [0, c_20, v_21, ((t_24 : Nat) : Int), s_22])) 9 0 (R_28)) 8 0 (N_27)) 7 0 (Q_26)) 5 0 (oF [0, 0, 0, 0, (c 5 0 4) + 1, ((m_25 : Nat) : Int), w_23])) h17 := by rw [e19]; exact (CP.up (CP.up (CP.up (CP.up (CP.up (CP.rf hR) (lv0 (by decide)) (oF [0, c_20, v_21, ((t_24 : Nat) : Int), s_22]) rfl) (lv0 (by decide)) (R_28) rfl) (lv0 (by decide)) (N_27) rfl) (lv0 (by decide)) (Q_26) rfl) (lv0 (by decide)) (oF [0, 0, 0, 0, (c 5 0 4) + 1, ((m_25 : Nat) : Int), w_23]) rfl)
  obtain ⟨c1, hSE, hSn, h01, hCPc1⟩ : ∃ c1 : CS, (SE c c1) ∧ (∀ x : Nat, x < 96 → (c1 9 0 x = 1 ↔ Seen (TT (c 12 u.toNat) (c 13 u.toNat) (c 11 u.toNat 2).toNat (c 1 0)) (X0 (c 12 u.toNat) (c 13 u.toNat) (c 10 u.toNat 4)) x)) ∧ (∀ x, 0 ≤ c1 9 0 x ∧ c1 9 0 x ≤ 1) ∧ CP D ad L W h c1 h17 := ⟨(cu (cu (cu (cu (cu c 6 0 (oF [0, c_20, v_21, ((t_24 : Nat) : Int), s_22])) 9 0 (R_28)) 8 0 (N_27)) 7 0 (Q_26)) 5 0 (oF [0, 0, 0, 0, (c 5 0 4) + 1, ((m_25 : Nat) : Int), w_23])), SE.mk5 hok1_19, hR1_19 rfl, hok1_19.2.2.2.1, cp34⟩
  refine x_pop C dX7_reach_22 rfl ?_
  refine x_aload_n C dX7_reach_23 0 rfl ?_
  have f35 : h17 (ad 0 0) = some (eO 7 [.ref (ad 1 0), .ref (ad 2 0), .ref (ad 3 0), .ref (ad 4 0), .ref (ad 5 0), vI (c1 0 0 5), vI (c1 0 0 6)]) := hCPc1.1.1 0 0 (lv0 (by decide))
  refine x_get C (v := .ref (ad 5 0)) f35 (T := TX7) rfl kX7_reach_1 4 (by decide) kX7_reach_0 rfl dX7_reach_24 ?_
  have f36 : h17 (ad 5 0) = some (eO 5 [.ref (ad 6 0), .ref (ad 7 0), .ref (ad 8 0), .ref (ad 9 0), vI (c1 5 0 4), vI (((c1 5 0 5).toNat : Nat) : Int), vI (c1 5 0 6)]) := hCPc1.1.1 5 0 (lv0 (by decide))
  have f37 : h17 (ad 9 0) = some (eZ D 96 (c1 9 0)) := hCPc1.1.1 9 0 (lv0 (by decide))
  refine x_callV C (n := 0) (qc := (RX5, TX5, 7)) (As := []) (rest := []) (c_X5_reachedCount f36 f37 (by assumption)) gX7_reach_X5_reachedCount (by decide +kernel) f36 rfl rfl rfl rfl (Nat.le_of_ble_eq_true rfl) ⟨by decide, by decide⟩ ⟨(by decide), (by decide)⟩ dX7_reach_27 (fun rv38 h39 hp40 => ?_)
  obtain ⟨rfl, e41⟩ := hp40
  obtain rfl := e41.symm
  refine x_iret C G dX7_reach_30 ?_ (by decide) (by decide)
  exact ⟨c1, rfl, hCPc1, hSE, hSn, h01, by omega⟩

theorem kX7_farthest_0 : Cond.fieldLink "LedgeLevels" 36 "LedgeLevels" "search" "LLedgeLevels$Search;" ∈ wsX7_farthest := by decide +kernel
theorem kX7_farthest_1 : ∀ w ∈ wsX70, w ∈ wsX7_farthest := by decide +kernel
theorem kX7_farthest_2 : Cond.fieldLinkNest "LedgeLevels" 56 "LedgeLevels$Level" "grid" "LLedgeLevels$Grid;" "LedgeLevels" ∈ nwAll := by decide +kernel
theorem kX7_farthest_3 : ∀ w ∈ wsX30, w ∈ wsX7_farthest := by decide +kernel
theorem kX7_farthest_4 : Cond.fieldLinkNest "LedgeLevels" 106 "LedgeLevels$Level" "start" "I" "LedgeLevels" ∈ nwAll := by decide +kernel
set_option maxRecDepth 100000 in
set_option maxHeartbeats 1000000 in
theorem c_X7_farthest {l : Launch} {D : va_G} {A : Nat → Prop} {h : vh} {ad : AD} {c : CS} {L W : Nat} {u : Int}  (hR : RepC D ad c L W h) (hC : Cok c L W) (hSo : OkS c) (hi_u : -2147483648 ≤ u ∧ u ≤ 2147483647) : TX l D A yX7_farthest wsX7_farthest { frames := 7, cells := 1, slots := 6, locals := 143 } [.ref (ad 0 0), vI u] h (fun rv h' => ∃ (c1 : CS) (r1 : Int), rv = some (vI r1) ∧ CP D ad L W h (c1) h' ∧ (SE c c1) ∧ (∀ x : Nat, x < 96 → (c1 9 0 x = 1 ↔ Seen (TT (c 12 u.toNat) (c 13 u.toNat) (c 11 u.toNat 2).toNat (c 1 0)) (X0 (c 12 u.toNat) (c 13 u.toNat) (c 10 u.toNat 4)) x)) ∧ (∀ x, 0 ≤ c1 9 0 x ∧ c1 9 0 x ≤ 1) ∧ ((0 ≤ u ∧ u < (L : Int))) ∧ (frR (c1 9 0) r1)) (XP (¬ (0 ≤ u ∧ u < (L : Int))) False False h) := by
  refine TX.of (cc := cX7_farthest) (maxL := 3) (ret := (some .int)) [(0, .ref (ad 0 0)), (1, vI u)] (by decide +kernel) rfl rfl (Nat.le_of_ble_eq_true rfl) ?_
  intro κ C hkl G GT
  subst hkl
  have C : CX κ "LedgeLevels" "farthest" cX7_farthest wsX7_farthest { frames := 7, cells := 1, slots := 6, locals := 143 } D A 3 := C
  have hiz : nq (D.1 20) (D.1 21) := cx_iz C
  obtain ⟨hO1, q2, q3, q4, q5⟩ := id hC
  obtain ⟨o1, o2, o3, o4, o5, o6, o7⟩ := id hO1
  obtain ⟨hss, hs1, hs2⟩ := id hSo
  refine x_aload_n C dX7_farthest_0 0 rfl ?_
  refine x_iload_n C dX7_farthest_1 1 rfl ?_
  have f1 : h (ad 0 0) = some (eO 7 [.ref (ad 1 0), .ref (ad 2 0), .ref (ad 3 0), .ref (ad 4 0), .ref (ad 5 0), vI (c 0 0 5), vI (c 0 0 6)]) := hR.1 0 0 (lv0 (by decide))
  refine x_callVt C (n := 1) (qc := (RX7, TX7, 7)) (As := [vI u]) (rest := []) (c_X7_levelOf (hR) (by assumption) (by omega)) gX7_farthest_X7_levelOf (by decide +kernel) f1 rfl rfl rfl rfl (Nat.le_of_ble_eq_true rfl) ⟨by decide, by decide⟩ ⟨(by decide), (by decide)⟩ dX7_farthest_2 GT (by decide) (by decide) (fun E h9 hx9 => XP.imp hx9 (fun z9 => by first | exact z9.elim | omega) (fun z9 => by first | exact z9.elim | omega) (fun z9 => by first | exact z9.elim | omega)) (fun rv2 h3 hp4 => ?_)
  obtain ⟨rfl, e5, hu_2⟩ := hp4
  obtain rfl := e5.symm
  obtain ⟨⟨g1, g2, g3⟩, ⟨e0, e1, e2, e3⟩, ⟨k1, k2, k3, k4⟩⟩ := q3 u.toNat (by omega)
  refine x_astore_n C (ls' := [(0, .ref (ad 0 0)), (1, vI u), (2, .ref (ad 10 u.toNat))]) dX7_farthest_5 (by decide) rfl ?_
  refine x_aload_n C dX7_farthest_6 0 rfl ?_
  refine x_get C (v := .ref (ad 5 0)) f1 (T := TX7) rfl kX7_farthest_1 4 (by decide) kX7_farthest_0 rfl dX7_farthest_7 ?_
  refine x_aload_n C dX7_farthest_10 2 rfl ?_
  have f6 : h (ad 10 u.toNat) = some (eO 3 [vI (c 10 u.toNat 0), va_rf (prf ad (c 10 u.toNat 1)), .ref (ad 11 u.toNat), .ref (ad 14 u.toNat), vI (c 10 u.toNat 4), vI (c 10 u.toNat 5)]) := hR.1 10 u.toNat (lvL (by decide) (by omega))
  refine x_getN (host := "LedgeLevels") C (v := .ref (ad 11 u.toNat)) f6 (T := TX3) rfl kX7_farthest_3 2 (by decide) kX7_farthest_2 rfl dX7_farthest_11 ?_
  refine x_aload_n C dX7_farthest_14 2 rfl ?_
  refine x_getN (host := "LedgeLevels") C (v := vI (c 10 u.toNat 4)) f6 (T := TX3) rfl kX7_farthest_3 4 (by decide) kX7_farthest_4 rfl dX7_farthest_15 ?_
  refine x_iconst C dX7_farthest_18 0 (by decide) ?_
  have f7 : h (ad 5 0) = some (eO 5 [.ref (ad 6 0), .ref (ad 7 0), .ref (ad 8 0), .ref (ad 9 0), vI (c 5 0 4), vI (((c 5 0 5).toNat : Nat) : Int), vI (c 5 0 6)]) := hR.1 5 0 (lv0 (by decide))
  have f8 : h (ad 7 0) = some (eI D 6144 (c 7 0)) := hR.1 7 0 (lv0 (by decide))
  have f9 : h (ad 8 0) = some (eI D 6144 (c 8 0)) := hR.1 8 0 (lv0 (by decide))
  have f10 : h (ad 9 0) = some (eZ D 96 (c 9 0)) := hR.1 9 0 (lv0 (by decide))
  have f11 : h (ad 6 0) = some (eO 0 [.ref (ad 1 0), vI (c 6 0 1), vI (c 6 0 2), vI (((c 6 0 3).toNat : Nat) : Int), vI (c 6 0 4)]) := hR.1 6 0 (lv0 (by decide))
  have f12 : h (ad 11 u.toNat) = some (eO 1 [.ref (ad 12 u.toNat), .ref (ad 13 u.toNat), vI (((c 11 u.toNat 2).toNat : Nat) : Int)]) := hR.1 11 u.toNat (lvL (by decide) (by omega))
  have f13 : h (ad 12 u.toNat) = some (eI D 96 (c 12 u.toNat)) := hR.1 12 u.toNat (lvL (by decide) (by omega))
  have f14 : h (ad 13 u.toNat) = some (eI D 3 (c 13 u.toNat)) := hR.1 13 u.toNat (lvL (by decide) (by omega))
  have f15 : h (ad 1 0) = some (eI D 3 (c 1 0)) := hR.1 1 0 (lv0 (by decide))
  refine x_callV C (n := 3) (qc := (RX5, TX5, 7)) (As := [.ref (ad 11 u.toNat), vI (c 10 u.toNat 4), vI 0]) (rest := []) (c_X5_explore f7 f8 f9 f10 f11 f12 f13 f14 f15 (by omega) (by omega) (hss) (by omega) ((hR.ne (lv0 (by decide)) (lv0 (by decide)) (fun zz9 => absurd zz9.1 (by decide)))) (by assumption) (by assumption) (by assumption) (by omega)) gX7_farthest_X5_explore (by decide +kernel) f7 rfl rfl rfl rfl (Nat.le_of_ble_eq_true rfl) ⟨by decide, by decide⟩ ⟨(by decide), (by decide)⟩ dX7_farthest_19 (fun rv16 h17 hp18 => ?_)
  obtain ⟨c_20, v_21, s_22, w_23, t_24, m_25, Q_26, N_27, R_28, rfl, e19, hF_19, hR1_19, hok1_19⟩ := hp18
  have f29 : h17 (ad 5 0) = some (eO 5 [.ref (ad 6 0), .ref (ad 7 0), .ref (ad 8 0), .ref (ad 9 0), vI ((c 5 0 4) + 1), vI ((m_25 : Nat) : Int), vI w_23]) := by rw [e19]; exact hu_s
  have f30 : h17 (ad 7 0) = some (eI D 6144 Q_26) := by rw [e19, hu_n (hR.ne (lv0 (by decide)) (lv0 (by decide)) (fun zz9 => absurd zz9.1 (by decide)))]; exact hu_s
  have f31 : h17 (ad 8 0) = some (eI D 6144 N_27) := by rw [e19, hu_n (hR.ne (lv0 (by decide)) (lv0 (by decide)) (fun zz9 => absurd zz9.1 (by decide))), hu_n (hR.ne (lv0 (by decide)) (lv0 (by decide)) (fun zz9 => absurd zz9.1 (by decide)))]; exact hu_s
  have f32 : h17 (ad 9 0) = some (eZ D 96 R_28) := by rw [e19, hu_n (hR.ne (lv0 (by decide)) (lv0 (by decide)) (fun zz9 => absurd zz9.1 (by decide))), hu_n (hR.ne (lv0 (by decide)) (lv0 (by decide)) (fun zz9 => absurd zz9.1 (by decide))), hu_n (hR.ne (lv0 (by decide)) (lv0 (by decide)) (fun zz9 => absurd zz9.1 (by decide)))]; exact hu_s
  have f33 : h17 (ad 6 0) = some (eO 0 [.ref (ad 1 0), vI c_20, vI v_21, vI ((t_24 : Nat) : Int), vI s_22]) := by rw [e19, hu_n (hR.ne (lv0 (by decide)) (lv0 (by decide)) (fun zz9 => absurd zz9.1 (by decide))), hu_n (hR.ne (lv0 (by decide)) (lv0 (by decide)) (fun zz9 => absurd zz9.1 (by decide))), hu_n (hR.ne (lv0 (by decide)) (lv0 (by decide)) (fun zz9 => absurd zz9.1 (by decide))), hu_n (hR.ne (lv0 (by decide)) (lv0 (by decide)) (fun zz9 => absurd zz9.1 (by decide)))]; exact hu_s
  have cp34 : CP D ad L W h (cu (cu (cu (cu (cu c 6 0 (oF [0, c_20, v_21, ((t_24 : Nat) : Int), s_22])) 9 0 (R_28)) 8 0 (N_27)) 7 0 (Q_26)) 5 0 (oF [0, 0, 0, 0, (c 5 0 4) + 1, ((m_25 : Nat) : Int), w_23])) h17 := by rw [e19]; exact (CP.up (CP.up (CP.up (CP.up (CP.up (CP.rf hR) (lv0 (by decide)) (oF [0, c_20, v_21, ((t_24 : Nat) : Int), s_22]) rfl) (lv0 (by decide)) (R_28) rfl) (lv0 (by decide)) (N_27) rfl) (lv0 (by decide)) (Q_26) rfl) (lv0 (by decide)) (oF [0, 0, 0, 0, (c 5 0 4) + 1, ((m_25 : Nat) : Int), w_23]) rfl)
  obtain ⟨c1, hSE, hSn, h01, hCPc1⟩ : ∃ c1 : CS, (SE c c1) ∧ (∀ x : Nat, x < 96 → (c1 9 0 x = 1 ↔ Seen (TT (c 12 u.toNat) (c 13 u.toNat) (c 11 u.toNat 2).toNat (c 1 0)) (X0 (c 12 u.toNat) (c 13 u.toNat) (c 10 u.toNat 4)) x)) ∧ (∀ x, 0 ≤ c1 9 0 x ∧ c1 9 0 x ≤ 1) ∧ CP D ad L W h c1 h17 := ⟨(cu (cu (cu (cu (cu c 6 0 (oF [0, c_20, v_21, ((t_24 : Nat) : Int), s_22])) 9 0 (R_28)) 8 0 (N_27)) 7 0 (Q_26)) 5 0 (oF [0, 0, 0, 0, (c 5 0 4) + 1, ((m_25 : Nat) : Int), w_23])), SE.mk5 hok1_19, hR1_19 rfl, hok1_19.2.2.2.1, cp34⟩
  refine x_pop C dX7_farthest_22 rfl ?_
  refine x_aload_n C dX7_farthest_23 0 rfl ?_
  have f35 : h17 (ad 0 0) = some (eO 7 [.ref (ad 1 0), .ref (ad 2 0), .ref (ad 3 0), .ref (ad 4 0), .ref (ad 5 0), vI (c1 0 0 5), vI (c1 0 0 6)]) := hCPc1.1.1 0 0 (lv0 (by decide))
  refine x_get C (v := .ref (ad 5 0)) f35 (T := TX7) rfl kX7_farthest_1 4 (by decide) kX7_farthest_0 rfl dX7_farthest_24 ?_
  have f36 : h17 (ad 5 0) = some (eO 5 [.ref (ad 6 0), .ref (ad 7 0), .ref (ad 8 0), .ref (ad 9 0), vI (c1 5 0 4), vI (((c1 5 0 5).toNat : Nat) : Int), vI (c1 5 0 6)]) := hCPc1.1.1 5 0 (lv0 (by decide))
  have f37 : h17 (ad 9 0) = some (eZ D 96 (c1 9 0)) := hCPc1.1.1 9 0 (lv0 (by decide))
  refine x_callV C (n := 0) (qc := (RX5, TX5, 7)) (As := []) (rest := []) (c_X5_farthestReached f36 f37 (by assumption)) gX7_farthest_X5_farthestReached (by decide +kernel) f36 rfl rfl rfl rfl (Nat.le_of_ble_eq_true rfl) ⟨by decide, by decide⟩ ⟨(by decide), (by decide)⟩ dX7_farthest_27 (fun rv38 h39 hp40 => ?_)
  obtain ⟨r_42, rfl, e41, hF_27⟩ := hp40
  obtain rfl := e41.symm
  refine x_iret C G dX7_farthest_30 ?_ (by decide) (by decide)
  exact ⟨c1, _, rfl, hCPc1, hSE, hSn, h01, by omega, hF_27⟩


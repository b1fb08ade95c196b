/-- a work's best run is told anew -/
def bw (c : CS) (j : Nat) (w : Int) : CS := cu c 18 j (oF [c 18 j 0, c 18 j 1, c 18 j 2, 0, c 18 j 4, 0, w, c 18 j 7])
theorem Cok.bwk {c : CS} {L W j : Nat} {w : Int} (hC : Cok c L W) (hj : j < W) (hw : -1 ≤ w ∧ w ≤ 7000) : Cok (bw c j w) L W := by
  have e : ∀ k i, k ≠ 18 → bw c j w k i = c k i := fun k i h => cu_k h
  obtain ⟨h1, q2, q3, q4, q5⟩ := hC
  refine ⟨?_, ?_, fun i hi => ?_, fun i hi => ?_, fun p hp => ?_⟩
  · unfold Ok1 at h1 ⊢; rw [e 0 0 (by omega), e 2 0 (by omega), e 3 0 (by omega), e 4 0 (by omega)]; exact h1
  · rw [e 1 0 (by omega)]; exact q2
  · have := q3 i hi
    unfold OkL OkH at this ⊢
    rw [e 12 i (by omega), e 13 i (by omega), e 11 i (by omega), e 10 i (by omega), e 14 i (by omega), e 15 i (by omega), e 16 i (by omega), e 17 i (by omega)]
    exact this
  · have := q4 i hi
    unfold OkW at this ⊢
    rw [e 20 i (by omega), e 21 i (by omega), e 19 i (by omega), e 22 i (by omega)]
    by_cases q : i = j
    · subst q
      rw [show bw c i w 18 i = _ from cu_s]
      exact ⟨this.1, this.2.1, this.2.2.1, this.2.2.2.1, this.2.2.2.2.1, hw, this.2.2.2.2.2.2⟩
    · rw [show bw c j w 18 i = c 18 i from cu_n (fun z => q z.2)]
      exact this
  · have := q5 p hp
    unfold OkR at this ⊢
    rw [e 23 p (by omega), e 24 p (by omega)]
    exact this
theorem Cok.er {c : CS} {L W x : Nat} (hC : Cok c L W) (hx : x < W) : ∀ n, n ≤ 6 → Cok (erN c x n) L W
  | 0, _ => hC
  | n + 1, hn => by
    have hI := Cok.er hC hx n (by omega)
    unfold erN
    split
    · have hn3 : c 23 n = erN c x n 23 n := (erN_i n (Nat.le_refl _)).symm
      generalize erN c x n = d at hI hn3
      have e : ∀ f k i, k ≠ 23 → cu d 23 n f k i = d k i := fun f k i h => cu_k h
      obtain ⟨h1, q2, q3, q4, q5⟩ := hI
      refine ⟨?_, ?_, fun i hi => ?_, fun i hi => ?_, fun p hp => ?_⟩
      · unfold Ok1 at h1 ⊢; rw [e _ 0 0 (by omega), e _ 2 0 (by omega), e _ 3 0 (by omega), e _ 4 0 (by omega)]; exact h1
      · rw [e _ 1 0 (by omega)]; exact q2
      · have := q3 i hi
        unfold OkL OkH at this ⊢
        rw [e _ 12 i (by omega), e _ 13 i (by omega), e _ 11 i (by omega), e _ 10 i (by omega), e _ 14 i (by omega), e _ 15 i (by omega), e _ 16 i (by omega), e _ 17 i (by omega)]
        exact this
      · have := q4 i hi
        unfold OkW at this ⊢
        rw [e _ 20 i (by omega), e _ 21 i (by omega), e _ 19 i (by omega), e _ 18 i (by omega), e _ 22 i (by omega)]
        exact this
      · have := q5 p hp
        unfold OkR at this ⊢
        rw [e _ 24 p (by omega)]
        by_cases q : p = n
        · subst q
          rw [cu_s, hn3]
          refine ⟨⟨by show (0 : Int) ≤ (x : Int) + 1; omega, by show (x : Int) + 1 ≤ (W : Int); omega⟩, ⟨by show (0 : Int) ≤ 4; decide, by show (4 : Int) ≤ 4; decide⟩, this.2.2.1, fun z => absurd z (by show ¬ (4 : Int) = 1; decide), this.2.2.2.2⟩
        · rw [cu_n (fun z => q z.2)]
          exact this
    · exact hI
theorem Cok.eu {c : CS} {L W x : Nat} (hC : Cok c L W) (hx : x < W) : Cok (erU c x) L W := by
  unfold erU; split
  · exact hC
  · exact hC.er hx 6 (Nat.le_refl _)
theorem erU_k {c : CS} {x k i : Nat} (h : k ≠ 23) : erU c x k i = c k i := by
  unfold erU; split
  · rfl
  · exact erN_k h 6
/-- one work after a change of the springs -/
def StepW (kd : Int) (j : Nat) (c1 c4 : CS) : Prop := (bI (∃ x, x < 96 ∧ c1 20 j x = kd) = 0 ∧ c4 = c1) ∨ (¬ bI (∃ x, x < 96 ∧ c1 20 j x = kd) = 0 ∧ ∃ (c3 : CS) (w : Int), SE c1 c3 ∧ Found (TT (c1 20 j) (c1 21 j) (c1 19 j 2).toNat (c1 1 0)) (X0 (c1 20 j) (c1 21 j) (c1 18 j 4)) w ∧ (-1 ≤ w ∧ w ≤ 7000) ∧ c4 = erU (bw c3 j w) j)
def SPW (kd : Int) (c0 : CS) : Nat → CS → Prop
  | 0, c1 => c1 = c0
  | j + 1, c4 => ∃ c1, SPW kd c0 j c1 ∧ StepW kd j c1 c4
/-- the search's cells, with a bound of how often it has searched -/
def SB (c : CS) (b : Int) : Prop := SSok (c 5 0 4) ((c 5 0 5).toNat, c 7 0, c 8 0, c 9 0, c 5 0 6) ∧ 0 ≤ c 5 0 4 ∧ c 5 0 4 ≤ b
theorem StepW.ok {kd : Int} {j L W : Nat} {c1 c4 : CS} {b : Int} (h : StepW kd j c1 c4) (hj : j < W) (hC : Cok c1 L W) (hS : SB c1 b) : Cok c4 L W ∧ SB c4 (b + 1) ∧ c4 1 0 = c1 1 0 := by
  rcases h with ⟨_, rfl⟩ | ⟨_, c3, w, h1, _, h3, rfl⟩
  · exact ⟨hC, ⟨hS.1, hS.2.1, by have := hS.2.2; omega⟩, rfl⟩
  · refine ⟨((h1.cok hC).bwk hj h3).eu hj, ?_, ?_⟩
    · have e : ∀ k i, k ≠ 18 ∧ k ≠ 23 → erU (bw c3 j w) j k i = c3 k i := fun k i h => (erU_k h.2).trans (cu_k h.1)
      unfold SB
      rw [e 5 0 (by omega), e 7 0 (by omega), e 8 0 (by omega), e 9 0 (by omega)]
      exact ⟨h1.2.1, by rw [h1.2.2]; have := hS.2.1; omega, by rw [h1.2.2]; have := hS.2.2; omega⟩
    · rw [erU_k (by decide), show bw c3 j w 1 0 = c3 1 0 from cu_k (by decide)]
      exact h1.1 1 0 (by omega)
theorem Cok.spr {c : CS} {L W s : Nat} {n : Int} (hC : Cok c L W) (hn : 1 ≤ n ∧ n ≤ 4) : Cok (cu c 1 0 (fu (c 1 0) s n)) L W := by
  have e : ∀ f k i, k ≠ 1 → cu c 1 0 f k i = c k i := fun f k i h => cu_k h
  obtain ⟨h1, q2, q3, q4, q5⟩ := hC
  refine ⟨?_, ?_, fun i hi => ?_, fun i hi => ?_, fun p hp => ?_⟩
  · unfold Ok1 at h1 ⊢; rw [e _ 0 0 (by omega), e _ 2 0 (by omega), e _ 3 0 (by omega), e _ 4 0 (by omega)]; exact h1
  · intro j
    rw [cu_s]
    unfold fu; split
    · omega
    · exact q2 j
  · have := q3 i hi
    unfold OkL OkH at this ⊢
    rw [e _ 12 i (by omega), e _ 13 i (by omega), e _ 11 i (by omega), e _ 10 i (by omega), e _ 14 i (by omega), e _ 15 i (by omega), e _ 16 i (by omega), e _ 17 i (by omega)]
    exact this
  · have := q4 i hi
    unfold OkW at this ⊢
    rw [e _ 20 i (by omega), e _ 21 i (by omega), e _ 19 i (by omega), e _ 18 i (by omega), e _ 22 i (by omega)]
    exact this
  · have := q5 p hp
    unfold OkR at this ⊢
    rw [e _ 23 p (by omega), e _ 24 p (by omega)]
    exact this

theorem kX7_setSpring_0 : Cond.classLink "LedgeLevels" 73 "java/lang/IllegalArgumentException" ∈ wsX7_setSpring := by decide +kernel
theorem kX7_setSpring_1 : Cond.initialized "java/lang/IllegalArgumentException" ∈ wsX7_setSpring := by decide +kernel
theorem kX7_setSpring_2 : ∀ w ∈ (vx_atS "LedgeLevels" 77 "java/lang/IllegalArgumentException" ["java/lang/RuntimeException", "java/lang/Exception"]).filter goodWord, w ∈ wsX7_setSpring := by decide +kernel
theorem kX7_setSpring_3 : Cond.fieldLink "LedgeLevels" 7 "LedgeLevels" "strengths" "[I" ∈ wsX7_setSpring := by decide +kernel
theorem kX7_setSpring_4 : ∀ w ∈ wsX70, w ∈ wsX7_setSpring := by decide +kernel
theorem kX7_setSpring_5 : Cond.fieldLink "LedgeLevels" 44 "LedgeLevels" "workCount" "I" ∈ wsX7_setSpring := by decide +kernel
theorem kX7_setSpring_6 : Cond.fieldLinkNest "LedgeLevels" 146 "LedgeLevels$Work" "grid" "LLedgeLevels$Grid;" "LedgeLevels" ∈ nwAll := by decide +kernel
theorem kX7_setSpring_7 : ∀ w ∈ wsX60, w ∈ wsX7_setSpring := by decide +kernel
theorem kX7_setSpring_8 : Cond.fieldLink "LedgeLevels" 36 "LedgeLevels" "search" "LLedgeLevels$Search;" ∈ wsX7_setSpring := by decide +kernel
theorem kX7_setSpring_9 : Cond.fieldLinkNest "LedgeLevels" 151 "LedgeLevels$Work" "start" "I" "LedgeLevels" ∈ nwAll := by decide +kernel
theorem kX7_setSpring_10 : Cond.fieldLinkNest "LedgeLevels" 156 "LedgeLevels$Work" "best" "I" "LedgeLevels" ∈ nwAll := by decide +kernel
set_option maxRecDepth 100000 in
set_option maxHeartbeats 1000000 in
theorem c_X7_setSpring {l : Launch} {D : va_G} {A : Nat → Prop} {h : vh} {ad : AD} {c : CS} {L W : Nat} {s n : Int}  (hR : RepC D ad c L W h) (hC : Cok c L W) (hSo : OkS c) (hsn : c 5 0 4 ≤ 890000) (hi_s : -2147483648 ≤ s ∧ s ≤ 2147483647) (hi_n : -2147483648 ≤ n ∧ n ≤ 2147483647) : TX l D A yX7_setSpring wsX7_setSpring { frames := 8, cells := 460, slots := 2700, locals := 143 } [.ref (ad 0 0), vI s, vI n] h (fun rv h' => ∃ (c1 : CS) (r : Int), rv = some (vI r) ∧ CP D ad L W h (c1) h' ∧ ((c 1 0 s.toNat = n ∧ c1 = c ∧ r = 0) ∨ (c 1 0 s.toNat ≠ n ∧ ∃ c2, SPW (6 + s) (cu c 1 0 (fu (c 1 0) s.toNat n)) W c2 ∧ Cok c2 L W ∧ SB c2 (c 5 0 4 + W) ∧ c1 = vpN c2 (6 + s) L ∧ r = sumN (vpB c2 (6 + s)) L)) ∧ ((0 ≤ s ∧ s < 3) ∧ 1 ≤ n ∧ n ≤ 4)) (XP (¬ (0 ≤ s ∧ s < 3)) ((0 ≤ s ∧ s < 3) ∧ ¬ (1 ≤ n ∧ n ≤ 4)) False h) := by
  refine TX.of (cc := cX7_setSpring) (maxL := 5) (ret := (some .int)) [(0, .ref (ad 0 0)), (1, vI s), (2, vI n)] (by decide +kernel) rfl rfl (Nat.le_of_ble_eq_true rfl) ?_
  intro κ C hkl G GT
  subst hkl
  have C : CX κ "LedgeLevels" "setSpring" cX7_setSpring wsX7_setSpring { frames := 8, cells := 460, slots := 2700, locals := 143 } D A 5 := C
  have hiz : nq (D.1 20) (D.1 21) := cx_iz C
  obtain ⟨hP1, q2, q3, q4, q5⟩ := id hC
  obtain ⟨o1, o2, o3, o4, o5, o6, o7⟩ := id hP1
  obtain ⟨hss, hs1, hs2⟩ := id hSo
  refine x_iload_n C dX7_setSpring_0 1 rfl ?_
  refine x_callSt C (n := 1) (As := [vI s]) (rest := []) (c_X7_checkSpring (hR) (by omega)) gX7_setSpring_X7_checkSpring (by decide +kernel) rfl rfl rfl (Nat.le_of_ble_eq_true rfl) ⟨by decide, by decide⟩ ⟨(by decide), (by decide)⟩ dX7_setSpring_1 GT (by decide) (by decide) (fun E h9 hx9 => XP.imp hx9 (fun z9 => by first | exact z9.elim | omega) (fun z9 => by first | exact z9.elim | omega) (fun z9 => by first | exact z9.elim | omega)) (fun rv1 h2 hp3 => ?_)
  obtain ⟨rfl, e4, hs_1⟩ := hp3
  obtain rfl := e4.symm
  have gs := q2 s.toNat
  refine x_iload_n C dX7_setSpring_4 2 rfl ?_
  refine x_iconst C dX7_setSpring_5 1 (by decide) ?_
  refine x_icmp_lt (tgt := 14) C dX7_setSpring_6 (by decide) (by omega) (by omega) (fun c5 => ?_) (fun c5 => ?_)
  · skip
    refine x_throwS C GT (cls := "java/lang/IllegalArgumentException") (text := "no such strength") (names := ["java/lang/RuntimeException", "java/lang/Exception"]) (by decide +kernel) (by decide +kernel) kX7_setSpring_0 kX7_setSpring_1 (by decide +kernel) kX7_setSpring_2 (by decide +kernel) (by decide +kernel) dX7_setSpring_14 dX7_setSpring_17 dX7_setSpring_18 dX7_setSpring_20 dX7_setSpring_23 (by decide) (by decide) (by decide) (by decide) (by decide) (by decide) ?_
    exact ⟨rfl, Or.inr (Or.inl ⟨rfl, by omega⟩)⟩
  · skip
    refine x_iload_n C dX7_setSpring_9 2 rfl ?_
    refine x_iconst C dX7_setSpring_10 4 (by decide) ?_
    refine x_icmp_le (tgt := 24) C dX7_setSpring_11 (by decide) (by omega) (by omega) (fun c6 => ?_) (fun c6 => ?_)
    · skip
      refine x_aload_n C dX7_setSpring_24 0 rfl ?_
      have f7 : h (ad 0 0) = some (eO 7 [.ref (ad 1 0), .ref (ad 2 0), .ref (ad 3 0), .ref (ad 4 0), .ref (ad 5 0), vI (c 0 0 5), vI (c 0 0 6)]) := hR.1 0 0 (lv0 (by decide))
      refine x_get C (v := .ref (ad 1 0)) f7 (T := TX7) rfl kX7_setSpring_4 0 (by decide) kX7_setSpring_3 rfl dX7_setSpring_25 ?_
      refine x_iload_n C dX7_setSpring_28 1 rfl ?_
      have f8 : h (ad 1 0) = some (eI D 3 (c 1 0)) := hR.1 1 0 (lv0 (by decide))
      refine x_iald C f8 ⟨by omega, by omega⟩ (by decide) dX7_setSpring_29 ?_
      refine x_iload_n C dX7_setSpring_30 2 rfl ?_
      refine x_icmp_ne (tgt := 36) C dX7_setSpring_31 (by decide) (by omega) (by omega) (fun c9 => ?_) (fun c9 => ?_)
      · skip
        refine x_aload_n C dX7_setSpring_36 0 rfl ?_
        refine x_get C (v := .ref (ad 1 0)) f7 (T := TX7) rfl kX7_setSpring_4 0 (by decide) kX7_setSpring_3 rfl dX7_setSpring_37 ?_
        refine x_iload_n C dX7_setSpring_40 1 rfl ?_
        refine x_iload_n C dX7_setSpring_41 2 rfl ?_
        refine x_iast C f8 ⟨by omega, by omega⟩ (by decide) dX7_setSpring_42 (x_hn (fun h10 e11 => ?_))
        have f12 : h10 (ad 1 0) = some (eI D 3 (fu (c 1 0) (Int.toNat s) n)) := by rw [e11]; exact hu_s
        refine x_iconst C dX7_setSpring_43 0 (by decide) ?_
        refine x_widen (m1 := 10) (m2 := 60) (by first | omega | (dsimp only; omega)) (by first | omega | (dsimp only; omega)) ?_
        refine x_istore_n C (ls' := [(0, .ref (ad 0 0)), (1, vI s), (2, vI n), (3, vI 0)]) dX7_setSpring_44 (by decide) rfl ?_
        have LP : ∀ (N : Nat) (j : Nat) (c1 : CS) (h13 : vh)   (hj : j ≤ W) (hm : W - j < N) (hcp : CP D ad L W h c1 h13) (hok : Cok c1 L W) (hSB : SB c1 (c 5 0 4 + j)) (hSP : SPW (6 + s) (cu c 1 0 (fu (c 1 0) s.toNat n)) j c1), X κ (10 + 20 * j) (60 + 120 * j) h13 [(0, .ref (ad 0 0)), (1, vI s), (2, vI n), (3, vI ((j : Nat) : Int))] 45 [] := by
          intro N
          induction N with
          | zero => intro j c1 h13 hj hm hcp hok hSB hSP; exfalso; omega
          | succ N ihLP =>
            intro j c1 h13 hj hm hcp hok hSB hSP
            obtain ⟨hO1, z2, z3, z4, z5⟩ := id hok
            obtain ⟨t1, t2, t3, t4, t5, t6, t7⟩ := id hO1
            obtain ⟨b1, b2, b3⟩ := id hSB
            refine x_iload_n C dX7_setSpring_45 3 rfl ?_
            refine x_aload_n C dX7_setSpring_46 0 rfl ?_
            have f14 : h13 (ad 0 0) = some (eO 7 [.ref (ad 1 0), .ref (ad 2 0), .ref (ad 3 0), .ref (ad 4 0), .ref (ad 5 0), vI (c1 0 0 5), vI (c1 0 0 6)]) := hcp.1.1 0 0 (lv0 (by decide))
            refine x_get C (v := vI (c1 0 0 6)) f14 (T := TX7) rfl kX7_setSpring_4 6 (by decide) kX7_setSpring_5 rfl dX7_setSpring_47 ?_
            refine x_icmp_ge (tgt := 110) C dX7_setSpring_50 (by decide) (by omega) (by omega) (fun c15 => ?_) (fun c15 => ?_)
            · skip
              refine x_aload_n C dX7_setSpring_110 0 rfl ?_
              refine x_bipush C dX7_setSpring_111 6 (by decide) ?_
              refine x_iload_n C dX7_setSpring_113 1 rfl ?_
              refine x_iadd C dX7_setSpring_114 ?_
              refine x_callVt C (n := 1) (qc := (RX7, TX7, 7)) (As := [vI (6 + s)]) (rest := []) (c_X7_voidProofsWith (hcp.1) (by assumption) (by omega)) gX7_setSpring_X7_voidProofsWith (by decide +kernel) f14 rfl rfl rfl rfl (Nat.le_of_ble_eq_true rfl) ⟨by decide, by decide⟩ ⟨(by first | omega | (dsimp only; omega)), (by first | omega | (dsimp only; omega))⟩ dX7_setSpring_115 GT (by first | omega | (dsimp only; omega)) (by first | omega | (dsimp only; omega)) (fun E h9 hx9 => XP.imp (h := h) ⟨by obtain ⟨q8, q9⟩ := hx9; rcases q9 with ⟨q6, q7⟩ | ⟨q6, q7⟩ | ⟨q6, q7⟩ <;> (exfalso; first | exact q7 | omega), hx9.2⟩ (fun z9 => by first | exact z9.elim | omega) (fun z9 => by first | exact z9.elim | omega) (fun z9 => by first | exact z9.elim | omega)) (fun rv16 h17 hp18 => ?_)
              obtain ⟨rfl, cp20⟩ := hp18
              have cp21 : CP D ad L W h (vpN c1 (6 + s) L) h17 := CP.trans hcp cp20
              refine x_iret C G dX7_setSpring_118 ?_ (by first | omega | (dsimp only; omega)) (by first | omega | (dsimp only; omega))
              obtain rfl : j = W := by omega
              exact ⟨_, _, rfl, cp21, Or.inr ⟨by assumption, c1, hSP, hok, hSB, rfl, rfl⟩, by omega⟩
            · skip
              refine x_aload_n C dX7_setSpring_53 0 rfl ?_
              refine x_iload_n C dX7_setSpring_54 3 rfl ?_
              refine x_callVt C (n := 1) (qc := (RX7, TX7, 7)) (As := [vI ((j : Nat) : Int)]) (rest := []) (c_X7_workOf (hcp.1) (by assumption) (by omega)) gX7_setSpring_X7_workOf (by decide +kernel) f14 rfl rfl rfl rfl (Nat.le_of_ble_eq_true rfl) ⟨by decide, by decide⟩ ⟨(by first | omega | (dsimp only; omega)), (by first | omega | (dsimp only; omega))⟩ dX7_setSpring_55 GT (by first | omega | (dsimp only; omega)) (by first | omega | (dsimp only; omega)) (fun E h9 hx9 => XP.imp (h := h) ⟨by obtain ⟨q8, q9⟩ := hx9; rcases q9 with ⟨q6, q7⟩ | ⟨q6, q7⟩ | ⟨q6, q7⟩ <;> (exfalso; first | exact q7 | omega), hx9.2⟩ (fun z9 => by first | exact z9.elim | omega) (fun z9 => by first | exact z9.elim | omega) (fun z9 => by first | exact z9.elim | omega)) (fun rv22 h23 hp24 => ?_)
              obtain ⟨rfl, e25, hw_55⟩ := hp24
              obtain rfl := e25.symm
              obtain ⟨⟨g1, g2, g3⟩, ⟨e0, e1, e2, e3, e4, e5, e6⟩⟩ := z4 j (by omega)
              refine x_astore C (ls' := [(0, .ref (ad 0 0)), (1, vI s), (2, vI n), (3, vI ((j : Nat) : Int)), (4, .ref (ad 18 j))]) dX7_setSpring_58 (by decide) rfl ?_
              refine x_aload C dX7_setSpring_60 4 rfl ?_
              have f26 : h13 (ad 18 j) = some (eO 6 [vI (c1 18 j 0), vI (c1 18 j 1), va_rf (prf ad (c1 18 j 2)), .ref (ad 19 j), vI (c1 18 j 4), .ref (ad 22 j), vI (c1 18 j 6), vI (c1 18 j 7)]) := hcp.1.1 18 j (lvW (by decide) (by omega))
              refine x_getN (host := "LedgeLevels") C (v := .ref (ad 19 j)) f26 (T := TX6) rfl kX7_setSpring_7 3 (by decide) kX7_setSpring_6 rfl dX7_setSpring_62 ?_
              refine x_bipush C dX7_setSpring_65 6 (by decide) ?_
              refine x_iload_n C dX7_setSpring_67 1 rfl ?_
              refine x_iadd C dX7_setSpring_68 ?_
              have f27 : h13 (ad 19 j) = some (eO 1 [.ref (ad 20 j), .ref (ad 21 j), vI (((c1 19 j 2).toNat : Nat) : Int)]) := hcp.1.1 19 j (lvW (by decide) (by omega))
              have f28 : h13 (ad 20 j) = some (eI D 96 (c1 20 j)) := hcp.1.1 20 j (lvW (by decide) (by omega))
              refine x_callV C (n := 1) (qc := (RX1, TX1, 3)) (As := [vI (6 + s)]) (rest := []) (c_X1_has f27 f28 (by omega) (by assumption)) gX7_setSpring_X1_has (by decide +kernel) f27 rfl rfl rfl rfl (Nat.le_of_ble_eq_true rfl) ⟨by decide, by decide⟩ ⟨(by first | omega | (dsimp only; omega)), (by first | omega | (dsimp only; omega))⟩ dX7_setSpring_69 (fun rv29 h30 hp31 => ?_)
              obtain ⟨rfl, e32⟩ := hp31
              obtain rfl := e32.symm
              have hbr := bI_01 (∃ x, x < 96 ∧ c1 20 j x = 6 + s)
              refine x_if_eq (tgt := 104) C dX7_setSpring_72 (by decide) (by omega) (fun c33 => ?_) (fun c33 => ?_)
              · skip
                refine x_iinc C (x := ((j : Nat) : Int)) (ls' := [(0, .ref (ad 0 0)), (1, vI s), (2, vI n), (3, vI ((((j : Nat) : Int)) + 1)), (4, .ref (ad 18 j))]) dX7_setSpring_104 3 rfl (by decide) rfl ?_
                refine x_goto (tgt := 45) C dX7_setSpring_107 (by decide) ?_
                have hst : StepW (6 + s) j c1 c1 := Or.inl ⟨by assumption, rfl⟩
                refine x_sub [0, 1, 2, 3] (ls' := [(0, .ref (ad 0 0)), (1, vI s), (2, vI n), (3, vI ((((j : Nat) : Int)) + 1))]) rfl ?_
                refine x_widen (m1 := 10 + 20 * (j + 1)) (m2 := 60 + 120 * (j + 1)) (by first | omega | (dsimp only; omega)) (by first | omega | (dsimp only; omega)) ?_
                exact ihLP (j + 1) c1 h13 (by omega) (by omega) (hcp) ((hst.ok (by omega) hok hSB).1) (by have q9 := (hst.ok (by omega) hok hSB).2.1; rw [show c 5 0 4 + ((j + 1 : Nat) : Int) = c 5 0 4 + (j : Int) + 1 by omega]; exact q9) (⟨c1, hSP, hst⟩)
              · skip
                refine x_aload C dX7_setSpring_75 4 rfl ?_
                refine x_aload_n C dX7_setSpring_77 0 rfl ?_
                refine x_get C (v := .ref (ad 5 0)) f14 (T := TX7) rfl kX7_setSpring_4 4 (by decide) kX7_setSpring_8 rfl dX7_setSpring_78 ?_
                refine x_aload C dX7_setSpring_81 4 rfl ?_
                refine x_getN (host := "LedgeLevels") C (v := .ref (ad 19 j)) f26 (T := TX6) rfl kX7_setSpring_7 3 (by decide) kX7_setSpring_6 rfl dX7_setSpring_83 ?_
                refine x_aload C dX7_setSpring_86 4 rfl ?_
                refine x_getN (host := "LedgeLevels") C (v := vI (c1 18 j 4)) f26 (T := TX6) rfl kX7_setSpring_7 4 (by decide) kX7_setSpring_9 rfl dX7_setSpring_88 ?_
                refine x_iconst C dX7_setSpring_91 1 (by decide) ?_
                have f34 : h13 (ad 5 0) = some (eO 5 [.ref (ad 6 0), .ref (ad 7 0), .ref (ad 8 0), .ref (ad 9 0), vI (c1 5 0 4), vI (((c1 5 0 5).toNat : Nat) : Int), vI (c1 5 0 6)]) := hcp.1.1 5 0 (lv0 (by decide))
                have f35 : h13 (ad 7 0) = some (eI D 6144 (c1 7 0)) := hcp.1.1 7 0 (lv0 (by decide))
                have f36 : h13 (ad 8 0) = some (eI D 6144 (c1 8 0)) := hcp.1.1 8 0 (lv0 (by decide))
                have f37 : h13 (ad 9 0) = some (eZ D 96 (c1 9 0)) := hcp.1.1 9 0 (lv0 (by decide))
                have f38 : h13 (ad 6 0) = some (eO 0 [.ref (ad 1 0), vI (c1 6 0 1), vI (c1 6 0 2), vI (((c1 6 0 3).toNat : Nat) : Int), vI (c1 6 0 4)]) := hcp.1.1 6 0 (lv0 (by decide))
                have f39 : h13 (ad 21 j) = some (eI D 3 (c1 21 j)) := hcp.1.1 21 j (lvW (by decide) (by omega))
                have f40 : h13 (ad 1 0) = some (eI D 3 (c1 1 0)) := hcp.1.1 1 0 (lv0 (by decide))
                refine x_callV C (n := 3) (qc := (RX5, TX5, 7)) (As := [.ref (ad 19 j), vI (c1 18 j 4), vI 1]) (rest := [.ref (ad 18 j)]) (c_X5_explore f34 f35 f36 f37 f38 f27 f28 f39 f40 (by omega) (by omega) (b1) (by omega) ((hcp.1.ne (lv0 (by decide)) (lv0 (by decide)) (fun zz9 => absurd zz9.1 (by decide)))) (by assumption) (by assumption) (by assumption) (by omega)) gX7_setSpring_X5_explore (by decide +kernel) f34 rfl rfl rfl rfl (Nat.le_of_ble_eq_true rfl) ⟨by decide, by decide⟩ ⟨(by first | omega | (dsimp only; omega)), (by first | omega | (dsimp only; omega))⟩ dX7_setSpring_92 (fun rv41 h42 hp43 => ?_)
                obtain ⟨c_45, v_46, s_47, w_48, t_49, m_50, Q_51, N_52, R_53, rfl, e44, hF_92, hR1_92, hok1_92⟩ := hp43
                have f54 : h42 (ad 5 0) = some (eO 5 [.ref (ad 6 0), .ref (ad 7 0), .ref (ad 8 0), .ref (ad 9 0), vI ((c1 5 0 4) + 1), vI ((m_50 : Nat) : Int), vI w_48]) := by rw [e44]; exact hu_s
                have f55 : h42 (ad 7 0) = some (eI D 6144 Q_51) := by rw [e44, hu_n (hcp.1.ne (lv0 (by decide)) (lv0 (by decide)) (fun zz9 => absurd zz9.1 (by decide)))]; exact hu_s
                have f56 : h42 (ad 8 0) = some (eI D 6144 N_52) := by rw [e44, hu_n (hcp.1.ne (lv0 (by decide)) (lv0 (by decide)) (fun zz9 => absurd zz9.1 (by decide))), hu_n (hcp.1.ne (lv0 (by decide)) (lv0 (by decide)) (fun zz9 => absurd zz9.1 (by decide)))]; exact hu_s
                have f57 : h42 (ad 9 0) = some (eZ D 96 R_53) := by rw [e44, hu_n (hcp.1.ne (lv0 (by decide)) (lv0 (by decide)) (fun zz9 => absurd zz9.1 (by decide))), hu_n (hcp.1.ne (lv0 (by decide)) (lv0 (by decide)) (fun zz9 => absurd zz9.1 (by decide))), hu_n (hcp.1.ne (lv0 (by decide)) (lv0 (by decide)) (fun zz9 => absurd zz9.1 (by decide)))]; exact hu_s
                have f58 : h42 (ad 6 0) = some (eO 0 [.ref (ad 1 0), vI c_45, vI v_46, vI ((t_49 : Nat) : Int), vI s_47]) := by rw [e44, hu_n (hcp.1.ne (lv0 (by decide)) (lv0 (by decide)) (fun zz9 => absurd zz9.1 (by decide))), hu_n (hcp.1.ne (lv0 (by decide)) (lv0 (by decide)) (fun zz9 => absurd zz9.1 (by decide))), hu_n (hcp.1.ne (lv0 (by decide)) (lv0 (by decide)) (fun zz9 => absurd zz9.1 (by decide))), hu_n (hcp.1.ne (lv0 (by decide)) (lv0 (by decide)) (fun zz9 => absurd zz9.1 (by decide)))]; exact hu_s
                have cp59 : CP D ad L W h (cu (cu (cu (cu (cu c1 6 0 (oF [0, c_45, v_46, ((t_49 : Nat) : Int), s_47])) 9 0 (R_53)) 8 0 (N_52)) 7 0 (Q_51)) 5 0 (oF [0, 0, 0, 0, (c1 5 0 4) + 1, ((m_50 : Nat) : Int), w_48])) h42 := by rw [e44]; exact (CP.up (CP.up (CP.up (CP.up (CP.up hcp (lv0 (by decide)) (oF [0, c_45, v_46, ((t_49 : Nat) : Int), s_47]) rfl) (lv0 (by decide)) (R_53) rfl) (lv0 (by decide)) (N_52) rfl) (lv0 (by decide)) (Q_51) rfl) (lv0 (by decide)) (oF [0, 0, 0, 0, (c1 5 0 4) + 1, ((m_50 : Nat) : Int), w_48]) rfl)
                obtain ⟨c3, hSE, hwr, hCPc3⟩ : ∃ c3 : CS, (SE c1 c3) ∧ (-1 ≤ w_48 ∧ w_48 ≤ 7000) ∧ CP D ad L W h c3 h42 := ⟨(cu (cu (cu (cu (cu c1 6 0 (oF [0, c_45, v_46, ((t_49 : Nat) : Int), s_47])) 9 0 (R_53)) 8 0 (N_52)) 7 0 (Q_51)) 5 0 (oF [0, 0, 0, 0, (c1 5 0 4) + 1, ((m_50 : Nat) : Int), w_48])), SE.mk5 hok1_92, hok1_92.2.2.2.2, cp59⟩
                obtain ⟨⟨u1, u2, u3⟩, ⟨v0, v1, v2, v3, v4, v5, v6⟩⟩ := (hSE.cok hok).2.2.2.1 j (by omega)
                have f60 : h42 (ad 18 j) = some (eO 6 [vI (c3 18 j 0), vI (c3 18 j 1), va_rf (prf ad (c3 18 j 2)), .ref (ad 19 j), vI (c3 18 j 4), .ref (ad 22 j), vI (c3 18 j 6), vI (c3 18 j 7)]) := hCPc3.1.1 18 j (lvW (by decide) (by omega))
                refine x_putN (host := "LedgeLevels") C f60 (T := TX6) rfl tyX6_ok nmX6 kX7_setSpring_7 6 (by decide) kX7_setSpring_10 rfl (fs' := [vI (c3 18 j 0), vI (c3 18 j 1), va_rf (prf ad (c3 18 j 2)), .ref (ad 19 j), vI (c3 18 j 4), .ref (ad 22 j), vI w_48, vI (c3 18 j 7)]) rfl rfl (by simp) rfl dX7_setSpring_95 (x_hn (fun h61 e62 => ?_))
                have f63 : h61 (ad 18 j) = some (eO 6 [vI (c3 18 j 0), vI (c3 18 j 1), va_rf (prf ad (c3 18 j 2)), .ref (ad 19 j), vI (c3 18 j 4), .ref (ad 22 j), vI w_48, vI (c3 18 j 7)]) := by rw [e62]; exact hu_s
                refine x_aload_n C dX7_setSpring_98 0 rfl ?_
                refine x_aload C dX7_setSpring_99 4 rfl ?_
                have cp64 : CP D ad L W h (cu c3 18 j (oF [c3 18 j 0, c3 18 j 1, c3 18 j 2, 0, c3 18 j 4, 0, w_48, c3 18 j 7])) h61 := by rw [e62]; exact (CP.up hCPc3 (lvW (by decide) (by omega)) (oF [c3 18 j 0, c3 18 j 1, c3 18 j 2, 0, c3 18 j 4, 0, w_48, c3 18 j 7]) rfl)
                have f65 : h42 (ad 0 0) = some (eO 7 [.ref (ad 1 0), .ref (ad 2 0), .ref (ad 3 0), .ref (ad 4 0), .ref (ad 5 0), vI (c3 0 0 5), vI (c3 0 0 6)]) := hCPc3.1.1 0 0 (lv0 (by decide))
                have f66 : h61 (ad 0 0) = some (eO 7 [.ref (ad 1 0), .ref (ad 2 0), .ref (ad 3 0), .ref (ad 4 0), .ref (ad 5 0), vI (c3 0 0 5), vI (c3 0 0 6)]) := by rw [e62, hu_n (hCPc3.1.ne (lv0 (by decide)) (lvW (by decide) (by omega)) (fun zz9 => absurd zz9.1 (by decide)))]; exact f65
                refine x_callVt C (n := 1) (qc := (RX7, TX7, 7)) (As := [.ref (ad 18 j)]) (rest := []) (c_X7_endRunsIfWithdrawn (cp64.1) (((hSE.cok hok).bwk (by omega) hwr).1) (by omega) (by rw [cu_s]; exact hwr) (fun p hp => ⟨((hSE.cok hok).2.2.2.2 p hp).1, ((hSE.cok hok).2.2.2.2 p hp).2.1⟩)) gX7_setSpring_X7_endRunsIfWithdrawn (by decide +kernel) f66 rfl rfl rfl rfl (Nat.le_of_ble_eq_true rfl) ⟨by decide, by decide⟩ ⟨(by first | omega | (dsimp only; omega)), (by first | omega | (dsimp only; omega))⟩ dX7_setSpring_101 GT (by first | omega | (dsimp only; omega)) (by first | omega | (dsimp only; omega)) (fun E h9 hx9 => XP.imp (h := h) ⟨by obtain ⟨q8, q9⟩ := hx9; rcases q9 with ⟨q6, q7⟩ | ⟨q6, q7⟩ | ⟨q6, q7⟩ <;> (exfalso; first | exact q7 | omega), hx9.2⟩ (fun z9 => by first | exact z9.elim | omega) (fun z9 => by first | exact z9.elim | omega) (fun z9 => by first | exact z9.elim | omega)) (fun rv67 h68 hp69 => ?_)
                obtain ⟨rfl, cp71⟩ := hp69
                have cp72 : CP D ad L W h (erU ((cu c3 18 j (oF [c3 18 j 0, c3 18 j 1, c3 18 j 2, 0, c3 18 j 4, 0, w_48, c3 18 j 7]))) j) h68 := CP.trans cp64 cp71
                refine x_iinc C (x := ((j : Nat) : Int)) (ls' := [(0, .ref (ad 0 0)), (1, vI s), (2, vI n), (3, vI ((((j : Nat) : Int)) + 1)), (4, .ref (ad 18 j))]) dX7_setSpring_104 3 rfl (by decide) rfl ?_
                refine x_goto (tgt := 45) C dX7_setSpring_107 (by decide) ?_
                have hst : StepW (6 + s) j c1 (erU (bw c3 j w_48) j) := Or.inr ⟨by assumption, c3, w_48, hSE, hF_92, hwr, rfl⟩
                refine x_sub [0, 1, 2, 3] (ls' := [(0, .ref (ad 0 0)), (1, vI s), (2, vI n), (3, vI ((((j : Nat) : Int)) + 1))]) rfl ?_
                refine x_widen (m1 := 10 + 20 * (j + 1)) (m2 := 60 + 120 * (j + 1)) (by first | omega | (dsimp only; omega)) (by first | omega | (dsimp only; omega)) ?_
                exact ihLP (j + 1) ((erU (bw c3 j w_48) j)) h68 (by omega) (by omega) (cp72) ((hst.ok (by omega) hok hSB).1) (by have q9 := (hst.ok (by omega) hok hSB).2.1; rw [show c 5 0 4 + ((j + 1 : Nat) : Int) = c 5 0 4 + (j : Int) + 1 by omega]; exact q9) (⟨c1, hSP, hst⟩)
        have cp73 : CP D ad L W h (cu c 1 0 (fu (c 1 0) (Int.toNat s) n)) h10 := by rw [e11]; exact (CP.up (CP.rf hR) (lv0 (by decide)) (fu (c 1 0) (Int.toNat s) n) rfl)
        exact LP (W + 1) 0 ((cu c 1 0 (fu (c 1 0) s.toNat n))) h10 (by omega) (by omega) (cp73) (hC.spr (by omega)) (⟨hss, hs1, by show c 5 0 4 ≤ _; omega⟩) (rfl)
      · skip
        refine x_iconst C dX7_setSpring_34 0 (by decide) ?_
        refine x_iret C G dX7_setSpring_35 ?_ (by decide) (by decide)
        exact ⟨c, 0, rfl, CP.rf hR, Or.inl ⟨by assumption, rfl, rfl⟩, by omega⟩
    · skip
      refine x_throwS C GT (cls := "java/lang/IllegalArgumentException") (text := "no such strength") (names := ["java/lang/RuntimeException", "java/lang/Exception"]) (by decide +kernel) (by decide +kernel) kX7_setSpring_0 kX7_setSpring_1 (by decide +kernel) kX7_setSpring_2 (by decide +kernel) (by decide +kernel) dX7_setSpring_14 dX7_setSpring_17 dX7_setSpring_18 dX7_setSpring_20 dX7_setSpring_23 (by decide) (by decide) (by decide) (by decide) (by decide) (by decide) ?_
      exact ⟨rfl, Or.inr (Or.inl ⟨rfl, by omega⟩)⟩


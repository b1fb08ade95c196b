/-- the bounds of the reference's numbers -/
def Mk1 (m : CS) : Prop := (0 ≤ m 0 0 2 ∧ m 0 0 2 ≤ 12) ∧ (0 ≤ m 0 0 14 ∧ m 0 0 14 ≤ 20)

theorem kX8_fails_0 : Cond.fieldLink "LedgeLevelsModel" 101 "LedgeLevelsModel" "thrown" "I" ∈ wsX8_fails := by decide +kernel
theorem kX8_fails_1 : ∀ w ∈ wsX80, w ∈ wsX8_fails := by decide +kernel
set_option maxRecDepth 100000 in
set_option maxHeartbeats 1000000 in
theorem c_X8_fails {l : Launch} {D : va_G} {A : Nat → Prop} {h : vh} {am : AD} {m : CS} {e : Int}  (hR : RepM D am m h) : MX l D A yX8_fails wsX8_fails { frames := 0, cells := 0, slots := 0, locals := 0 } [.ref (am 0 0), vI e] h (fun rv h' => rv = some (vI 0) ∧ MP D am h ((cu m 0 0 ((fu (m 0 0) 0 e)))) h') := by
  refine MX.of (cc := cX8_fails) (maxL := 2) (ret := (some .int)) [(0, .ref (am 0 0)), (1, vI e)] (by decide +kernel) rfl rfl (Nat.le_of_ble_eq_true rfl) ?_
  intro κ C hkl G
  subst hkl
  have C : CX κ "LedgeLevelsModel" "fails" cX8_fails wsX8_fails { frames := 0, cells := 0, slots := 0, locals := 0 } D A 2 := C
  have hiz : nq (D.1 20) (D.1 21) := cx_iz C
  refine x_aload_n C dX8_fails_0 0 rfl ?_
  refine x_iload_n C dX8_fails_1 1 rfl ?_
  have f1 : h (am 0 0) = some (eO 8 [vI (m 0 0 0), .ref (am 1 0), vI (m 0 0 2), .ref (am 3 0), .ref (am 4 0), .ref (am 5 0), .ref (am 6 0), .ref (am 7 0), .ref (am 8 0), .ref (am 9 0), .ref (am 10 0), .ref (am 11 0), .ref (am 12 0), .ref (am 13 0), vI (m 0 0 14), .ref (am 15 0), .ref (am 16 0), .ref (am 17 0), .ref (am 18 0), .ref (am 19 0), .ref (am 20 0), .ref (am 21 0), .ref (am 22 0), .ref (am 23 0), .ref (am 24 0), .ref (am 25 0), .ref (am 26 0), .ref (am 27 0), .ref (am 28 0), .ref (am 29 0), vI (((m 0 0 30).toNat : Nat) : Int), vI (m 0 0 31), vI (m 0 0 32), vI (((m 0 0 33).toNat : Nat) : Int), vI (m 0 0 34), .ref (am 35 0), .ref (am 36 0), .ref (am 37 0)]) := hR.1 0 0 (lm0 (by decide))
  refine x_put C f1 (T := TX8) rfl tyX8_ok nmX8 kX8_fails_1 0 (by decide) kX8_fails_0 rfl (fs' := [vI e, .ref (am 1 0), vI (m 0 0 2), .ref (am 3 0), .ref (am 4 0), .ref (am 5 0), .ref (am 6 0), .ref (am 7 0), .ref (am 8 0), .ref (am 9 0), .ref (am 10 0), .ref (am 11 0), .ref (am 12 0), .ref (am 13 0), vI (m 0 0 14), .ref (am 15 0), .ref (am 16 0), .ref (am 17 0), .ref (am 18 0), .ref (am 19 0), .ref (am 20 0), .ref (am 21 0), .ref (am 22 0), .ref (am 23 0), .ref (am 24 0), .ref (am 25 0), .ref (am 26 0), .ref (am 27 0), .ref (am 28 0), .ref (am 29 0), vI (((m 0 0 30).toNat : Nat) : Int), vI (m 0 0 31), vI (m 0 0 32), vI (((m 0 0 33).toNat : Nat) : Int), vI (m 0 0 34), .ref (am 35 0), .ref (am 36 0), .ref (am 37 0)]) rfl rfl (by simp) rfl dX8_fails_2 (x_hn (fun h2 e3 => ?_))
  have f4 : h2 (am 0 0) = some (eO 8 [vI e, .ref (am 1 0), vI (m 0 0 2), .ref (am 3 0), .ref (am 4 0), .ref (am 5 0), .ref (am 6 0), .ref (am 7 0), .ref (am 8 0), .ref (am 9 0), .ref (am 10 0), .ref (am 11 0), .ref (am 12 0), .ref (am 13 0), vI (m 0 0 14), .ref (am 15 0), .ref (am 16 0), .ref (am 17 0), .ref (am 18 0), .ref (am 19 0), .ref (am 20 0), .ref (am 21 0), .ref (am 22 0), .ref (am 23 0), .ref (am 24 0), .ref (am 25 0), .ref (am 26 0), .ref (am 27 0), .ref (am 28 0), .ref (am 29 0), vI (((m 0 0 30).toNat : Nat) : Int), vI (m 0 0 31), vI (m 0 0 32), vI (((m 0 0 33).toNat : Nat) : Int), vI (m 0 0 34), .ref (am 35 0), .ref (am 36 0), .ref (am 37 0)]) := by rw [e3]; exact hu_s
  refine x_iconst C dX8_fails_5 0 (by decide) ?_
  refine x_iret C G dX8_fails_6 ?_ (by decide) (by decide)
  have cp5 : MP D am h (cu m 0 0 ((fu (m 0 0) 0 e))) h2 := by rw [e3]; exact (MP.up (MP.rf hR) (lm0 (by decide)) ((fu (m 0 0) 0 e)) rfl)
  exact ⟨rfl, cp5⟩

set_option maxRecDepth 100000 in
set_option maxHeartbeats 1000000 in
theorem c_X8_in {l : Launch} {D : va_G} {A : Nat → Prop} {h : vh} {a b c : Int}  (hi_a : -2147483648 ≤ a ∧ a ≤ 2147483647) (hi_b : -2147483648 ≤ b ∧ b ≤ 2147483647) (hi_c : -2147483648 ≤ c ∧ c ≤ 2147483647) : MX l D A yX8_in wsX8_in { frames := 0, cells := 0, slots := 0, locals := 0 } [vI a, vI b, vI c] h (fun rv h' => rv = some (vI (bI (b ≤ a ∧ a ≤ c))) ∧ h' = h) := by
  refine MX.of (cc := cX8_in) (maxL := 3) (ret := (some .boolean)) [(0, vI a), (1, vI b), (2, vI c)] (by decide +kernel) rfl rfl (Nat.le_of_ble_eq_true rfl) ?_
  intro κ C hkl G
  subst hkl
  have C : CX κ "LedgeLevelsModel" "in" cX8_in wsX8_in { frames := 0, cells := 0, slots := 0, locals := 0 } D A 3 := C
  have hiz : nq (D.1 20) (D.1 21) := cx_iz C
  refine x_iload_n C dX8_in_0 0 rfl ?_
  refine x_iload_n C dX8_in_1 1 rfl ?_
  refine x_icmp_lt (tgt := 14) C dX8_in_2 (by decide) (by omega) (by omega) (fun c1 => ?_) (fun c1 => ?_)
  · skip
    refine x_iconst C dX8_in_14 0 (by decide) ?_
    refine x_zret C G dX8_in_15 (by first | exact Or.inl rfl | exact Or.inr rfl) ?_ (by decide) (by decide)
    refine ⟨?_, rfl⟩
    first
      | rw [bI_t (show b ≤ a ∧ a ≤ c by omega)]
      | rw [bI_f (show ¬ (b ≤ a ∧ a ≤ c) by omega)]
  · skip
    refine x_iload_n C dX8_in_5 0 rfl ?_
    refine x_iload_n C dX8_in_6 2 rfl ?_
    refine x_icmp_gt (tgt := 14) C dX8_in_7 (by decide) (by omega) (by omega) (fun c2 => ?_) (fun c2 => ?_)
    · skip
      refine x_iconst C dX8_in_14 0 (by decide) ?_
      refine x_zret C G dX8_in_15 (by first | exact Or.inl rfl | exact Or.inr rfl) ?_ (by decide) (by decide)
      refine ⟨?_, rfl⟩
      first
        | rw [bI_t (show b ≤ a ∧ a ≤ c by omega)]
        | rw [bI_f (show ¬ (b ≤ a ∧ a ≤ c) by omega)]
    · skip
      refine x_iconst C dX8_in_10 1 (by decide) ?_
      refine x_goto (tgt := 15) C dX8_in_11 (by decide) ?_
      refine x_zret C G dX8_in_15 (by first | exact Or.inl rfl | exact Or.inr rfl) ?_ (by decide) (by decide)
      refine ⟨?_, rfl⟩
      first
        | rw [bI_t (show b ≤ a ∧ a ≤ c by omega)]
        | rw [bI_f (show ¬ (b ≤ a ∧ a ≤ c) by omega)]

set_option maxRecDepth 100000 in
set_option maxHeartbeats 1000000 in
theorem c_X8_isCell {l : Launch} {D : va_G} {A : Nat → Prop} {h : vh} {a : Int}  (hi_a : -2147483648 ≤ a ∧ a ≤ 2147483647) : MX l D A yX8_isCell wsX8_isCell { frames := 1, cells := 0, slots := 0, locals := 22 } [vI a] h (fun rv h' => rv = some (vI (bI (0 ≤ a ∧ a ≤ 95))) ∧ h' = h) := by
  refine MX.of (cc := cX8_isCell) (maxL := 1) (ret := (some .boolean)) [(0, vI a)] (by decide +kernel) rfl rfl (Nat.le_of_ble_eq_true rfl) ?_
  intro κ C hkl G
  subst hkl
  have C : CX κ "LedgeLevelsModel" "isCell" cX8_isCell wsX8_isCell { frames := 1, cells := 0, slots := 0, locals := 22 } D A 1 := C
  have hiz : nq (D.1 20) (D.1 21) := cx_iz C
  refine x_iload_n C dX8_isCell_0 0 rfl ?_
  refine x_iconst C dX8_isCell_1 0 (by decide) ?_
  refine x_bipush C dX8_isCell_2 95 (by decide) ?_
  refine x_callS C (n := 3) (As := [vI a, vI 0, vI 95]) (rest := []) (c_X8_in (by omega) (by omega) (by omega)) gX8_isCell_X8_in (by decide +kernel) rfl rfl rfl (Nat.le_of_ble_eq_true rfl) ⟨by decide, by decide⟩ ⟨(by decide), (by decide)⟩ dX8_isCell_4 (fun rv1 h2 hp3 => ?_)
  obtain ⟨rfl, e4⟩ := hp3
  obtain rfl := e4.symm
  refine x_zret C G dX8_isCell_7 (bI_z _) ?_ (by decide) (by decide)
  exact ⟨rfl, rfl⟩

set_option maxRecDepth 100000 in
set_option maxHeartbeats 1000000 in
theorem c_X8_isPerson {l : Launch} {D : va_G} {A : Nat → Prop} {h : vh} {a : Int}  (hi_a : -2147483648 ≤ a ∧ a ≤ 2147483647) : MX l D A yX8_isPerson wsX8_isPerson { frames := 1, cells := 0, slots := 0, locals := 22 } [vI a] h (fun rv h' => rv = some (vI (bI (0 ≤ a ∧ a ≤ 5))) ∧ h' = h) := by
  refine MX.of (cc := cX8_isPerson) (maxL := 1) (ret := (some .boolean)) [(0, vI a)] (by decide +kernel) rfl rfl (Nat.le_of_ble_eq_true rfl) ?_
  intro κ C hkl G
  subst hkl
  have C : CX κ "LedgeLevelsModel" "isPerson" cX8_isPerson wsX8_isPerson { frames := 1, cells := 0, slots := 0, locals := 22 } D A 1 := C
  have hiz : nq (D.1 20) (D.1 21) := cx_iz C
  refine x_iload_n C dX8_isPerson_0 0 rfl ?_
  refine x_iconst C dX8_isPerson_1 0 (by decide) ?_
  refine x_iconst C dX8_isPerson_2 5 (by decide) ?_
  refine x_callS C (n := 3) (As := [vI a, vI 0, vI 5]) (rest := []) (c_X8_in (by omega) (by omega) (by omega)) gX8_isPerson_X8_in (by decide +kernel) rfl rfl rfl (Nat.le_of_ble_eq_true rfl) ⟨by decide, by decide⟩ ⟨(by decide), (by decide)⟩ dX8_isPerson_3 (fun rv1 h2 hp3 => ?_)
  obtain ⟨rfl, e4⟩ := hp3
  obtain rfl := e4.symm
  refine x_zret C G dX8_isPerson_6 (bI_z _) ?_ (by decide) (by decide)
  exact ⟨rfl, rfl⟩

theorem kX8_isLevel_0 : Cond.fieldLink "LedgeLevelsModel" 109 "LedgeLevelsModel" "levels" "I" ∈ wsX8_isLevel := by decide +kernel
theorem kX8_isLevel_1 : ∀ w ∈ wsX80, w ∈ wsX8_isLevel := by decide +kernel
set_option maxRecDepth 100000 in
set_option maxHeartbeats 1000000 in
theorem c_X8_isLevel {l : Launch} {D : va_G} {A : Nat → Prop} {h : vh} {am : AD} {m : CS} {a : Int}  (hR : RepM D am m h) (hM1 : Mk1 m) (hi_a : -2147483648 ≤ a ∧ a ≤ 2147483647) : MX l D A yX8_isLevel wsX8_isLevel { frames := 1, cells := 0, slots := 0, locals := 22 } [.ref (am 0 0), vI a] h (fun rv h' => rv = some (vI (bI (0 ≤ a ∧ a ≤ m 0 0 2 - 1))) ∧ h' = h) := by
  refine MX.of (cc := cX8_isLevel) (maxL := 2) (ret := (some .boolean)) [(0, .ref (am 0 0)), (1, vI a)] (by decide +kernel) rfl rfl (Nat.le_of_ble_eq_true rfl) ?_
  intro κ C hkl G
  subst hkl
  have C : CX κ "LedgeLevelsModel" "isLevel" cX8_isLevel wsX8_isLevel { frames := 1, cells := 0, slots := 0, locals := 22 } D A 2 := C
  have hiz : nq (D.1 20) (D.1 21) := cx_iz C
  obtain ⟨b1, b2⟩ := id hM1
  refine x_iload_n C dX8_isLevel_0 1 rfl ?_
  refine x_iconst C dX8_isLevel_1 0 (by decide) ?_
  refine x_aload_n C dX8_isLevel_2 0 rfl ?_
  have f1 : h (am 0 0) = some (eO 8 [vI (m 0 0 0), .ref (am 1 0), vI (m 0 0 2), .ref (am 3 0), .ref (am 4 0), .ref (am 5 0), .ref (am 6 0), .ref (am 7 0), .ref (am 8 0), .ref (am 9 0), .ref (am 10 0), .ref (am 11 0), .ref (am 12 0), .ref (am 13 0), vI (m 0 0 14), .ref (am 15 0), .ref (am 16 0), .ref (am 17 0), .ref (am 18 0), .ref (am 19 0), .ref (am 20 0), .ref (am 21 0), .ref (am 22 0), .ref (am 23 0), .ref (am 24 0), .ref (am 25 0), .ref (am 26 0), .ref (am 27 0), .ref (am 28 0), .ref (am 29 0), vI (((m 0 0 30).toNat : Nat) : Int), vI (m 0 0 31), vI (m 0 0 32), vI (((m 0 0 33).toNat : Nat) : Int), vI (m 0 0 34), .ref (am 35 0), .ref (am 36 0), .ref (am 37 0)]) := hR.1 0 0 (lm0 (by decide))
  refine x_get C (v := vI (m 0 0 2)) f1 (T := TX8) rfl kX8_isLevel_1 2 (by decide) kX8_isLevel_0 rfl dX8_isLevel_3 ?_
  refine x_iconst C dX8_isLevel_6 1 (by decide) ?_
  refine x_isub C dX8_isLevel_7 ?_
  refine x_callS C (n := 3) (As := [vI a, vI 0, vI ((m 0 0 2) - 1)]) (rest := []) (c_X8_in (by omega) (by omega) (by omega)) gX8_isLevel_X8_in (by decide +kernel) rfl rfl rfl (Nat.le_of_ble_eq_true rfl) ⟨by decide, by decide⟩ ⟨(by decide), (by decide)⟩ dX8_isLevel_8 (fun rv2 h3 hp4 => ?_)
  obtain ⟨rfl, e5⟩ := hp4
  obtain rfl := e5.symm
  refine x_zret C G dX8_isLevel_11 (bI_z _) ?_ (by decide) (by decide)
  exact ⟨rfl, rfl⟩

theorem kX8_isWork_0 : Cond.fieldLink "LedgeLevelsModel" 112 "LedgeLevelsModel" "works" "I" ∈ wsX8_isWork := by decide +kernel
theorem kX8_isWork_1 : ∀ w ∈ wsX80, w ∈ wsX8_isWork := by decide +kernel
set_option maxRecDepth 100000 in
set_option maxHeartbeats 1000000 in
theorem c_X8_isWork {l : Launch} {D : va_G} {A : Nat → Prop} {h : vh} {am : AD} {m : CS} {a : Int}  (hR : RepM D am m h) (hM1 : Mk1 m) (hi_a : -2147483648 ≤ a ∧ a ≤ 2147483647) : MX l D A yX8_isWork wsX8_isWork { frames := 1, cells := 0, slots := 0, locals := 22 } [.ref (am 0 0), vI a] h (fun rv h' => rv = some (vI (bI (0 ≤ a ∧ a ≤ m 0 0 14 - 1))) ∧ h' = h) := by
  refine MX.of (cc := cX8_isWork) (maxL := 2) (ret := (some .boolean)) [(0, .ref (am 0 0)), (1, vI a)] (by decide +kernel) rfl rfl (Nat.le_of_ble_eq_true rfl) ?_
  intro κ C hkl G
  subst hkl
  have C : CX κ "LedgeLevelsModel" "isWork" cX8_isWork wsX8_isWork { frames := 1, cells := 0, slots := 0, locals := 22 } D A 2 := C
  have hiz : nq (D.1 20) (D.1 21) := cx_iz C
  obtain ⟨b1, b2⟩ := id hM1
  refine x_iload_n C dX8_isWork_0 1 rfl ?_
  refine x_iconst C dX8_isWork_1 0 (by decide) ?_
  refine x_aload_n C dX8_isWork_2 0 rfl ?_
  have f1 : h (am 0 0) = some (eO 8 [vI (m 0 0 0), .ref (am 1 0), vI (m 0 0 2), .ref (am 3 0), .ref (am 4 0), .ref (am 5 0), .ref (am 6 0), .ref (am 7 0), .ref (am 8 0), .ref (am 9 0), .ref (am 10 0), .ref (am 11 0), .ref (am 12 0), .ref (am 13 0), vI (m 0 0 14), .ref (am 15 0), .ref (am 16 0), .ref (am 17 0), .ref (am 18 0), .ref (am 19 0), .ref (am 20 0), .ref (am 21 0), .ref (am 22 0), .ref (am 23 0), .ref (am 24 0), .ref (am 25 0), .ref (am 26 0), .ref (am 27 0), .ref (am 28 0), .ref (am 29 0), vI (((m 0 0 30).toNat : Nat) : Int), vI (m 0 0 31), vI (m 0 0 32), vI (((m 0 0 33).toNat : Nat) : Int), vI (m 0 0 34), .ref (am 35 0), .ref (am 36 0), .ref (am 37 0)]) := hR.1 0 0 (lm0 (by decide))
  refine x_get C (v := vI (m 0 0 14)) f1 (T := TX8) rfl kX8_isWork_1 14 (by decide) kX8_isWork_0 rfl dX8_isWork_3 ?_
  refine x_iconst C dX8_isWork_6 1 (by decide) ?_
  refine x_isub C dX8_isWork_7 ?_
  refine x_callS C (n := 3) (As := [vI a, vI 0, vI ((m 0 0 14) - 1)]) (rest := []) (c_X8_in (by omega) (by omega) (by omega)) gX8_isWork_X8_in (by decide +kernel) rfl rfl rfl (Nat.le_of_ble_eq_true rfl) ⟨by decide, by decide⟩ ⟨(by decide), (by decide)⟩ dX8_isWork_8 (fun rv2 h3 hp4 => ?_)
  obtain ⟨rfl, e5⟩ := hp4
  obtain rfl := e5.symm
  refine x_zret C G dX8_isWork_11 (bI_z _) ?_ (by decide) (by decide)
  exact ⟨rfl, rfl⟩

theorem kX8_thrown_0 : Cond.fieldLink "LedgeLevelsModel" 101 "LedgeLevelsModel" "thrown" "I" ∈ wsX8_thrown := by decide +kernel
theorem kX8_thrown_1 : ∀ w ∈ wsX80, w ∈ wsX8_thrown := by decide +kernel
set_option maxRecDepth 100000 in
set_option maxHeartbeats 1000000 in
theorem c_X8_thrown {l : Launch} {D : va_G} {A : Nat → Prop} {h : vh} {am : AD} {m : CS}  (hR : RepM D am m h) : MX l D A yX8_thrown wsX8_thrown { frames := 0, cells := 0, slots := 0, locals := 0 } [.ref (am 0 0)] h (fun rv h' => rv = some (vI (m 0 0 0)) ∧ h' = h) := by
  refine MX.of (cc := cX8_thrown) (maxL := 1) (ret := (some .int)) [(0, .ref (am 0 0))] (by decide +kernel) rfl rfl (Nat.le_of_ble_eq_true rfl) ?_
  intro κ C hkl G
  subst hkl
  have C : CX κ "LedgeLevelsModel" "thrown" cX8_thrown wsX8_thrown { frames := 0, cells := 0, slots := 0, locals := 0 } D A 1 := C
  have hiz : nq (D.1 20) (D.1 21) := cx_iz C
  refine x_aload_n C dX8_thrown_0 0 rfl ?_
  have f1 : h (am 0 0) = some (eO 8 [vI (m 0 0 0), .ref (am 1 0), vI (m 0 0 2), .ref (am 3 0), .ref (am 4 0), .ref (am 5 0), .ref (am 6 0), .ref (am 7 0), .ref (am 8 0), .ref (am 9 0), .ref (am 10 0), .ref (am 11 0), .ref (am 12 0), .ref (am 13 0), vI (m 0 0 14), .ref (am 15 0), .ref (am 16 0), .ref (am 17 0), .ref (am 18 0), .ref (am 19 0), .ref (am 20 0), .ref (am 21 0), .ref (am 22 0), .ref (am 23 0), .ref (am 24 0), .ref (am 25 0), .ref (am 26 0), .ref (am 27 0), .ref (am 28 0), .ref (am 29 0), vI (((m 0 0 30).toNat : Nat) : Int), vI (m 0 0 31), vI (m 0 0 32), vI (((m 0 0 33).toNat : Nat) : Int), vI (m 0 0 34), .ref (am 35 0), .ref (am 36 0), .ref (am 37 0)]) := hR.1 0 0 (lm0 (by decide))
  refine x_get C (v := vI (m 0 0 0)) f1 (T := TX8) rfl kX8_thrown_1 0 (by decide) kX8_thrown_0 rfl dX8_thrown_1 ?_
  refine x_iret C G dX8_thrown_4 ?_ (by decide) (by decide)
  exact ⟨rfl, rfl⟩


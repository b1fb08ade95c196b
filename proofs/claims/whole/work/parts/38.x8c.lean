/-- the body that the reference moves -/
def bdM (m : CS) (x : Int × Nat × Int) : CS := cu m 0 0 (fu (fu (fu (m 0 0) 31 x.1) 33 ((x.2.1 : Nat) : Int)) 34 x.2.2)
def KBm (m : CS) : Int → Nat := fun p => (m 29 0 p.toNat).toNat
theorem bdM_in {m : CS} {f : Nat → Int} {B : Int → Nat} {p : Int} {x : Int × Nat × Int} (hp : 0 ≤ p ∧ p < 96) : bdM m (cm f B p x) = cu m 0 0 (fu (fu (fu (m 0 0) 31 p) 33 ((x.2.1 ||| B p : Nat) : Int)) 34 (if f p.toNat = 4 then 3 else if f p.toNat = 5 then 2 else x.2.2)) := by
  unfold bdM cm
  rw [if_pos hp]
theorem bdM_out {m : CS} {f : Nat → Int} {B : Int → Nat} {p : Int} (hp : ¬ (0 ≤ p ∧ p < 96)) (ht : 0 ≤ m 0 0 33) : bdM m (cm f B p (m 0 0 31, (m 0 0 33).toNat, 1)) = cu m 0 0 (fu (m 0 0) 34 3) := by
  unfold bdM cm
  rw [if_neg hp]
  have e : fu (fu (m 0 0) 31 (m 0 0 31)) 33 (((m 0 0 33).toNat : Nat) : Int) = m 0 0 := by
    funext j
    unfold fu
    by_cases q : j = 33
    · rw [if_pos q, q]; omega
    · rw [if_neg q]
      by_cases r : j = 31
      · rw [if_pos r, r]
      · rw [if_neg r]
  show cu m 0 0 (fu (fu (fu (m 0 0) 31 (m 0 0 31)) 33 (((m 0 0 33).toNat : Nat) : Int)) 34 3) = _
  rw [e]

theorem kX8_comes_0 : Cond.fieldLink "LedgeLevelsModel" 124 "LedgeLevelsModel" "cell" "I" ∈ wsX8_comes := by decide +kernel
theorem kX8_comes_1 : ∀ w ∈ wsX80, w ∈ wsX8_comes := by decide +kernel
theorem kX8_comes_2 : Cond.fieldLink "LedgeLevelsModel" 118 "LedgeLevelsModel" "taken" "I" ∈ wsX8_comes := by decide +kernel
theorem kX8_comes_3 : Cond.fieldLink "LedgeLevelsModel" 88 "LedgeLevelsModel" "keyBit" "[I" ∈ wsX8_comes := by decide +kernel
theorem kX8_comes_4 : Cond.fieldLink "LedgeLevelsModel" 85 "LedgeLevelsModel" "ground" "[I" ∈ wsX8_comes := by decide +kernel
theorem kX8_comes_5 : Cond.fieldLink "LedgeLevelsModel" 121 "LedgeLevelsModel" "state" "I" ∈ wsX8_comes := by decide +kernel
set_option maxRecDepth 100000 in
set_option maxHeartbeats 1000000 in
theorem c_X8_comes {l : Launch} {D : va_G} {A : Nat → Prop} {h : vh} {am : AD} {m : CS} {x y : Int}  (hR : RepM D am m h) (hx : 0 ≤ x ∧ x ≤ 11) (hy : 0 ≤ y ∧ y ≤ 8) (hG : ∀ j, 0 ≤ m 28 0 j ∧ m 28 0 j ≤ 8) (hKB : ∀ j, 0 ≤ m 29 0 j ∧ m 29 0 j ≤ 7) (ht : 0 ≤ m 0 0 33 ∧ m 0 0 33 < 8) : MX l D A yX8_comes wsX8_comes { frames := 0, cells := 0, slots := 0, locals := 0 } [.ref (am 0 0), vI x, vI y] h (fun rv h' => rv = none ∧ MP D am h (bdM m (cm (m 28 0) (KBm m) (12 * y + x) (m 0 0 31, (m 0 0 33).toNat, 1))) h') := by
  refine MX.of (cc := cX8_comes) (maxL := 3) (ret := none) [(0, .ref (am 0 0)), (1, vI x), (2, vI y)] (by decide +kernel) rfl rfl (Nat.le_of_ble_eq_true rfl) ?_
  intro κ C hkl G
  subst hkl
  have C : CX κ "LedgeLevelsModel" "comes" cX8_comes wsX8_comes { frames := 0, cells := 0, slots := 0, locals := 0 } D A 3 := C
  have hiz : nq (D.1 20) (D.1 21) := cx_iz C
  refine x_iload_n C dX8_comes_0 2 rfl ?_
  refine x_bipush C dX8_comes_1 7 (by decide) ?_
  refine x_icmp_le (tgt := 12) C dX8_comes_3 (by decide) (by omega) (by omega) (fun c1 => ?_) (fun c1 => ?_)
  · skip
    refine x_aload_n C dX8_comes_12 0 rfl ?_
    refine x_bipush C dX8_comes_13 12 (by decide) ?_
    refine x_iload_n C dX8_comes_15 2 rfl ?_
    refine x_imul C dX8_comes_16 ?_
    refine x_iload_n C dX8_comes_17 1 rfl ?_
    refine x_iadd C dX8_comes_18 ?_
    have f2 : h (am 0 0) = some (eO 8 [vI (m 0 0 0), .ref (am 1 0), vI (m 0 0 2), .ref (am 3 0), .ref (am 4 0), .ref (am 5 0), .ref (am 6 0), .ref (am 7 0), .ref (am 8 0), .ref (am 9 0), .ref (am 10 0), .ref (am 11 0), .ref (am 12 0), .ref (am 13 0), vI (m 0 0 14), .ref (am 15 0), .ref (am 16 0), .ref (am 17 0), .ref (am 18 0), .ref (am 19 0), .ref (am 20 0), .ref (am 21 0), .ref (am 22 0), .ref (am 23 0), .ref (am 24 0), .ref (am 25 0), .ref (am 26 0), .ref (am 27 0), .ref (am 28 0), .ref (am 29 0), vI (((m 0 0 30).toNat : Nat) : Int), vI (m 0 0 31), vI (m 0 0 32), vI (((m 0 0 33).toNat : Nat) : Int), vI (m 0 0 34), .ref (am 35 0), .ref (am 36 0), .ref (am 37 0)]) := hR.1 0 0 (lm0 (by decide))
    refine x_put C f2 (T := TX8) rfl tyX8_ok nmX8 kX8_comes_1 31 (by decide) kX8_comes_0 rfl (fs' := [vI (m 0 0 0), .ref (am 1 0), vI (m 0 0 2), .ref (am 3 0), .ref (am 4 0), .ref (am 5 0), .ref (am 6 0), .ref (am 7 0), .ref (am 8 0), .ref (am 9 0), .ref (am 10 0), .ref (am 11 0), .ref (am 12 0), .ref (am 13 0), vI (m 0 0 14), .ref (am 15 0), .ref (am 16 0), .ref (am 17 0), .ref (am 18 0), .ref (am 19 0), .ref (am 20 0), .ref (am 21 0), .ref (am 22 0), .ref (am 23 0), .ref (am 24 0), .ref (am 25 0), .ref (am 26 0), .ref (am 27 0), .ref (am 28 0), .ref (am 29 0), vI (((m 0 0 30).toNat : Nat) : Int), vI ((12 * y) + x), vI (m 0 0 32), vI (((m 0 0 33).toNat : Nat) : Int), vI (m 0 0 34), .ref (am 35 0), .ref (am 36 0), .ref (am 37 0)]) rfl rfl (by simp) rfl dX8_comes_19 (x_hn (fun h3 e4 => ?_))
    have f5 : h3 (am 0 0) = some (eO 8 [vI (m 0 0 0), .ref (am 1 0), vI (m 0 0 2), .ref (am 3 0), .ref (am 4 0), .ref (am 5 0), .ref (am 6 0), .ref (am 7 0), .ref (am 8 0), .ref (am 9 0), .ref (am 10 0), .ref (am 11 0), .ref (am 12 0), .ref (am 13 0), vI (m 0 0 14), .ref (am 15 0), .ref (am 16 0), .ref (am 17 0), .ref (am 18 0), .ref (am 19 0), .ref (am 20 0), .ref (am 21 0), .ref (am 22 0), .ref (am 23 0), .ref (am 24 0), .ref (am 25 0), .ref (am 26 0), .ref (am 27 0), .ref (am 28 0), .ref (am 29 0), vI (((m 0 0 30).toNat : Nat) : Int), vI ((12 * y) + x), vI (m 0 0 32), vI (((m 0 0 33).toNat : Nat) : Int), vI (m 0 0 34), .ref (am 35 0), .ref (am 36 0), .ref (am 37 0)]) := by rw [e4]; exact hu_s
    refine x_aload_n C dX8_comes_22 0 rfl ?_
    refine x_dup C dX8_comes_23 rfl ?_
    refine x_get C (v := vI (((m 0 0 33).toNat : Nat) : Int)) f5 (T := TX8) rfl kX8_comes_1 33 (by decide) kX8_comes_2 rfl dX8_comes_24 ?_
    refine x_aload_n C dX8_comes_27 0 rfl ?_
    refine x_get C (v := .ref (am 29 0)) f5 (T := TX8) rfl kX8_comes_1 29 (by decide) kX8_comes_3 rfl dX8_comes_28 ?_
    refine x_aload_n C dX8_comes_31 0 rfl ?_
    refine x_get C (v := vI ((12 * y) + x)) f5 (T := TX8) rfl kX8_comes_1 31 (by decide) kX8_comes_0 rfl dX8_comes_32 ?_
    have f6 : h (am 29 0) = some (eI D 96 (m 29 0)) := hR.1 29 0 (lm0 (by decide))
    have f7 : h3 (am 29 0) = some (eI D 96 (m 29 0)) := by rw [e4, hu_n (hR.ne (lm0 (by decide)) (lm0 (by decide)) (fun zz9 => absurd zz9.1 (by decide)))]; exact f6
    refine x_iald C f7 ⟨by omega, by omega⟩ (by decide) dX8_comes_35 ?_
    have r8 := hKB (Int.toNat ((12 * y) + x))
    refine x_topv (show (m 29 0) (Int.toNat ((12 * y) + x)) = (((m 29 0 (Int.toNat (12 * y + x))).toNat : Nat) : Int) from by have := hKB (Int.toNat (12 * y + x)); omega) ?_
    refine x_iorv C (((((m 0 0 33).toNat) ||| ((m 29 0 (Int.toNat (12 * y + x))).toNat) : Nat) : Int)) (iI_or ((m 0 0 33).toNat) ((m 29 0 (Int.toNat (12 * y + x))).toNat)) dX8_comes_36 ?_
    refine x_put C f5 (T := TX8) rfl tyX8_ok nmX8 kX8_comes_1 33 (by decide) kX8_comes_2 rfl (fs' := [vI (m 0 0 0), .ref (am 1 0), vI (m 0 0 2), .ref (am 3 0), .ref (am 4 0), .ref (am 5 0), .ref (am 6 0), .ref (am 7 0), .ref (am 8 0), .ref (am 9 0), .ref (am 10 0), .ref (am 11 0), .ref (am 12 0), .ref (am 13 0), vI (m 0 0 14), .ref (am 15 0), .ref (am 16 0), .ref (am 17 0), .ref (am 18 0), .ref (am 19 0), .ref (am 20 0), .ref (am 21 0), .ref (am 22 0), .ref (am 23 0), .ref (am 24 0), .ref (am 25 0), .ref (am 26 0), .ref (am 27 0), .ref (am 28 0), .ref (am 29 0), vI (((m 0 0 30).toNat : Nat) : Int), vI ((12 * y) + x), vI (m 0 0 32), vI ((((m 0 0 33).toNat) ||| ((m 29 0 (Int.toNat (12 * y + x))).toNat) : Nat) : Int), vI (m 0 0 34), .ref (am 35 0), .ref (am 36 0), .ref (am 37 0)]) rfl rfl (by simp) rfl dX8_comes_37 (x_hn (fun h9 e10 => ?_))
    have f11 : h9 (am 0 0) = some (eO 8 [vI (m 0 0 0), .ref (am 1 0), vI (m 0 0 2), .ref (am 3 0), .ref (am 4 0), .ref (am 5 0), .ref (am 6 0), .ref (am 7 0), .ref (am 8 0), .ref (am 9 0), .ref (am 10 0), .ref (am 11 0), .ref (am 12 0), .ref (am 13 0), vI (m 0 0 14), .ref (am 15 0), .ref (am 16 0), .ref (am 17 0), .ref (am 18 0), .ref (am 19 0), .ref (am 20 0), .ref (am 21 0), .ref (am 22 0), .ref (am 23 0), .ref (am 24 0), .ref (am 25 0), .ref (am 26 0), .ref (am 27 0), .ref (am 28 0), .ref (am 29 0), vI (((m 0 0 30).toNat : Nat) : Int), vI ((12 * y) + x), vI (m 0 0 32), vI ((((m 0 0 33).toNat) ||| ((m 29 0 (Int.toNat (12 * y + x))).toNat) : Nat) : Int), vI (m 0 0 34), .ref (am 35 0), .ref (am 36 0), .ref (am 37 0)]) := by rw [e10]; exact hu_s
    refine x_aload_n C dX8_comes_40 0 rfl ?_
    refine x_aload_n C dX8_comes_41 0 rfl ?_
    refine x_get C (v := .ref (am 28 0)) f11 (T := TX8) rfl kX8_comes_1 28 (by decide) kX8_comes_4 rfl dX8_comes_42 ?_
    refine x_aload_n C dX8_comes_45 0 rfl ?_
    refine x_get C (v := vI ((12 * y) + x)) f11 (T := TX8) rfl kX8_comes_1 31 (by decide) kX8_comes_0 rfl dX8_comes_46 ?_
    have f12 : h (am 28 0) = some (eI D 96 (m 28 0)) := hR.1 28 0 (lm0 (by decide))
    have f13 : h3 (am 28 0) = some (eI D 96 (m 28 0)) := by rw [e4, hu_n (hR.ne (lm0 (by decide)) (lm0 (by decide)) (fun zz9 => absurd zz9.1 (by decide)))]; exact f12
    have f14 : h9 (am 28 0) = some (eI D 96 (m 28 0)) := by rw [e10, hu_n (hR.ne (lm0 (by decide)) (lm0 (by decide)) (fun zz9 => absurd zz9.1 (by decide)))]; exact f13
    refine x_iald C f14 ⟨by omega, by omega⟩ (by decide) dX8_comes_49 ?_
    have r15 := hG (Int.toNat ((12 * y) + x))
    refine x_iconst C dX8_comes_50 4 (by decide) ?_
    refine x_icmp_ne (tgt := 58) C dX8_comes_51 (by decide) (by omega) (by omega) (fun c16 => ?_) (fun c16 => ?_)
    · skip
      refine x_aload_n C dX8_comes_58 0 rfl ?_
      refine x_get C (v := .ref (am 28 0)) f11 (T := TX8) rfl kX8_comes_1 28 (by decide) kX8_comes_4 rfl dX8_comes_59 ?_
      refine x_aload_n C dX8_comes_62 0 rfl ?_
      refine x_get C (v := vI ((12 * y) + x)) f11 (T := TX8) rfl kX8_comes_1 31 (by decide) kX8_comes_0 rfl dX8_comes_63 ?_
      refine x_iald C f14 ⟨by omega, by omega⟩ (by decide) dX8_comes_66 ?_
      have r17 := hG (Int.toNat ((12 * y) + x))
      refine x_iconst C dX8_comes_67 5 (by decide) ?_
      refine x_icmp_ne (tgt := 75) C dX8_comes_68 (by decide) (by omega) (by omega) (fun c18 => ?_) (fun c18 => ?_)
      · skip
        refine x_iconst C dX8_comes_75 1 (by decide) ?_
        refine x_put C f11 (T := TX8) rfl tyX8_ok nmX8 kX8_comes_1 34 (by decide) kX8_comes_5 rfl (fs' := [vI (m 0 0 0), .ref (am 1 0), vI (m 0 0 2), .ref (am 3 0), .ref (am 4 0), .ref (am 5 0), .ref (am 6 0), .ref (am 7 0), .ref (am 8 0), .ref (am 9 0), .ref (am 10 0), .ref (am 11 0), .ref (am 12 0), .ref (am 13 0), vI (m 0 0 14), .ref (am 15 0), .ref (am 16 0), .ref (am 17 0), .ref (am 18 0), .ref (am 19 0), .ref (am 20 0), .ref (am 21 0), .ref (am 22 0), .ref (am 23 0), .ref (am 24 0), .ref (am 25 0), .ref (am 26 0), .ref (am 27 0), .ref (am 28 0), .ref (am 29 0), vI (((m 0 0 30).toNat : Nat) : Int), vI ((12 * y) + x), vI (m 0 0 32), vI ((((m 0 0 33).toNat) ||| ((m 29 0 (Int.toNat (12 * y + x))).toNat) : Nat) : Int), vI 1, .ref (am 35 0), .ref (am 36 0), .ref (am 37 0)]) rfl rfl (by simp) rfl dX8_comes_76 (x_hn (fun h19 e20 => ?_))
        have f21 : h19 (am 0 0) = some (eO 8 [vI (m 0 0 0), .ref (am 1 0), vI (m 0 0 2), .ref (am 3 0), .ref (am 4 0), .ref (am 5 0), .ref (am 6 0), .ref (am 7 0), .ref (am 8 0), .ref (am 9 0), .ref (am 10 0), .ref (am 11 0), .ref (am 12 0), .ref (am 13 0), vI (m 0 0 14), .ref (am 15 0), .ref (am 16 0), .ref (am 17 0), .ref (am 18 0), .ref (am 19 0), .ref (am 20 0), .ref (am 21 0), .ref (am 22 0), .ref (am 23 0), .ref (am 24 0), .ref (am 25 0), .ref (am 26 0), .ref (am 27 0), .ref (am 28 0), .ref (am 29 0), vI (((m 0 0 30).toNat : Nat) : Int), vI ((12 * y) + x), vI (m 0 0 32), vI ((((m 0 0 33).toNat) ||| ((m 29 0 (Int.toNat (12 * y + x))).toNat) : Nat) : Int), vI 1, .ref (am 35 0), .ref (am 36 0), .ref (am 37 0)]) := by rw [e20]; exact hu_s
        refine x_vret C G dX8_comes_79 ?_ (by decide) (by decide)
        have cp22 : MP D am h (cu m 0 0 ((fu (fu (fu (m 0 0) 31 ((12 * y) + x)) 33 ((((m 0 0 33).toNat) ||| ((m 29 0 (Int.toNat (12 * y + x))).toNat) : Nat) : Int)) 34 1))) h19 := by rw [e20, e10, e4]; simp only [hu_u]; exact (MP.up (MP.rf hR) (lm0 (by decide)) ((fu (fu (fu (m 0 0) 31 ((12 * y) + x)) 33 ((((m 0 0 33).toNat) ||| ((m 29 0 (Int.toNat (12 * y + x))).toNat) : Nat) : Int)) 34 1)) rfl)
        refine ⟨rfl, ?_⟩
        rw [bdM_in (by omega)]
        have q9 := cp22
        first
          | (rw [if_pos (by assumption)]; exact q9)
          | (rw [if_neg (by assumption), if_pos (by assumption)]; exact q9)
          | (rw [if_neg (by assumption), if_neg (by assumption)]; exact q9)
      · skip
        refine x_iconst C dX8_comes_71 2 (by decide) ?_
        refine x_goto (tgt := 76) C dX8_comes_72 (by decide) ?_
        refine x_put C f11 (T := TX8) rfl tyX8_ok nmX8 kX8_comes_1 34 (by decide) kX8_comes_5 rfl (fs' := [vI (m 0 0 0), .ref (am 1 0), vI (m 0 0 2), .ref (am 3 0), .ref (am 4 0), .ref (am 5 0), .ref (am 6 0), .ref (am 7 0), .ref (am 8 0), .ref (am 9 0), .ref (am 10 0), .ref (am 11 0), .ref (am 12 0), .ref (am 13 0), vI (m 0 0 14), .ref (am 15 0), .ref (am 16 0), .ref (am 17 0), .ref (am 18 0), .ref (am 19 0), .ref (am 20 0), .ref (am 21 0), .ref (am 22 0), .ref (am 23 0), .ref (am 24 0), .ref (am 25 0), .ref (am 26 0), .ref (am 27 0), .ref (am 28 0), .ref (am 29 0), vI (((m 0 0 30).toNat : Nat) : Int), vI ((12 * y) + x), vI (m 0 0 32), vI ((((m 0 0 33).toNat) ||| ((m 29 0 (Int.toNat (12 * y + x))).toNat) : Nat) : Int), vI 2, .ref (am 35 0), .ref (am 36 0), .ref (am 37 0)]) rfl rfl (by simp) rfl dX8_comes_76 (x_hn (fun h23 e24 => ?_))
        have f25 : h23 (am 0 0) = some (eO 8 [vI (m 0 0 0), .ref (am 1 0), vI (m 0 0 2), .ref (am 3 0), .ref (am 4 0), .ref (am 5 0), .ref (am 6 0), .ref (am 7 0), .ref (am 8 0), .ref (am 9 0), .ref (am 10 0), .ref (am 11 0), .ref (am 12 0), .ref (am 13 0), vI (m 0 0 14), .ref (am 15 0), .ref (am 16 0), .ref (am 17 0), .ref (am 18 0), .ref (am 19 0), .ref (am 20 0), .ref (am 21 0), .ref (am 22 0), .ref (am 23 0), .ref (am 24 0), .ref (am 25 0), .ref (am 26 0), .ref (am 27 0), .ref (am 28 0), .ref (am 29 0), vI (((m 0 0 30).toNat : Nat) : Int), vI ((12 * y) + x), vI (m 0 0 32), vI ((((m 0 0 33).toNat) ||| ((m 29 0 (Int.toNat (12 * y + x))).toNat) : Nat) : Int), vI 2, .ref (am 35 0), .ref (am 36 0), .ref (am 37 0)]) := by rw [e24]; exact hu_s
        refine x_vret C G dX8_comes_79 ?_ (by decide) (by decide)
        have cp26 : MP D am h (cu m 0 0 ((fu (fu (fu (m 0 0) 31 ((12 * y) + x)) 33 ((((m 0 0 33).toNat) ||| ((m 29 0 (Int.toNat (12 * y + x))).toNat) : Nat) : Int)) 34 2))) h23 := by rw [e24, e10, e4]; simp only [hu_u]; exact (MP.up (MP.rf hR) (lm0 (by decide)) ((fu (fu (fu (m 0 0) 31 ((12 * y) + x)) 33 ((((m 0 0 33).toNat) ||| ((m 29 0 (Int.toNat (12 * y + x))).toNat) : Nat) : Int)) 34 2)) rfl)
        refine ⟨rfl, ?_⟩
        rw [bdM_in (by omega)]
        have q9 := cp26
        first
          | (rw [if_pos (by assumption)]; exact q9)
          | (rw [if_neg (by assumption), if_pos (by assumption)]; exact q9)
          | (rw [if_neg (by assumption), if_neg (by assumption)]; exact q9)
    · skip
      refine x_iconst C dX8_comes_54 3 (by decide) ?_
      refine x_goto (tgt := 76) C dX8_comes_55 (by decide) ?_
      refine x_put C f11 (T := TX8) rfl tyX8_ok nmX8 kX8_comes_1 34 (by decide) kX8_comes_5 rfl (fs' := [vI (m 0 0 0), .ref (am 1 0), vI (m 0 0 2), .ref (am 3 0), .ref (am 4 0), .ref (am 5 0), .ref (am 6 0), .ref (am 7 0), .ref (am 8 0), .ref (am 9 0), .ref (am 10 0), .ref (am 11 0), .ref (am 12 0), .ref (am 13 0), vI (m 0 0 14), .ref (am 15 0), .ref (am 16 0), .ref (am 17 0), .ref (am 18 0), .ref (am 19 0), .ref (am 20 0), .ref (am 21 0), .ref (am 22 0), .ref (am 23 0), .ref (am 24 0), .ref (am 25 0), .ref (am 26 0), .ref (am 27 0), .ref (am 28 0), .ref (am 29 0), vI (((m 0 0 30).toNat : Nat) : Int), vI ((12 * y) + x), vI (m 0 0 32), vI ((((m 0 0 33).toNat) ||| ((m 29 0 (Int.toNat (12 * y + x))).toNat) : Nat) : Int), vI 3, .ref (am 35 0), .ref (am 36 0), .ref (am 37 0)]) rfl rfl (by simp) rfl dX8_comes_76 (x_hn (fun h27 e28 => ?_))
      have f29 : h27 (am 0 0) = some (eO 8 [vI (m 0 0 0), .ref (am 1 0), vI (m 0 0 2), .ref (am 3 0), .ref (am 4 0), .ref (am 5 0), .ref (am 6 0), .ref (am 7 0), .ref (am 8 0), .ref (am 9 0), .ref (am 10 0), .ref (am 11 0), .ref (am 12 0), .ref (am 13 0), vI (m 0 0 14), .ref (am 15 0), .ref (am 16 0), .ref (am 17 0), .ref (am 18 0), .ref (am 19 0), .ref (am 20 0), .ref (am 21 0), .ref (am 22 0), .ref (am 23 0), .ref (am 24 0), .ref (am 25 0), .ref (am 26 0), .ref (am 27 0), .ref (am 28 0), .ref (am 29 0), vI (((m 0 0 30).toNat : Nat) : Int), vI ((12 * y) + x), vI (m 0 0 32), vI ((((m 0 0 33).toNat) ||| ((m 29 0 (Int.toNat (12 * y + x))).toNat) : Nat) : Int), vI 3, .ref (am 35 0), .ref (am 36 0), .ref (am 37 0)]) := by rw [e28]; exact hu_s
      refine x_vret C G dX8_comes_79 ?_ (by decide) (by decide)
      have cp30 : MP D am h (cu m 0 0 ((fu (fu (fu (m 0 0) 31 ((12 * y) + x)) 33 ((((m 0 0 33).toNat) ||| ((m 29 0 (Int.toNat (12 * y + x))).toNat) : Nat) : Int)) 34 3))) h27 := by rw [e28, e10, e4]; simp only [hu_u]; exact (MP.up (MP.rf hR) (lm0 (by decide)) ((fu (fu (fu (m 0 0) 31 ((12 * y) + x)) 33 ((((m 0 0 33).toNat) ||| ((m 29 0 (Int.toNat (12 * y + x))).toNat) : Nat) : Int)) 34 3)) rfl)
      refine ⟨rfl, ?_⟩
      rw [bdM_in (by omega)]
      have q9 := cp30
      first
        | (rw [if_pos (by assumption)]; exact q9)
        | (rw [if_neg (by assumption), if_pos (by assumption)]; exact q9)
        | (rw [if_neg (by assumption), if_neg (by assumption)]; exact q9)
  · skip
    refine x_aload_n C dX8_comes_6 0 rfl ?_
    refine x_iconst C dX8_comes_7 3 (by decide) ?_
    have f31 : h (am 0 0) = some (eO 8 [vI (m 0 0 0), .ref (am 1 0), vI (m 0 0 2), .ref (am 3 0), .ref (am 4 0), .ref (am 5 0), .ref (am 6 0), .ref (am 7 0), .ref (am 8 0), .ref (am 9 0), .ref (am 10 0), .ref (am 11 0), .ref (am 12 0), .ref (am 13 0), vI (m 0 0 14), .ref (am 15 0), .ref (am 16 0), .ref (am 17 0), .ref (am 18 0), .ref (am 19 0), .ref (am 20 0), .ref (am 21 0), .ref (am 22 0), .ref (am 23 0), .ref (am 24 0), .ref (am 25 0), .ref (am 26 0), .ref (am 27 0), .ref (am 28 0), .ref (am 29 0), vI (((m 0 0 30).toNat : Nat) : Int), vI (m 0 0 31), vI (m 0 0 32), vI (((m 0 0 33).toNat : Nat) : Int), vI (m 0 0 34), .ref (am 35 0), .ref (am 36 0), .ref (am 37 0)]) := hR.1 0 0 (lm0 (by decide))
    refine x_put C f31 (T := TX8) rfl tyX8_ok nmX8 kX8_comes_1 34 (by decide) kX8_comes_5 rfl (fs' := [vI (m 0 0 0), .ref (am 1 0), vI (m 0 0 2), .ref (am 3 0), .ref (am 4 0), .ref (am 5 0), .ref (am 6 0), .ref (am 7 0), .ref (am 8 0), .ref (am 9 0), .ref (am 10 0), .ref (am 11 0), .ref (am 12 0), .ref (am 13 0), vI (m 0 0 14), .ref (am 15 0), .ref (am 16 0), .ref (am 17 0), .ref (am 18 0), .ref (am 19 0), .ref (am 20 0), .ref (am 21 0), .ref (am 22 0), .ref (am 23 0), .ref (am 24 0), .ref (am 25 0), .ref (am 26 0), .ref (am 27 0), .ref (am 28 0), .ref (am 29 0), vI (((m 0 0 30).toNat : Nat) : Int), vI (m 0 0 31), vI (m 0 0 32), vI (((m 0 0 33).toNat : Nat) : Int), vI 3, .ref (am 35 0), .ref (am 36 0), .ref (am 37 0)]) rfl rfl (by simp) rfl dX8_comes_8 (x_hn (fun h32 e33 => ?_))
    have f34 : h32 (am 0 0) = some (eO 8 [vI (m 0 0 0), .ref (am 1 0), vI (m 0 0 2), .ref (am 3 0), .ref (am 4 0), .ref (am 5 0), .ref (am 6 0), .ref (am 7 0), .ref (am 8 0), .ref (am 9 0), .ref (am 10 0), .ref (am 11 0), .ref (am 12 0), .ref (am 13 0), vI (m 0 0 14), .ref (am 15 0), .ref (am 16 0), .ref (am 17 0), .ref (am 18 0), .ref (am 19 0), .ref (am 20 0), .ref (am 21 0), .ref (am 22 0), .ref (am 23 0), .ref (am 24 0), .ref (am 25 0), .ref (am 26 0), .ref (am 27 0), .ref (am 28 0), .ref (am 29 0), vI (((m 0 0 30).toNat : Nat) : Int), vI (m 0 0 31), vI (m 0 0 32), vI (((m 0 0 33).toNat : Nat) : Int), vI 3, .ref (am 35 0), .ref (am 36 0), .ref (am 37 0)]) := by rw [e33]; exact hu_s
    refine x_vret C G dX8_comes_11 ?_ (by decide) (by decide)
    have cp35 : MP D am h (cu m 0 0 ((fu (m 0 0) 34 3))) h32 := by rw [e33]; exact (MP.up (MP.rf hR) (lm0 (by decide)) ((fu (m 0 0) 34 3)) rfl)
    refine ⟨rfl, ?_⟩
    rw [bdM_out (by omega) ht.1]
    exact cp35

theorem kX8_code_0 : Cond.fieldLink "LedgeLevelsModel" 124 "LedgeLevelsModel" "cell" "I" ∈ wsX8_code := by decide +kernel
theorem kX8_code_1 : ∀ w ∈ wsX80, w ∈ wsX8_code := by decide +kernel
theorem kX8_code_2 : Cond.fieldLink "LedgeLevelsModel" 127 "LedgeLevelsModel" "speed" "I" ∈ wsX8_code := by decide +kernel
theorem kX8_code_3 : Cond.fieldLink "LedgeLevelsModel" 118 "LedgeLevelsModel" "taken" "I" ∈ wsX8_code := by decide +kernel
set_option maxRecDepth 100000 in
set_option maxHeartbeats 1000000 in
theorem c_X8_code {l : Launch} {D : va_G} {A : Nat → Prop} {h : vh} {am : AD} {m : CS}  (hR : RepM D am m h) (hc : 0 ≤ m 0 0 31 ∧ m 0 0 31 ≤ 95) (hv : -4 ≤ m 0 0 32 ∧ m 0 0 32 ≤ 3) (ht : 0 ≤ m 0 0 33 ∧ m 0 0 33 < 8) : MX l D A yX8_code wsX8_code { frames := 0, cells := 0, slots := 0, locals := 0 } [.ref (am 0 0)] h (fun rv h' => rv = some (vI ((pkc (m 0 0 31) (m 0 0 32) (m 0 0 33).toNat : Nat) : Int)) ∧ h' = h) := by
  refine MX.of (cc := cX8_code) (maxL := 1) (ret := (some .int)) [(0, .ref (am 0 0))] (by decide +kernel) rfl rfl (Nat.le_of_ble_eq_true rfl) ?_
  intro κ C hkl G
  subst hkl
  have C : CX κ "LedgeLevelsModel" "code" cX8_code wsX8_code { frames := 0, cells := 0, slots := 0, locals := 0 } D A 1 := C
  have hiz : nq (D.1 20) (D.1 21) := cx_iz C
  refine x_bipush C dX8_code_0 64 (by decide) ?_
  refine x_aload_n C dX8_code_2 0 rfl ?_
  have f1 : h (am 0 0) = some (eO 8 [vI (m 0 0 0), .ref (am 1 0), vI (m 0 0 2), .ref (am 3 0), .ref (am 4 0), .ref (am 5 0), .ref (am 6 0), .ref (am 7 0), .ref (am 8 0), .ref (am 9 0), .ref (am 10 0), .ref (am 11 0), .ref (am 12 0), .ref (am 13 0), vI (m 0 0 14), .ref (am 15 0), .ref (am 16 0), .ref (am 17 0), .ref (am 18 0), .ref (am 19 0), .ref (am 20 0), .ref (am 21 0), .ref (am 22 0), .ref (am 23 0), .ref (am 24 0), .ref (am 25 0), .ref (am 26 0), .ref (am 27 0), .ref (am 28 0), .ref (am 29 0), vI (((m 0 0 30).toNat : Nat) : Int), vI (m 0 0 31), vI (m 0 0 32), vI (((m 0 0 33).toNat : Nat) : Int), vI (m 0 0 34), .ref (am 35 0), .ref (am 36 0), .ref (am 37 0)]) := hR.1 0 0 (lm0 (by decide))
  refine x_get C (v := vI (m 0 0 31)) f1 (T := TX8) rfl kX8_code_1 31 (by decide) kX8_code_0 rfl dX8_code_3 ?_
  refine x_imul C dX8_code_6 ?_
  refine x_bipush C dX8_code_7 8 (by decide) ?_
  refine x_aload_n C dX8_code_9 0 rfl ?_
  refine x_get C (v := vI (m 0 0 32)) f1 (T := TX8) rfl kX8_code_1 32 (by decide) kX8_code_2 rfl dX8_code_10 ?_
  refine x_iconst C dX8_code_13 4 (by decide) ?_
  refine x_iadd C dX8_code_14 ?_
  refine x_imul C dX8_code_15 ?_
  refine x_iadd C dX8_code_16 ?_
  refine x_aload_n C dX8_code_17 0 rfl ?_
  refine x_get C (v := vI (((m 0 0 33).toNat : Nat) : Int)) f1 (T := TX8) rfl kX8_code_1 33 (by decide) kX8_code_3 rfl dX8_code_18 ?_
  refine x_iadd C dX8_code_21 ?_
  refine x_topv (show ((64 * (m 0 0 31)) + (8 * ((m 0 0 32) + 4))) + ((((m 0 0 33).toNat : Nat) : Int)) = ((pkc (m 0 0 31) (m 0 0 32) (m 0 0 33).toNat : Nat) : Int) from by unfold pkc; omega) ?_
  refine x_iret C G dX8_code_22 ?_ (by decide) (by decide)
  exact ⟨rfl, rfl⟩

def stM (m : CS) (z : Int) : CS := bdM (cu m 0 0 (fu (fu (m 0 0) 32 0) 33 0)) (cm (m 28 0) (KBm m) z (z, 0, 1))
theorem cm_z {f : Nat → Int} {B : Int → Nat} {z a b : Int} {t : Nat} (hz : 0 ≤ z ∧ z < 96) : cm f B z (a, t, 1) = cm f B z (b, t, 1) := by
  unfold cm; rw [if_pos hz, if_pos hz]

theorem kX8_starts_0 : Cond.fieldLink "LedgeLevelsModel" 127 "LedgeLevelsModel" "speed" "I" ∈ wsX8_starts := by decide +kernel
theorem kX8_starts_1 : ∀ w ∈ wsX80, w ∈ wsX8_starts := by decide +kernel
theorem kX8_starts_2 : Cond.fieldLink "LedgeLevelsModel" 118 "LedgeLevelsModel" "taken" "I" ∈ wsX8_starts := by decide +kernel
set_option maxRecDepth 100000 in
set_option maxHeartbeats 1000000 in
theorem c_X8_starts {l : Launch} {D : va_G} {A : Nat → Prop} {h : vh} {am : AD} {m : CS} {z : Int}  (hR : RepM D am m h) (hz : 0 ≤ z ∧ z ≤ 95) (hG : ∀ j, 0 ≤ m 28 0 j ∧ m 28 0 j ≤ 8) (hKB : ∀ j, 0 ≤ m 29 0 j ∧ m 29 0 j ≤ 7) : MX l D A yX8_starts wsX8_starts { frames := 1, cells := 0, slots := 0, locals := 22 } [.ref (am 0 0), vI z] h (fun rv h' => rv = none ∧ MP D am h (stM m z) h') := by
  refine MX.of (cc := cX8_starts) (maxL := 2) (ret := none) [(0, .ref (am 0 0)), (1, vI z)] (by decide +kernel) rfl rfl (Nat.le_of_ble_eq_true rfl) ?_
  intro κ C hkl G
  subst hkl
  have C : CX κ "LedgeLevelsModel" "starts" cX8_starts wsX8_starts { frames := 1, cells := 0, slots := 0, locals := 22 } D A 2 := C
  have hiz : nq (D.1 20) (D.1 21) := cx_iz C
  refine x_aload_n C dX8_starts_0 0 rfl ?_
  refine x_iconst C dX8_starts_1 0 (by decide) ?_
  have f1 : h (am 0 0) = some (eO 8 [vI (m 0 0 0), .ref (am 1 0), vI (m 0 0 2), .ref (am 3 0), .ref (am 4 0), .ref (am 5 0), .ref (am 6 0), .ref (am 7 0), .ref (am 8 0), .ref (am 9 0), .ref (am 10 0), .ref (am 11 0), .ref (am 12 0), .ref (am 13 0), vI (m 0 0 14), .ref (am 15 0), .ref (am 16 0), .ref (am 17 0), .ref (am 18 0), .ref (am 19 0), .ref (am 20 0), .ref (am 21 0), .ref (am 22 0), .ref (am 23 0), .ref (am 24 0), .ref (am 25 0), .ref (am 26 0), .ref (am 27 0), .ref (am 28 0), .ref (am 29 0), vI (((m 0 0 30).toNat : Nat) : Int), vI (m 0 0 31), vI (m 0 0 32), vI (((m 0 0 33).toNat : Nat) : Int), vI (m 0 0 34), .ref (am 35 0), .ref (am 36 0), .ref (am 37 0)]) := hR.1 0 0 (lm0 (by decide))
  refine x_put C f1 (T := TX8) rfl tyX8_ok nmX8 kX8_starts_1 32 (by decide) kX8_starts_0 rfl (fs' := [vI (m 0 0 0), .ref (am 1 0), vI (m 0 0 2), .ref (am 3 0), .ref (am 4 0), .ref (am 5 0), .ref (am 6 0), .ref (am 7 0), .ref (am 8 0), .ref (am 9 0), .ref (am 10 0), .ref (am 11 0), .ref (am 12 0), .ref (am 13 0), vI (m 0 0 14), .ref (am 15 0), .ref (am 16 0), .ref (am 17 0), .ref (am 18 0), .ref (am 19 0), .ref (am 20 0), .ref (am 21 0), .ref (am 22 0), .ref (am 23 0), .ref (am 24 0), .ref (am 25 0), .ref (am 26 0), .ref (am 27 0), .ref (am 28 0), .ref (am 29 0), vI (((m 0 0 30).toNat : Nat) : Int), vI (m 0 0 31), vI 0, vI (((m 0 0 33).toNat : Nat) : Int), vI (m 0 0 34), .ref (am 35 0), .ref (am 36 0), .ref (am 37 0)]) rfl rfl (by simp) rfl dX8_starts_2 (x_hn (fun h2 e3 => ?_))
  have f4 : h2 (am 0 0) = some (eO 8 [vI (m 0 0 0), .ref (am 1 0), vI (m 0 0 2), .ref (am 3 0), .ref (am 4 0), .ref (am 5 0), .ref (am 6 0), .ref (am 7 0), .ref (am 8 0), .ref (am 9 0), .ref (am 10 0), .ref (am 11 0), .ref (am 12 0), .ref (am 13 0), vI (m 0 0 14), .ref (am 15 0), .ref (am 16 0), .ref (am 17 0), .ref (am 18 0), .ref (am 19 0), .ref (am 20 0), .ref (am 21 0), .ref (am 22 0), .ref (am 23 0), .ref (am 24 0), .ref (am 25 0), .ref (am 26 0), .ref (am 27 0), .ref (am 28 0), .ref (am 29 0), vI (((m 0 0 30).toNat : Nat) : Int), vI (m 0 0 31), vI 0, vI (((m 0 0 33).toNat : Nat) : Int), vI (m 0 0 34), .ref (am 35 0), .ref (am 36 0), .ref (am 37 0)]) := by rw [e3]; exact hu_s
  refine x_aload_n C dX8_starts_5 0 rfl ?_
  refine x_iconst C dX8_starts_6 0 (by decide) ?_
  refine x_put C f4 (T := TX8) rfl tyX8_ok nmX8 kX8_starts_1 33 (by decide) kX8_starts_2 rfl (fs' := [vI (m 0 0 0), .ref (am 1 0), vI (m 0 0 2), .ref (am 3 0), .ref (am 4 0), .ref (am 5 0), .ref (am 6 0), .ref (am 7 0), .ref (am 8 0), .ref (am 9 0), .ref (am 10 0), .ref (am 11 0), .ref (am 12 0), .ref (am 13 0), vI (m 0 0 14), .ref (am 15 0), .ref (am 16 0), .ref (am 17 0), .ref (am 18 0), .ref (am 19 0), .ref (am 20 0), .ref (am 21 0), .ref (am 22 0), .ref (am 23 0), .ref (am 24 0), .ref (am 25 0), .ref (am 26 0), .ref (am 27 0), .ref (am 28 0), .ref (am 29 0), vI (((m 0 0 30).toNat : Nat) : Int), vI (m 0 0 31), vI 0, vI ((0 : Nat) : Int), vI (m 0 0 34), .ref (am 35 0), .ref (am 36 0), .ref (am 37 0)]) rfl rfl (by simp) rfl dX8_starts_7 (x_hn (fun h5 e6 => ?_))
  have f7 : h5 (am 0 0) = some (eO 8 [vI (m 0 0 0), .ref (am 1 0), vI (m 0 0 2), .ref (am 3 0), .ref (am 4 0), .ref (am 5 0), .ref (am 6 0), .ref (am 7 0), .ref (am 8 0), .ref (am 9 0), .ref (am 10 0), .ref (am 11 0), .ref (am 12 0), .ref (am 13 0), vI (m 0 0 14), .ref (am 15 0), .ref (am 16 0), .ref (am 17 0), .ref (am 18 0), .ref (am 19 0), .ref (am 20 0), .ref (am 21 0), .ref (am 22 0), .ref (am 23 0), .ref (am 24 0), .ref (am 25 0), .ref (am 26 0), .ref (am 27 0), .ref (am 28 0), .ref (am 29 0), vI (((m 0 0 30).toNat : Nat) : Int), vI (m 0 0 31), vI 0, vI ((0 : Nat) : Int), vI (m 0 0 34), .ref (am 35 0), .ref (am 36 0), .ref (am 37 0)]) := by rw [e6]; exact hu_s
  refine x_aload_n C dX8_starts_10 0 rfl ?_
  refine x_iload_n C dX8_starts_11 1 rfl ?_
  refine x_bipush C dX8_starts_12 12 (by decide) ?_
  refine x_irem C dX8_starts_14 (by omega) (by omega) (by omega) (by omega) ?_
  refine x_iload_n C dX8_starts_15 1 rfl ?_
  refine x_bipush C dX8_starts_16 12 (by decide) ?_
  refine x_idiv C dX8_starts_18 (by omega) (by omega) (by omega) (by omega) ?_
  have cp8 : MP D am h (cu m 0 0 ((fu (fu (m 0 0) 32 0) 33 ((0 : Nat) : Int)))) h5 := by rw [e6, e3]; simp only [hu_u]; exact (MP.up (MP.rf hR) (lm0 (by decide)) ((fu (fu (m 0 0) 32 0) 33 ((0 : Nat) : Int))) rfl)
  refine x_callV C (n := 2) (qc := (RX8, TX8, 38)) (As := [vI (z % 12), vI (z / 12)]) (rest := []) (c_X8_comes (cp8.1) (by omega) (by omega) (hG) (hKB) (⟨by show (0 : Int) ≤ 0; decide, by show (0 : Int) < 8; decide⟩)) gX8_starts_X8_comes (by decide +kernel) f7 rfl rfl rfl rfl (Nat.le_of_ble_eq_true rfl) ⟨by decide, by decide⟩ ⟨(by decide), (by decide)⟩ dX8_starts_19 (fun rv9 h10 hp11 => ?_)
  obtain ⟨rfl, cp13⟩ := hp11
  have cp14 : MP D am h (bdM ((cu m 0 0 ((fu (fu (m 0 0) 32 0) 33 ((0 : Nat) : Int))))) (cm (((cu m 0 0 ((fu (fu (m 0 0) 32 0) 33 ((0 : Nat) : Int))))) 28 0) (KBm ((cu m 0 0 ((fu (fu (m 0 0) 32 0) 33 ((0 : Nat) : Int)))))) (12 * (z / 12) + (z % 12)) (((cu m 0 0 ((fu (fu (m 0 0) 32 0) 33 ((0 : Nat) : Int))))) 0 0 31, (((cu m 0 0 ((fu (fu (m 0 0) 32 0) 33 ((0 : Nat) : Int))))) 0 0 33).toNat, 1))) h10 := MP.trans cp8 cp13
  refine x_vret C G dX8_starts_22 ?_ (by decide) (by decide)
  refine ⟨rfl, ?_⟩
  have q9 := cp14
  unfold stM
  rw [show 12 * (z / 12) + z % 12 = z by omega] at q9
  rw [cm_z (b := m 0 0 31) (by omega)]
  exact q9


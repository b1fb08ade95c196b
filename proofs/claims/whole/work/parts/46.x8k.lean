theorem MPid {D : va_G} {am : AD} {h h' : vh} {X : CS} {k : Nat} {f : Nat → Int} (e : f = X k 0) (q : MP D am h X h') : MP D am h (cu X k 0 f) h' := by rw [cu_id e]; exact q

theorem kX8_keeps_0 : Cond.fieldLink "LedgeLevelsModel" 73 "LedgeLevelsModel" "runCell" "[I" ∈ wsX8_keeps := by decide +kernel
theorem kX8_keeps_1 : ∀ w ∈ wsX80, w ∈ wsX8_keeps := by decide +kernel
theorem kX8_keeps_2 : Cond.fieldLink "LedgeLevelsModel" 124 "LedgeLevelsModel" "cell" "I" ∈ wsX8_keeps := by decide +kernel
theorem kX8_keeps_3 : Cond.fieldLink "LedgeLevelsModel" 76 "LedgeLevelsModel" "runSpeed" "[I" ∈ wsX8_keeps := by decide +kernel
theorem kX8_keeps_4 : Cond.fieldLink "LedgeLevelsModel" 127 "LedgeLevelsModel" "speed" "I" ∈ wsX8_keeps := by decide +kernel
theorem kX8_keeps_5 : Cond.fieldLink "LedgeLevelsModel" 79 "LedgeLevelsModel" "runTaken" "[I" ∈ wsX8_keeps := by decide +kernel
theorem kX8_keeps_6 : Cond.fieldLink "LedgeLevelsModel" 118 "LedgeLevelsModel" "taken" "I" ∈ wsX8_keeps := by decide +kernel
theorem kX8_keeps_7 : Cond.fieldLink "LedgeLevelsModel" 67 "LedgeLevelsModel" "runState" "[I" ∈ wsX8_keeps := by decide +kernel
theorem kX8_keeps_8 : Cond.fieldLink "LedgeLevelsModel" 121 "LedgeLevelsModel" "state" "I" ∈ wsX8_keeps := by decide +kernel
theorem kX8_keeps_9 : Cond.fieldLink "LedgeLevelsModel" 70 "LedgeLevelsModel" "runWork" "[I" ∈ wsX8_keeps := by decide +kernel
theorem kX8_keeps_10 : Cond.fieldLink "LedgeLevelsModel" 61 "LedgeLevelsModel" "record" "[I" ∈ wsX8_keeps := by decide +kernel
theorem kX8_keeps_11 : Cond.fieldLink "LedgeLevelsModel" 82 "LedgeLevelsModel" "runSteps" "[I" ∈ wsX8_keeps := by decide +kernel
set_option maxRecDepth 100000 in
set_option maxHeartbeats 4000000 in
theorem c_X8_keeps {l : Launch} {D : va_G} {A : Nat → Prop} {h : vh} {am : AD} {m : CS} {p : Int} {v : Nat} {x : B4}  (hR : RepM D am m h) (hp : 0 ≤ p ∧ p < 6) (hv : m 23 0 p.toNat = ((v : Nat) : Int)) (hv20 : v < 20) (h31 : m 0 0 31 = x.1) (h32 : m 0 0 32 = x.2.1) (h33 : (m 0 0 33).toNat = x.2.2.1) (h34 : m 0 0 34 = x.2.2.2) (hxs : 0 ≤ x.2.2.2 ∧ x.2.2.2 ≤ 4) (hrc : -1 ≤ m 20 0 v ∧ m 20 0 v ≤ 300) (hst : 0 ≤ m 27 0 p.toNat ∧ m 27 0 p.toNat ≤ 300) : MX l D A yX8_keeps wsX8_keeps { frames := 0, cells := 0, slots := 0, locals := 0 } [.ref (am 0 0), vI p] h (fun rv h' => rv = some (vI (kpR x)) ∧ MP D am h (kpX m p.toNat v x) h') := by
  refine MX.of (cc := cX8_keeps) (maxL := 3) (ret := (some .int)) [(0, .ref (am 0 0)), (1, vI p)] (by decide +kernel) rfl rfl (Nat.le_of_ble_eq_true rfl) ?_
  intro κ C hkl G
  subst hkl
  have C : CX κ "LedgeLevelsModel" "keeps" cX8_keeps wsX8_keeps { frames := 0, cells := 0, slots := 0, locals := 0 } D A 3 := C
  have hiz : nq (D.1 20) (D.1 21) := cx_iz C
  have f1 : h (am 0 0) = some (eO 8 [vI (m 0 0 0), .ref (am 1 0), vI (m 0 0 2), .ref (am 3 0), .ref (am 4 0), .ref (am 5 0), .ref (am 6 0), .ref (am 7 0), .ref (am 8 0), .ref (am 9 0), .ref (am 10 0), .ref (am 11 0), .ref (am 12 0), .ref (am 13 0), vI (m 0 0 14), .ref (am 15 0), .ref (am 16 0), .ref (am 17 0), .ref (am 18 0), .ref (am 19 0), .ref (am 20 0), .ref (am 21 0), .ref (am 22 0), .ref (am 23 0), .ref (am 24 0), .ref (am 25 0), .ref (am 26 0), .ref (am 27 0), .ref (am 28 0), .ref (am 29 0), vI (((m 0 0 30).toNat : Nat) : Int), vI (m 0 0 31), vI (m 0 0 32), vI (((m 0 0 33).toNat : Nat) : Int), vI (m 0 0 34), .ref (am 35 0), .ref (am 36 0), .ref (am 37 0)]) := hR.1 0 0 (lm0 (by decide))
  have f2 : h (am 0 0) = some (eO 8 [vI (m 0 0 0), .ref (am 1 0), vI (m 0 0 2), .ref (am 3 0), .ref (am 4 0), .ref (am 5 0), .ref (am 6 0), .ref (am 7 0), .ref (am 8 0), .ref (am 9 0), .ref (am 10 0), .ref (am 11 0), .ref (am 12 0), .ref (am 13 0), vI (m 0 0 14), .ref (am 15 0), .ref (am 16 0), .ref (am 17 0), .ref (am 18 0), .ref (am 19 0), .ref (am 20 0), .ref (am 21 0), .ref (am 22 0), .ref (am 23 0), .ref (am 24 0), .ref (am 25 0), .ref (am 26 0), .ref (am 27 0), .ref (am 28 0), .ref (am 29 0), vI (((m 0 0 30).toNat : Nat) : Int), vI (x.1), vI (x.2.1), vI ((x.2.2.1 : Nat) : Int), vI (x.2.2.2), .ref (am 35 0), .ref (am 36 0), .ref (am 37 0)]) := by rw [← h31, ← h32, ← h33, ← h34]; exact f1
  refine x_aload_n C dX8_keeps_0 0 rfl ?_
  refine x_get C (v := .ref (am 24 0)) f2 (T := TX8) rfl kX8_keeps_1 24 (by decide) kX8_keeps_0 rfl dX8_keeps_1 ?_
  refine x_iload_n C dX8_keeps_4 1 rfl ?_
  refine x_aload_n C dX8_keeps_5 0 rfl ?_
  refine x_get C (v := vI (x.1)) f2 (T := TX8) rfl kX8_keeps_1 31 (by decide) kX8_keeps_2 rfl dX8_keeps_6 ?_
  have f3 : h (am 24 0) = some (eI D 6 (m 24 0)) := hR.1 24 0 (lm0 (by decide))
  refine x_iast C f3 ⟨by omega, by omega⟩ (by decide) dX8_keeps_9 (x_hn (fun h4 e5 => ?_))
  have f6 : h4 (am 24 0) = some (eI D 6 (fu (m 24 0) (Int.toNat p) x.1)) := by rw [e5]; exact hu_s
  refine x_aload_n C dX8_keeps_10 0 rfl ?_
  have f7 : h4 (am 0 0) = some (eO 8 [vI (m 0 0 0), .ref (am 1 0), vI (m 0 0 2), .ref (am 3 0), .ref (am 4 0), .ref (am 5 0), .ref (am 6 0), .ref (am 7 0), .ref (am 8 0), .ref (am 9 0), .ref (am 10 0), .ref (am 11 0), .ref (am 12 0), .ref (am 13 0), vI (m 0 0 14), .ref (am 15 0), .ref (am 16 0), .ref (am 17 0), .ref (am 18 0), .ref (am 19 0), .ref (am 20 0), .ref (am 21 0), .ref (am 22 0), .ref (am 23 0), .ref (am 24 0), .ref (am 25 0), .ref (am 26 0), .ref (am 27 0), .ref (am 28 0), .ref (am 29 0), vI (((m 0 0 30).toNat : Nat) : Int), vI (x.1), vI (x.2.1), vI ((x.2.2.1 : Nat) : Int), vI (x.2.2.2), .ref (am 35 0), .ref (am 36 0), .ref (am 37 0)]) := by rw [e5, hu_n (hR.ne (lm0 (by decide)) (lm0 (by decide)) (fun zz9 => absurd zz9.1 (by decide)))]; exact f2
  refine x_get C (v := .ref (am 25 0)) f7 (T := TX8) rfl kX8_keeps_1 25 (by decide) kX8_keeps_3 rfl dX8_keeps_11 ?_
  refine x_iload_n C dX8_keeps_14 1 rfl ?_
  refine x_aload_n C dX8_keeps_15 0 rfl ?_
  refine x_get C (v := vI (x.2.1)) f7 (T := TX8) rfl kX8_keeps_1 32 (by decide) kX8_keeps_4 rfl dX8_keeps_16 ?_
  have f8 : h (am 25 0) = some (eI D 6 (m 25 0)) := hR.1 25 0 (lm0 (by decide))
  have f9 : h4 (am 25 0) = some (eI D 6 (m 25 0)) := by rw [e5, hu_n (hR.ne (lm0 (by decide)) (lm0 (by decide)) (fun zz9 => absurd zz9.1 (by decide)))]; exact f8
  refine x_iast C f9 ⟨by omega, by omega⟩ (by decide) dX8_keeps_19 (x_hn (fun h10 e11 => ?_))
  have f12 : h10 (am 25 0) = some (eI D 6 (fu (m 25 0) (Int.toNat p) x.2.1)) := by rw [e11]; exact hu_s
  refine x_aload_n C dX8_keeps_20 0 rfl ?_
  have f13 : h10 (am 0 0) = some (eO 8 [vI (m 0 0 0), .ref (am 1 0), vI (m 0 0 2), .ref (am 3 0), .ref (am 4 0), .ref (am 5 0), .ref (am 6 0), .ref (am 7 0), .ref (am 8 0), .ref (am 9 0), .ref (am 10 0), .ref (am 11 0), .ref (am 12 0), .ref (am 13 0), vI (m 0 0 14), .ref (am 15 0), .ref (am 16 0), .ref (am 17 0), .ref (am 18 0), .ref (am 19 0), .ref (am 20 0), .ref (am 21 0), .ref (am 22 0), .ref (am 23 0), .ref (am 24 0), .ref (am 25 0), .ref (am 26 0), .ref (am 27 0), .ref (am 28 0), .ref (am 29 0), vI (((m 0 0 30).toNat : Nat) : Int), vI (x.1), vI (x.2.1), vI ((x.2.2.1 : Nat) : Int), vI (x.2.2.2), .ref (am 35 0), .ref (am 36 0), .ref (am 37 0)]) := by rw [e11, hu_n (hR.ne (lm0 (by decide)) (lm0 (by decide)) (fun zz9 => absurd zz9.1 (by decide)))]; exact f7
  refine x_get C (v := .ref (am 26 0)) f13 (T := TX8) rfl kX8_keeps_1 26 (by decide) kX8_keeps_5 rfl dX8_keeps_21 ?_
  refine x_iload_n C dX8_keeps_24 1 rfl ?_
  refine x_aload_n C dX8_keeps_25 0 rfl ?_
  refine x_get C (v := vI ((x.2.2.1 : Nat) : Int)) f13 (T := TX8) rfl kX8_keeps_1 33 (by decide) kX8_keeps_6 rfl dX8_keeps_26 ?_
  have f14 : h (am 26 0) = some (eI D 6 (m 26 0)) := hR.1 26 0 (lm0 (by decide))
  have f15 : h4 (am 26 0) = some (eI D 6 (m 26 0)) := by rw [e5, hu_n (hR.ne (lm0 (by decide)) (lm0 (by decide)) (fun zz9 => absurd zz9.1 (by decide)))]; exact f14
  have f16 : h10 (am 26 0) = some (eI D 6 (m 26 0)) := by rw [e11, hu_n (hR.ne (lm0 (by decide)) (lm0 (by decide)) (fun zz9 => absurd zz9.1 (by decide)))]; exact f15
  refine x_iast C f16 ⟨by omega, by omega⟩ (by decide) dX8_keeps_29 (x_hn (fun h17 e18 => ?_))
  have f19 : h17 (am 26 0) = some (eI D 6 (fu (m 26 0) (Int.toNat p) (((x.2.2.1 : Nat) : Int)))) := by rw [e18]; exact hu_s
  refine x_aload_n C dX8_keeps_30 0 rfl ?_
  have f20 : h17 (am 0 0) = some (eO 8 [vI (m 0 0 0), .ref (am 1 0), vI (m 0 0 2), .ref (am 3 0), .ref (am 4 0), .ref (am 5 0), .ref (am 6 0), .ref (am 7 0), .ref (am 8 0), .ref (am 9 0), .ref (am 10 0), .ref (am 11 0), .ref (am 12 0), .ref (am 13 0), vI (m 0 0 14), .ref (am 15 0), .ref (am 16 0), .ref (am 17 0), .ref (am 18 0), .ref (am 19 0), .ref (am 20 0), .ref (am 21 0), .ref (am 22 0), .ref (am 23 0), .ref (am 24 0), .ref (am 25 0), .ref (am 26 0), .ref (am 27 0), .ref (am 28 0), .ref (am 29 0), vI (((m 0 0 30).toNat : Nat) : Int), vI (x.1), vI (x.2.1), vI ((x.2.2.1 : Nat) : Int), vI (x.2.2.2), .ref (am 35 0), .ref (am 36 0), .ref (am 37 0)]) := by rw [e18, hu_n (hR.ne (lm0 (by decide)) (lm0 (by decide)) (fun zz9 => absurd zz9.1 (by decide)))]; exact f13
  refine x_get C (v := .ref (am 22 0)) f20 (T := TX8) rfl kX8_keeps_1 22 (by decide) kX8_keeps_7 rfl dX8_keeps_31 ?_
  refine x_iload_n C dX8_keeps_34 1 rfl ?_
  refine x_aload_n C dX8_keeps_35 0 rfl ?_
  refine x_get C (v := vI (x.2.2.2)) f20 (T := TX8) rfl kX8_keeps_1 34 (by decide) kX8_keeps_8 rfl dX8_keeps_36 ?_
  have f21 : h (am 22 0) = some (eI D 6 (m 22 0)) := hR.1 22 0 (lm0 (by decide))
  have f22 : h4 (am 22 0) = some (eI D 6 (m 22 0)) := by rw [e5, hu_n (hR.ne (lm0 (by decide)) (lm0 (by decide)) (fun zz9 => absurd zz9.1 (by decide)))]; exact f21
  have f23 : h10 (am 22 0) = some (eI D 6 (m 22 0)) := by rw [e11, hu_n (hR.ne (lm0 (by decide)) (lm0 (by decide)) (fun zz9 => absurd zz9.1 (by decide)))]; exact f22
  have f24 : h17 (am 22 0) = some (eI D 6 (m 22 0)) := by rw [e18, hu_n (hR.ne (lm0 (by decide)) (lm0 (by decide)) (fun zz9 => absurd zz9.1 (by decide)))]; exact f23
  refine x_iast C f24 ⟨by omega, by omega⟩ (by decide) dX8_keeps_39 (x_hn (fun h25 e26 => ?_))
  have f27 : h25 (am 22 0) = some (eI D 6 (fu (m 22 0) (Int.toNat p) x.2.2.2)) := by rw [e26]; exact hu_s
  refine x_aload_n C dX8_keeps_40 0 rfl ?_
  have f28 : h25 (am 0 0) = some (eO 8 [vI (m 0 0 0), .ref (am 1 0), vI (m 0 0 2), .ref (am 3 0), .ref (am 4 0), .ref (am 5 0), .ref (am 6 0), .ref (am 7 0), .ref (am 8 0), .ref (am 9 0), .ref (am 10 0), .ref (am 11 0), .ref (am 12 0), .ref (am 13 0), vI (m 0 0 14), .ref (am 15 0), .ref (am 16 0), .ref (am 17 0), .ref (am 18 0), .ref (am 19 0), .ref (am 20 0), .ref (am 21 0), .ref (am 22 0), .ref (am 23 0), .ref (am 24 0), .ref (am 25 0), .ref (am 26 0), .ref (am 27 0), .ref (am 28 0), .ref (am 29 0), vI (((m 0 0 30).toNat : Nat) : Int), vI (x.1), vI (x.2.1), vI ((x.2.2.1 : Nat) : Int), vI (x.2.2.2), .ref (am 35 0), .ref (am 36 0), .ref (am 37 0)]) := by rw [e26, hu_n (hR.ne (lm0 (by decide)) (lm0 (by decide)) (fun zz9 => absurd zz9.1 (by decide)))]; exact f20
  refine x_get C (v := .ref (am 23 0)) f28 (T := TX8) rfl kX8_keeps_1 23 (by decide) kX8_keeps_9 rfl dX8_keeps_41 ?_
  refine x_iload_n C dX8_keeps_44 1 rfl ?_
  have f29 : h (am 23 0) = some (eI D 6 (m 23 0)) := hR.1 23 0 (lm0 (by decide))
  have f30 : h4 (am 23 0) = some (eI D 6 (m 23 0)) := by rw [e5, hu_n (hR.ne (lm0 (by decide)) (lm0 (by decide)) (fun zz9 => absurd zz9.1 (by decide)))]; exact f29
  have f31 : h10 (am 23 0) = some (eI D 6 (m 23 0)) := by rw [e11, hu_n (hR.ne (lm0 (by decide)) (lm0 (by decide)) (fun zz9 => absurd zz9.1 (by decide)))]; exact f30
  have f32 : h17 (am 23 0) = some (eI D 6 (m 23 0)) := by rw [e18, hu_n (hR.ne (lm0 (by decide)) (lm0 (by decide)) (fun zz9 => absurd zz9.1 (by decide)))]; exact f31
  have f33 : h25 (am 23 0) = some (eI D 6 (m 23 0)) := by rw [e26, hu_n (hR.ne (lm0 (by decide)) (lm0 (by decide)) (fun zz9 => absurd zz9.1 (by decide)))]; exact f32
  refine x_iald C f33 ⟨by omega, by omega⟩ (by decide) dX8_keeps_45 ?_
  refine x_topv (show (m 23 0) (Int.toNat p) = ((v : Nat) : Int) from by exact hv) ?_
  refine x_istore_n C (ls' := [(0, .ref (am 0 0)), (1, vI p), (2, vI ((v : Nat) : Int))]) dX8_keeps_46 (by decide) rfl ?_
  refine x_aload_n C dX8_keeps_47 0 rfl ?_
  refine x_get C (v := vI (x.2.2.2)) f28 (T := TX8) rfl kX8_keeps_1 34 (by decide) kX8_keeps_8 rfl dX8_keeps_48 ?_
  refine x_iconst C dX8_keeps_51 2 (by decide) ?_
  refine x_icmp_ne (tgt := 92) C dX8_keeps_52 (by decide) (by omega) (by omega) (fun c34 => ?_) (fun c34 => ?_)
  · skip
    refine x_aload_n C dX8_keeps_92 0 rfl ?_
    refine x_get C (v := vI (x.2.2.2)) f28 (T := TX8) rfl kX8_keeps_1 34 (by decide) kX8_keeps_8 rfl dX8_keeps_93 ?_
    refine x_iconst C dX8_keeps_96 3 (by decide) ?_
    refine x_icmp_ne (tgt := 104) C dX8_keeps_97 (by decide) (by omega) (by omega) (fun c35 => ?_) (fun c35 => ?_)
    · skip
      refine x_aload_n C dX8_keeps_104 0 rfl ?_
      refine x_get C (v := vI (x.2.2.2)) f28 (T := TX8) rfl kX8_keeps_1 34 (by decide) kX8_keeps_8 rfl dX8_keeps_105 ?_
      refine x_iconst C dX8_keeps_108 2 (by decide) ?_
      refine x_icmp_ne (tgt := 117) C dX8_keeps_109 (by decide) (by omega) (by omega) (fun c36 => ?_) (fun c36 => ?_)
      · skip
        refine x_aload_n C dX8_keeps_117 0 rfl ?_
        refine x_get C (v := vI (x.1)) f28 (T := TX8) rfl kX8_keeps_1 31 (by decide) kX8_keeps_2 rfl dX8_keeps_118 ?_
        refine x_iret C G dX8_keeps_121 ?_ (by decide) (by decide)
        have cp37 : MP D am h (cu (cu (cu (cu m 24 0 (fu (m 24 0) (Int.toNat p) x.1)) 25 0 (fu (m 25 0) (Int.toNat p) x.2.1)) 26 0 (fu (m 26 0) (Int.toNat p) (((x.2.2.1 : Nat) : Int)))) 22 0 (fu (m 22 0) (Int.toNat p) x.2.2.2)) h25 := by rw [e26, e18, e11, e5]; exact (MP.up (MP.up (MP.up (MP.up (MP.rf hR) (lm0 (by decide)) (fu (m 24 0) (Int.toNat p) x.1) rfl) (lm0 (by decide)) (fu (m 25 0) (Int.toNat p) x.2.1) rfl) (lm0 (by decide)) (fu (m 26 0) (Int.toNat p) (((x.2.2.1 : Nat) : Int))) rfl) (lm0 (by decide)) (fu (m 22 0) (Int.toNat p) x.2.2.2) rfl)
        refine ⟨?_, ?_⟩
        · first
            | (exfalso; omega)
            | rw [show kpR x = -1 from if_pos (by omega)]
            | rw [show kpR x = -2 from (if_neg (by omega)).trans (if_pos (by omega))]
            | rw [show kpR x = x.1 from (if_neg (by omega)).trans (if_neg (by omega))]
        · have q9 := cp37
          unfold kpX
          first
            | (rw [if_pos (by omega)]; exact q9)
            | (rw [if_neg (by omega)]; exact MPid rfl q9)
      · skip
        refine x_bipush C dX8_keeps_112 (-2) (by decide) ?_
        refine x_goto (tgt := 121) C dX8_keeps_114 (by decide) ?_
        refine x_iret C G dX8_keeps_121 ?_ (by decide) (by decide)
        have cp38 : MP D am h (cu (cu (cu (cu m 24 0 (fu (m 24 0) (Int.toNat p) x.1)) 25 0 (fu (m 25 0) (Int.toNat p) x.2.1)) 26 0 (fu (m 26 0) (Int.toNat p) (((x.2.2.1 : Nat) : Int)))) 22 0 (fu (m 22 0) (Int.toNat p) x.2.2.2)) h25 := by rw [e26, e18, e11, e5]; exact (MP.up (MP.up (MP.up (MP.up (MP.rf hR) (lm0 (by decide)) (fu (m 24 0) (Int.toNat p) x.1) rfl) (lm0 (by decide)) (fu (m 25 0) (Int.toNat p) x.2.1) rfl) (lm0 (by decide)) (fu (m 26 0) (Int.toNat p) (((x.2.2.1 : Nat) : Int))) rfl) (lm0 (by decide)) (fu (m 22 0) (Int.toNat p) x.2.2.2) rfl)
        refine ⟨?_, ?_⟩
        · first
            | (exfalso; omega)
            | rw [show kpR x = -1 from if_pos (by omega)]
            | rw [show kpR x = -2 from (if_neg (by omega)).trans (if_pos (by omega))]
            | rw [show kpR x = x.1 from (if_neg (by omega)).trans (if_neg (by omega))]
        · have q9 := cp38
          unfold kpX
          first
            | (rw [if_pos (by omega)]; exact q9)
            | (rw [if_neg (by omega)]; exact MPid rfl q9)
    · skip
      refine x_iconst C dX8_keeps_100 (-1) (by decide) ?_
      refine x_goto (tgt := 121) C dX8_keeps_101 (by decide) ?_
      refine x_iret C G dX8_keeps_121 ?_ (by decide) (by decide)
      have cp39 : MP D am h (cu (cu (cu (cu m 24 0 (fu (m 24 0) (Int.toNat p) x.1)) 25 0 (fu (m 25 0) (Int.toNat p) x.2.1)) 26 0 (fu (m 26 0) (Int.toNat p) (((x.2.2.1 : Nat) : Int)))) 22 0 (fu (m 22 0) (Int.toNat p) x.2.2.2)) h25 := by rw [e26, e18, e11, e5]; exact (MP.up (MP.up (MP.up (MP.up (MP.rf hR) (lm0 (by decide)) (fu (m 24 0) (Int.toNat p) x.1) rfl) (lm0 (by decide)) (fu (m 25 0) (Int.toNat p) x.2.1) rfl) (lm0 (by decide)) (fu (m 26 0) (Int.toNat p) (((x.2.2.1 : Nat) : Int))) rfl) (lm0 (by decide)) (fu (m 22 0) (Int.toNat p) x.2.2.2) rfl)
      refine ⟨?_, ?_⟩
      · first
          | (exfalso; omega)
          | rw [show kpR x = -1 from if_pos (by omega)]
          | rw [show kpR x = -2 from (if_neg (by omega)).trans (if_pos (by omega))]
          | rw [show kpR x = x.1 from (if_neg (by omega)).trans (if_neg (by omega))]
      · have q9 := cp39
        unfold kpX
        first
          | (rw [if_pos (by omega)]; exact q9)
          | (rw [if_neg (by omega)]; exact MPid rfl q9)
  · skip
    refine x_aload_n C dX8_keeps_55 0 rfl ?_
    refine x_get C (v := .ref (am 20 0)) f28 (T := TX8) rfl kX8_keeps_1 20 (by decide) kX8_keeps_10 rfl dX8_keeps_56 ?_
    refine x_iload_n C dX8_keeps_59 2 rfl ?_
    have f40 : h (am 20 0) = some (eI D 20 (m 20 0)) := hR.1 20 0 (lm0 (by decide))
    have f41 : h4 (am 20 0) = some (eI D 20 (m 20 0)) := by rw [e5, hu_n (hR.ne (lm0 (by decide)) (lm0 (by decide)) (fun zz9 => absurd zz9.1 (by decide)))]; exact f40
    have f42 : h10 (am 20 0) = some (eI D 20 (m 20 0)) := by rw [e11, hu_n (hR.ne (lm0 (by decide)) (lm0 (by decide)) (fun zz9 => absurd zz9.1 (by decide)))]; exact f41
    have f43 : h17 (am 20 0) = some (eI D 20 (m 20 0)) := by rw [e18, hu_n (hR.ne (lm0 (by decide)) (lm0 (by decide)) (fun zz9 => absurd zz9.1 (by decide)))]; exact f42
    have f44 : h25 (am 20 0) = some (eI D 20 (m 20 0)) := by rw [e26, hu_n (hR.ne (lm0 (by decide)) (lm0 (by decide)) (fun zz9 => absurd zz9.1 (by decide)))]; exact f43
    refine x_iald C f44 ⟨by omega, by omega⟩ (by decide) dX8_keeps_60 ?_
    refine x_topv (show (m 20 0) (Int.toNat (((v : Nat) : Int))) = m 20 0 v from by rfl) ?_
    refine x_iconst C dX8_keeps_61 (-1) (by decide) ?_
    refine x_icmp_eq (tgt := 80) C dX8_keeps_62 (by decide) (by omega) (by omega) (fun c45 => ?_) (fun c45 => ?_)
    · skip
      refine x_aload_n C dX8_keeps_80 0 rfl ?_
      refine x_get C (v := .ref (am 20 0)) f28 (T := TX8) rfl kX8_keeps_1 20 (by decide) kX8_keeps_10 rfl dX8_keeps_81 ?_
      refine x_iload_n C dX8_keeps_84 2 rfl ?_
      refine x_aload_n C dX8_keeps_85 0 rfl ?_
      refine x_get C (v := .ref (am 27 0)) f28 (T := TX8) rfl kX8_keeps_1 27 (by decide) kX8_keeps_11 rfl dX8_keeps_86 ?_
      refine x_iload_n C dX8_keeps_89 1 rfl ?_
      have f46 : h (am 27 0) = some (eI D 6 (m 27 0)) := hR.1 27 0 (lm0 (by decide))
      have f47 : h4 (am 27 0) = some (eI D 6 (m 27 0)) := by rw [e5, hu_n (hR.ne (lm0 (by decide)) (lm0 (by decide)) (fun zz9 => absurd zz9.1 (by decide)))]; exact f46
      have f48 : h10 (am 27 0) = some (eI D 6 (m 27 0)) := by rw [e11, hu_n (hR.ne (lm0 (by decide)) (lm0 (by decide)) (fun zz9 => absurd zz9.1 (by decide)))]; exact f47
      have f49 : h17 (am 27 0) = some (eI D 6 (m 27 0)) := by rw [e18, hu_n (hR.ne (lm0 (by decide)) (lm0 (by decide)) (fun zz9 => absurd zz9.1 (by decide)))]; exact f48
      have f50 : h25 (am 27 0) = some (eI D 6 (m 27 0)) := by rw [e26, hu_n (hR.ne (lm0 (by decide)) (lm0 (by decide)) (fun zz9 => absurd zz9.1 (by decide)))]; exact f49
      refine x_iald C f50 ⟨by omega, by omega⟩ (by decide) dX8_keeps_90 ?_
      refine x_topv (show (m 27 0) (Int.toNat p) = m 27 0 p.toNat from by rfl) ?_
      refine x_iast C f44 ⟨by omega, by omega⟩ (by decide) dX8_keeps_91 (x_hn (fun h51 e52 => ?_))
      have f53 : h51 (am 20 0) = some (eI D 20 (fu (m 20 0) (Int.toNat (((v : Nat) : Int))) (m 27 0 p.toNat))) := by rw [e52]; exact hu_s
      refine x_aload_n C dX8_keeps_92 0 rfl ?_
      have f54 : h51 (am 0 0) = some (eO 8 [vI (m 0 0 0), .ref (am 1 0), vI (m 0 0 2), .ref (am 3 0), .ref (am 4 0), .ref (am 5 0), .ref (am 6 0), .ref (am 7 0), .ref (am 8 0), .ref (am 9 0), .ref (am 10 0), .ref (am 11 0), .ref (am 12 0), .ref (am 13 0), vI (m 0 0 14), .ref (am 15 0), .ref (am 16 0), .ref (am 17 0), .ref (am 18 0), .ref (am 19 0), .ref (am 20 0), .ref (am 21 0), .ref (am 22 0), .ref (am 23 0), .ref (am 24 0), .ref (am 25 0), .ref (am 26 0), .ref (am 27 0), .ref (am 28 0), .ref (am 29 0), vI (((m 0 0 30).toNat : Nat) : Int), vI (x.1), vI (x.2.1), vI ((x.2.2.1 : Nat) : Int), vI (x.2.2.2), .ref (am 35 0), .ref (am 36 0), .ref (am 37 0)]) := by rw [e52, hu_n (hR.ne (lm0 (by decide)) (lm0 (by decide)) (fun zz9 => absurd zz9.1 (by decide)))]; exact f28
      refine x_get C (v := vI (x.2.2.2)) f54 (T := TX8) rfl kX8_keeps_1 34 (by decide) kX8_keeps_8 rfl dX8_keeps_93 ?_
      refine x_iconst C dX8_keeps_96 3 (by decide) ?_
      refine x_icmp_ne (tgt := 104) C dX8_keeps_97 (by decide) (by omega) (by omega) (fun c55 => ?_) (fun c55 => ?_)
      · skip
        refine x_aload_n C dX8_keeps_104 0 rfl ?_
        refine x_get C (v := vI (x.2.2.2)) f54 (T := TX8) rfl kX8_keeps_1 34 (by decide) kX8_keeps_8 rfl dX8_keeps_105 ?_
        refine x_iconst C dX8_keeps_108 2 (by decide) ?_
        refine x_icmp_ne (tgt := 117) C dX8_keeps_109 (by decide) (by omega) (by omega) (fun c56 => ?_) (fun c56 => ?_)
        · skip
          refine x_aload_n C dX8_keeps_117 0 rfl ?_
          refine x_get C (v := vI (x.1)) f54 (T := TX8) rfl kX8_keeps_1 31 (by decide) kX8_keeps_2 rfl dX8_keeps_118 ?_
          refine x_iret C G dX8_keeps_121 ?_ (by decide) (by decide)
          have cp57 : MP D am h (cu (cu (cu (cu (cu m 24 0 (fu (m 24 0) (Int.toNat p) x.1)) 25 0 (fu (m 25 0) (Int.toNat p) x.2.1)) 26 0 (fu (m 26 0) (Int.toNat p) (((x.2.2.1 : Nat) : Int)))) 22 0 (fu (m 22 0) (Int.toNat p) x.2.2.2)) 20 0 (fu (m 20 0) (Int.toNat (((v : Nat) : Int))) (m 27 0 p.toNat))) h51 := by rw [e52, e26, e18, e11, e5]; exact (MP.up (MP.up (MP.up (MP.up (MP.up (MP.rf hR) (lm0 (by decide)) (fu (m 24 0) (Int.toNat p) x.1) rfl) (lm0 (by decide)) (fu (m 25 0) (Int.toNat p) x.2.1) rfl) (lm0 (by decide)) (fu (m 26 0) (Int.toNat p) (((x.2.2.1 : Nat) : Int))) rfl) (lm0 (by decide)) (fu (m 22 0) (Int.toNat p) x.2.2.2) rfl) (lm0 (by decide)) (fu (m 20 0) (Int.toNat (((v : Nat) : Int))) (m 27 0 p.toNat)) rfl)
          refine ⟨?_, ?_⟩
          · first
              | (exfalso; omega)
              | rw [show kpR x = -1 from if_pos (by omega)]
              | rw [show kpR x = -2 from (if_neg (by omega)).trans (if_pos (by omega))]
              | rw [show kpR x = x.1 from (if_neg (by omega)).trans (if_neg (by omega))]
          · have q9 := cp57
            unfold kpX
            first
              | (rw [if_pos (by omega)]; exact q9)
              | (rw [if_neg (by omega)]; exact MPid rfl q9)
        · skip
          refine x_bipush C dX8_keeps_112 (-2) (by decide) ?_
          refine x_goto (tgt := 121) C dX8_keeps_114 (by decide) ?_
          refine x_iret C G dX8_keeps_121 ?_ (by decide) (by decide)
          have cp58 : MP D am h (cu (cu (cu (cu (cu m 24 0 (fu (m 24 0) (Int.toNat p) x.1)) 25 0 (fu (m 25 0) (Int.toNat p) x.2.1)) 26 0 (fu (m 26 0) (Int.toNat p) (((x.2.2.1 : Nat) : Int)))) 22 0 (fu (m 22 0) (Int.toNat p) x.2.2.2)) 20 0 (fu (m 20 0) (Int.toNat (((v : Nat) : Int))) (m 27 0 p.toNat))) h51 := by rw [e52, e26, e18, e11, e5]; exact (MP.up (MP.up (MP.up (MP.up (MP.up (MP.rf hR) (lm0 (by decide)) (fu (m 24 0) (Int.toNat p) x.1) rfl) (lm0 (by decide)) (fu (m 25 0) (Int.toNat p) x.2.1) rfl) (lm0 (by decide)) (fu (m 26 0) (Int.toNat p) (((x.2.2.1 : Nat) : Int))) rfl) (lm0 (by decide)) (fu (m 22 0) (Int.toNat p) x.2.2.2) rfl) (lm0 (by decide)) (fu (m 20 0) (Int.toNat (((v : Nat) : Int))) (m 27 0 p.toNat)) rfl)
          refine ⟨?_, ?_⟩
          · first
              | (exfalso; omega)
              | rw [show kpR x = -1 from if_pos (by omega)]
              | rw [show kpR x = -2 from (if_neg (by omega)).trans (if_pos (by omega))]
              | rw [show kpR x = x.1 from (if_neg (by omega)).trans (if_neg (by omega))]
          · have q9 := cp58
            unfold kpX
            first
              | (rw [if_pos (by omega)]; exact q9)
              | (rw [if_neg (by omega)]; exact MPid rfl q9)
      · skip
        refine x_iconst C dX8_keeps_100 (-1) (by decide) ?_
        refine x_goto (tgt := 121) C dX8_keeps_101 (by decide) ?_
        refine x_iret C G dX8_keeps_121 ?_ (by decide) (by decide)
        have cp59 : MP D am h (cu (cu (cu (cu (cu m 24 0 (fu (m 24 0) (Int.toNat p) x.1)) 25 0 (fu (m 25 0) (Int.toNat p) x.2.1)) 26 0 (fu (m 26 0) (Int.toNat p) (((x.2.2.1 : Nat) : Int)))) 22 0 (fu (m 22 0) (Int.toNat p) x.2.2.2)) 20 0 (fu (m 20 0) (Int.toNat (((v : Nat) : Int))) (m 27 0 p.toNat))) h51 := by rw [e52, e26, e18, e11, e5]; exact (MP.up (MP.up (MP.up (MP.up (MP.up (MP.rf hR) (lm0 (by decide)) (fu (m 24 0) (Int.toNat p) x.1) rfl) (lm0 (by decide)) (fu (m 25 0) (Int.toNat p) x.2.1) rfl) (lm0 (by decide)) (fu (m 26 0) (Int.toNat p) (((x.2.2.1 : Nat) : Int))) rfl) (lm0 (by decide)) (fu (m 22 0) (Int.toNat p) x.2.2.2) rfl) (lm0 (by decide)) (fu (m 20 0) (Int.toNat (((v : Nat) : Int))) (m 27 0 p.toNat)) rfl)
        refine ⟨?_, ?_⟩
        · first
            | (exfalso; omega)
            | rw [show kpR x = -1 from if_pos (by omega)]
            | rw [show kpR x = -2 from (if_neg (by omega)).trans (if_pos (by omega))]
            | rw [show kpR x = x.1 from (if_neg (by omega)).trans (if_neg (by omega))]
        · have q9 := cp59
          unfold kpX
          first
            | (rw [if_pos (by omega)]; exact q9)
            | (rw [if_neg (by omega)]; exact MPid rfl q9)
    · skip
      refine x_aload_n C dX8_keeps_65 0 rfl ?_
      refine x_get C (v := .ref (am 27 0)) f28 (T := TX8) rfl kX8_keeps_1 27 (by decide) kX8_keeps_11 rfl dX8_keeps_66 ?_
      refine x_iload_n C dX8_keeps_69 1 rfl ?_
      have f60 : h (am 27 0) = some (eI D 6 (m 27 0)) := hR.1 27 0 (lm0 (by decide))
      have f61 : h4 (am 27 0) = some (eI D 6 (m 27 0)) := by rw [e5, hu_n (hR.ne (lm0 (by decide)) (lm0 (by decide)) (fun zz9 => absurd zz9.1 (by decide)))]; exact f60
      have f62 : h10 (am 27 0) = some (eI D 6 (m 27 0)) := by rw [e11, hu_n (hR.ne (lm0 (by decide)) (lm0 (by decide)) (fun zz9 => absurd zz9.1 (by decide)))]; exact f61
      have f63 : h17 (am 27 0) = some (eI D 6 (m 27 0)) := by rw [e18, hu_n (hR.ne (lm0 (by decide)) (lm0 (by decide)) (fun zz9 => absurd zz9.1 (by decide)))]; exact f62
      have f64 : h25 (am 27 0) = some (eI D 6 (m 27 0)) := by rw [e26, hu_n (hR.ne (lm0 (by decide)) (lm0 (by decide)) (fun zz9 => absurd zz9.1 (by decide)))]; exact f63
      refine x_iald C f64 ⟨by omega, by omega⟩ (by decide) dX8_keeps_70 ?_
      refine x_topv (show (m 27 0) (Int.toNat p) = m 27 0 p.toNat from by rfl) ?_
      refine x_aload_n C dX8_keeps_71 0 rfl ?_
      refine x_get C (v := .ref (am 20 0)) f28 (T := TX8) rfl kX8_keeps_1 20 (by decide) kX8_keeps_10 rfl dX8_keeps_72 ?_
      refine x_iload_n C dX8_keeps_75 2 rfl ?_
      refine x_iald C f44 ⟨by omega, by omega⟩ (by decide) dX8_keeps_76 ?_
      refine x_topv (show (m 20 0) (Int.toNat (((v : Nat) : Int))) = m 20 0 v from by rfl) ?_
      refine x_icmp_ge (tgt := 92) C dX8_keeps_77 (by decide) (by omega) (by omega) (fun c65 => ?_) (fun c65 => ?_)
      · skip
        refine x_aload_n C dX8_keeps_92 0 rfl ?_
        refine x_get C (v := vI (x.2.2.2)) f28 (T := TX8) rfl kX8_keeps_1 34 (by decide) kX8_keeps_8 rfl dX8_keeps_93 ?_
        refine x_iconst C dX8_keeps_96 3 (by decide) ?_
        refine x_icmp_ne (tgt := 104) C dX8_keeps_97 (by decide) (by omega) (by omega) (fun c66 => ?_) (fun c66 => ?_)
        · skip
          refine x_aload_n C dX8_keeps_104 0 rfl ?_
          refine x_get C (v := vI (x.2.2.2)) f28 (T := TX8) rfl kX8_keeps_1 34 (by decide) kX8_keeps_8 rfl dX8_keeps_105 ?_
          refine x_iconst C dX8_keeps_108 2 (by decide) ?_
          refine x_icmp_ne (tgt := 117) C dX8_keeps_109 (by decide) (by omega) (by omega) (fun c67 => ?_) (fun c67 => ?_)
          · skip
            refine x_aload_n C dX8_keeps_117 0 rfl ?_
            refine x_get C (v := vI (x.1)) f28 (T := TX8) rfl kX8_keeps_1 31 (by decide) kX8_keeps_2 rfl dX8_keeps_118 ?_
            refine x_iret C G dX8_keeps_121 ?_ (by decide) (by decide)
            have cp68 : MP D am h (cu (cu (cu (cu m 24 0 (fu (m 24 0) (Int.toNat p) x.1)) 25 0 (fu (m 25 0) (Int.toNat p) x.2.1)) 26 0 (fu (m 26 0) (Int.toNat p) (((x.2.2.1 : Nat) : Int)))) 22 0 (fu (m 22 0) (Int.toNat p) x.2.2.2)) h25 := by rw [e26, e18, e11, e5]; exact (MP.up (MP.up (MP.up (MP.up (MP.rf hR) (lm0 (by decide)) (fu (m 24 0) (Int.toNat p) x.1) rfl) (lm0 (by decide)) (fu (m 25 0) (Int.toNat p) x.2.1) rfl) (lm0 (by decide)) (fu (m 26 0) (Int.toNat p) (((x.2.2.1 : Nat) : Int))) rfl) (lm0 (by decide)) (fu (m 22 0) (Int.toNat p) x.2.2.2) rfl)
            refine ⟨?_, ?_⟩
            · first
                | (exfalso; omega)
                | rw [show kpR x = -1 from if_pos (by omega)]
                | rw [show kpR x = -2 from (if_neg (by omega)).trans (if_pos (by omega))]
                | rw [show kpR x = x.1 from (if_neg (by omega)).trans (if_neg (by omega))]
            · have q9 := cp68
              unfold kpX
              first
                | (rw [if_pos (by omega)]; exact q9)
                | (rw [if_neg (by omega)]; exact MPid rfl q9)
          · skip
            refine x_bipush C dX8_keeps_112 (-2) (by decide) ?_
            refine x_goto (tgt := 121) C dX8_keeps_114 (by decide) ?_
            refine x_iret C G dX8_keeps_121 ?_ (by decide) (by decide)
            have cp69 : MP D am h (cu (cu (cu (cu m 24 0 (fu (m 24 0) (Int.toNat p) x.1)) 25 0 (fu (m 25 0) (Int.toNat p) x.2.1)) 26 0 (fu (m 26 0) (Int.toNat p) (((x.2.2.1 : Nat) : Int)))) 22 0 (fu (m 22 0) (Int.toNat p) x.2.2.2)) h25 := by rw [e26, e18, e11, e5]; exact (MP.up (MP.up (MP.up (MP.up (MP.rf hR) (lm0 (by decide)) (fu (m 24 0) (Int.toNat p) x.1) rfl) (lm0 (by decide)) (fu (m 25 0) (Int.toNat p) x.2.1) rfl) (lm0 (by decide)) (fu (m 26 0) (Int.toNat p) (((x.2.2.1 : Nat) : Int))) rfl) (lm0 (by decide)) (fu (m 22 0) (Int.toNat p) x.2.2.2) rfl)
            refine ⟨?_, ?_⟩
            · first
                | (exfalso; omega)
                | rw [show kpR x = -1 from if_pos (by omega)]
                | rw [show kpR x = -2 from (if_neg (by omega)).trans (if_pos (by omega))]
                | rw [show kpR x = x.1 from (if_neg (by omega)).trans (if_neg (by omega))]
            · have q9 := cp69
              unfold kpX
              first
                | (rw [if_pos (by omega)]; exact q9)
                | (rw [if_neg (by omega)]; exact MPid rfl q9)
        · skip
          refine x_iconst C dX8_keeps_100 (-1) (by decide) ?_
          refine x_goto (tgt := 121) C dX8_keeps_101 (by decide) ?_
          refine x_iret C G dX8_keeps_121 ?_ (by decide) (by decide)
          have cp70 : MP D am h (cu (cu (cu (cu m 24 0 (fu (m 24 0) (Int.toNat p) x.1)) 25 0 (fu (m 25 0) (Int.toNat p) x.2.1)) 26 0 (fu (m 26 0) (Int.toNat p) (((x.2.2.1 : Nat) : Int)))) 22 0 (fu (m 22 0) (Int.toNat p) x.2.2.2)) h25 := by rw [e26, e18, e11, e5]; exact (MP.up (MP.up (MP.up (MP.up (MP.rf hR) (lm0 (by decide)) (fu (m 24 0) (Int.toNat p) x.1) rfl) (lm0 (by decide)) (fu (m 25 0) (Int.toNat p) x.2.1) rfl) (lm0 (by decide)) (fu (m 26 0) (Int.toNat p) (((x.2.2.1 : Nat) : Int))) rfl) (lm0 (by decide)) (fu (m 22 0) (Int.toNat p) x.2.2.2) rfl)
          refine ⟨?_, ?_⟩
          · first
              | (exfalso; omega)
              | rw [show kpR x = -1 from if_pos (by omega)]
              | rw [show kpR x = -2 from (if_neg (by omega)).trans (if_pos (by omega))]
              | rw [show kpR x = x.1 from (if_neg (by omega)).trans (if_neg (by omega))]
          · have q9 := cp70
            unfold kpX
            first
              | (rw [if_pos (by omega)]; exact q9)
              | (rw [if_neg (by omega)]; exact MPid rfl q9)
      · skip
        refine x_aload_n C dX8_keeps_80 0 rfl ?_
        refine x_get C (v := .ref (am 20 0)) f28 (T := TX8) rfl kX8_keeps_1 20 (by decide) kX8_keeps_10 rfl dX8_keeps_81 ?_
        refine x_iload_n C dX8_keeps_84 2 rfl ?_
        refine x_aload_n C dX8_keeps_85 0 rfl ?_
        refine x_get C (v := .ref (am 27 0)) f28 (T := TX8) rfl kX8_keeps_1 27 (by decide) kX8_keeps_11 rfl dX8_keeps_86 ?_
        refine x_iload_n C dX8_keeps_89 1 rfl ?_
        refine x_iald C f64 ⟨by omega, by omega⟩ (by decide) dX8_keeps_90 ?_
        refine x_topv (show (m 27 0) (Int.toNat p) = m 27 0 p.toNat from by rfl) ?_
        refine x_iast C f44 ⟨by omega, by omega⟩ (by decide) dX8_keeps_91 (x_hn (fun h71 e72 => ?_))
        have f73 : h71 (am 20 0) = some (eI D 20 (fu (m 20 0) (Int.toNat (((v : Nat) : Int))) (m 27 0 p.toNat))) := by rw [e72]; exact hu_s
        refine x_aload_n C dX8_keeps_92 0 rfl ?_
        have f74 : h71 (am 0 0) = some (eO 8 [vI (m 0 0 0), .ref (am 1 0), vI (m 0 0 2), .ref (am 3 0), .ref (am 4 0), .ref (am 5 0), .ref (am 6 0), .ref (am 7 0), .ref (am 8 0), .ref (am 9 0), .ref (am 10 0), .ref (am 11 0), .ref (am 12 0), .ref (am 13 0), vI (m 0 0 14), .ref (am 15 0), .ref (am 16 0), .ref (am 17 0), .ref (am 18 0), .ref (am 19 0), .ref (am 20 0), .ref (am 21 0), .ref (am 22 0), .ref (am 23 0), .ref (am 24 0), .ref (am 25 0), .ref (am 26 0), .ref (am 27 0), .ref (am 28 0), .ref (am 29 0), vI (((m 0 0 30).toNat : Nat) : Int), vI (x.1), vI (x.2.1), vI ((x.2.2.1 : Nat) : Int), vI (x.2.2.2), .ref (am 35 0), .ref (am 36 0), .ref (am 37 0)]) := by rw [e72, hu_n (hR.ne (lm0 (by decide)) (lm0 (by decide)) (fun zz9 => absurd zz9.1 (by decide)))]; exact f28
        refine x_get C (v := vI (x.2.2.2)) f74 (T := TX8) rfl kX8_keeps_1 34 (by decide) kX8_keeps_8 rfl dX8_keeps_93 ?_
        refine x_iconst C dX8_keeps_96 3 (by decide) ?_
        refine x_icmp_ne (tgt := 104) C dX8_keeps_97 (by decide) (by omega) (by omega) (fun c75 => ?_) (fun c75 => ?_)
        · skip
          refine x_aload_n C dX8_keeps_104 0 rfl ?_
          refine x_get C (v := vI (x.2.2.2)) f74 (T := TX8) rfl kX8_keeps_1 34 (by decide) kX8_keeps_8 rfl dX8_keeps_105 ?_
          refine x_iconst C dX8_keeps_108 2 (by decide) ?_
          refine x_icmp_ne (tgt := 117) C dX8_keeps_109 (by decide) (by omega) (by omega) (fun c76 => ?_) (fun c76 => ?_)
          · skip
            refine x_aload_n C dX8_keeps_117 0 rfl ?_
            refine x_get C (v := vI (x.1)) f74 (T := TX8) rfl kX8_keeps_1 31 (by decide) kX8_keeps_2 rfl dX8_keeps_118 ?_
            refine x_iret C G dX8_keeps_121 ?_ (by decide) (by decide)
            have cp77 : MP D am h (cu (cu (cu (cu (cu m 24 0 (fu (m 24 0) (Int.toNat p) x.1)) 25 0 (fu (m 25 0) (Int.toNat p) x.2.1)) 26 0 (fu (m 26 0) (Int.toNat p) (((x.2.2.1 : Nat) : Int)))) 22 0 (fu (m 22 0) (Int.toNat p) x.2.2.2)) 20 0 (fu (m 20 0) (Int.toNat (((v : Nat) : Int))) (m 27 0 p.toNat))) h71 := by rw [e72, e26, e18, e11, e5]; exact (MP.up (MP.up (MP.up (MP.up (MP.up (MP.rf hR) (lm0 (by decide)) (fu (m 24 0) (Int.toNat p) x.1) rfl) (lm0 (by decide)) (fu (m 25 0) (Int.toNat p) x.2.1) rfl) (lm0 (by decide)) (fu (m 26 0) (Int.toNat p) (((x.2.2.1 : Nat) : Int))) rfl) (lm0 (by decide)) (fu (m 22 0) (Int.toNat p) x.2.2.2) rfl) (lm0 (by decide)) (fu (m 20 0) (Int.toNat (((v : Nat) : Int))) (m 27 0 p.toNat)) rfl)
            refine ⟨?_, ?_⟩
            · first
                | (exfalso; omega)
                | rw [show kpR x = -1 from if_pos (by omega)]
                | rw [show kpR x = -2 from (if_neg (by omega)).trans (if_pos (by omega))]
                | rw [show kpR x = x.1 from (if_neg (by omega)).trans (if_neg (by omega))]
            · have q9 := cp77
              unfold kpX
              first
                | (rw [if_pos (by omega)]; exact q9)
                | (rw [if_neg (by omega)]; exact MPid rfl q9)
          · skip
            refine x_bipush C dX8_keeps_112 (-2) (by decide) ?_
            refine x_goto (tgt := 121) C dX8_keeps_114 (by decide) ?_
            refine x_iret C G dX8_keeps_121 ?_ (by decide) (by decide)
            have cp78 : MP D am h (cu (cu (cu (cu (cu m 24 0 (fu (m 24 0) (Int.toNat p) x.1)) 25 0 (fu (m 25 0) (Int.toNat p) x.2.1)) 26 0 (fu (m 26 0) (Int.toNat p) (((x.2.2.1 : Nat) : Int)))) 22 0 (fu (m 22 0) (Int.toNat p) x.2.2.2)) 20 0 (fu (m 20 0) (Int.toNat (((v : Nat) : Int))) (m 27 0 p.toNat))) h71 := by rw [e72, e26, e18, e11, e5]; exact (MP.up (MP.up (MP.up (MP.up (MP.up (MP.rf hR) (lm0 (by decide)) (fu (m 24 0) (Int.toNat p) x.1) rfl) (lm0 (by decide)) (fu (m 25 0) (Int.toNat p) x.2.1) rfl) (lm0 (by decide)) (fu (m 26 0) (Int.toNat p) (((x.2.2.1 : Nat) : Int))) rfl) (lm0 (by decide)) (fu (m 22 0) (Int.toNat p) x.2.2.2) rfl) (lm0 (by decide)) (fu (m 20 0) (Int.toNat (((v : Nat) : Int))) (m 27 0 p.toNat)) rfl)
            refine ⟨?_, ?_⟩
            · first
                | (exfalso; omega)
                | rw [show kpR x = -1 from if_pos (by omega)]
                | rw [show kpR x = -2 from (if_neg (by omega)).trans (if_pos (by omega))]
                | rw [show kpR x = x.1 from (if_neg (by omega)).trans (if_neg (by omega))]
            · have q9 := cp78
              unfold kpX
              first
                | (rw [if_pos (by omega)]; exact q9)
                | (rw [if_neg (by omega)]; exact MPid rfl q9)
        · skip
          refine x_iconst C dX8_keeps_100 (-1) (by decide) ?_
          refine x_goto (tgt := 121) C dX8_keeps_101 (by decide) ?_
          refine x_iret C G dX8_keeps_121 ?_ (by decide) (by decide)
          have cp79 : MP D am h (cu (cu (cu (cu (cu m 24 0 (fu (m 24 0) (Int.toNat p) x.1)) 25 0 (fu (m 25 0) (Int.toNat p) x.2.1)) 26 0 (fu (m 26 0) (Int.toNat p) (((x.2.2.1 : Nat) : Int)))) 22 0 (fu (m 22 0) (Int.toNat p) x.2.2.2)) 20 0 (fu (m 20 0) (Int.toNat (((v : Nat) : Int))) (m 27 0 p.toNat))) h71 := by rw [e72, e26, e18, e11, e5]; exact (MP.up (MP.up (MP.up (MP.up (MP.up (MP.rf hR) (lm0 (by decide)) (fu (m 24 0) (Int.toNat p) x.1) rfl) (lm0 (by decide)) (fu (m 25 0) (Int.toNat p) x.2.1) rfl) (lm0 (by decide)) (fu (m 26 0) (Int.toNat p) (((x.2.2.1 : Nat) : Int))) rfl) (lm0 (by decide)) (fu (m 22 0) (Int.toNat p) x.2.2.2) rfl) (lm0 (by decide)) (fu (m 20 0) (Int.toNat (((v : Nat) : Int))) (m 27 0 p.toNat)) rfl)
          refine ⟨?_, ?_⟩
          · first
              | (exfalso; omega)
              | rw [show kpR x = -1 from if_pos (by omega)]
              | rw [show kpR x = -2 from (if_neg (by omega)).trans (if_pos (by omega))]
              | rw [show kpR x = x.1 from (if_neg (by omega)).trans (if_neg (by omega))]
          · have q9 := cp79
            unfold kpX
            first
              | (rw [if_pos (by omega)]; exact q9)
              | (rw [if_neg (by omega)]; exact MPid rfl q9)

theorem kX8_run_0 : Cond.fieldLink "LedgeLevelsModel" 101 "LedgeLevelsModel" "thrown" "I" ∈ wsX8_run := by decide +kernel
theorem kX8_run_1 : ∀ w ∈ wsX80, w ∈ wsX8_run := by decide +kernel
theorem kX8_run_2 : Cond.fieldLink "LedgeLevelsModel" 55 "LedgeLevelsModel" "best" "[I" ∈ wsX8_run := by decide +kernel
theorem kX8_run_3 : Cond.fieldLink "LedgeLevelsModel" 70 "LedgeLevelsModel" "runWork" "[I" ∈ wsX8_run := by decide +kernel
theorem kX8_run_4 : Cond.fieldLink "LedgeLevelsModel" 82 "LedgeLevelsModel" "runSteps" "[I" ∈ wsX8_run := by decide +kernel
theorem kX8_run_5 : Cond.fieldLink "LedgeLevelsModel" 52 "LedgeLevelsModel" "from" "[I" ∈ wsX8_run := by decide +kernel
set_option maxRecDepth 100000 in
set_option maxHeartbeats 4000000 in
theorem c_X8_run {l : Launch} {D : va_G} {A : Nat → Prop} {h : vh} {am : AD} {m : CS} {u v : Int}  (hR : RepM D am m h) (hM1 : Mk1 m) (hi_u : -2147483648 ≤ u ∧ u ≤ 2147483647) (hi_v : -2147483648 ≤ v ∧ v ≤ 2147483647) (hbst : ∀ j : Nat, (j : Int) < m 0 0 14 → -1 ≤ m 18 0 j ∧ m 18 0 j ≤ 7000) (hG16 : ∀ i j : Nat, (i : Int) < m 0 0 14 → j < 96 → 0 ≤ m 16 0 (96 * i + j) ∧ m 16 0 (96 * i + j) ≤ 8) (hKW : ∀ i : Nat, (i : Int) < m 0 0 14 → lyA (rwM (m 16 0) (96 * i)) 96 ≤ 7) (hGK : GK m) (hfrm : ∀ i : Nat, (i : Int) < m 0 0 14 → 0 ≤ m 17 0 i ∧ m 17 0 i ≤ 95) (hrec : ∀ i : Nat, (i : Int) < m 0 0 14 → -1 ≤ m 20 0 i ∧ m 20 0 i ≤ 300) : MX l D A yX8_run wsX8_run { frames := 2, cells := 0, slots := 0, locals := 43 } [.ref (am 0 0), vI u, vI v] h (fun rv h' => ∃ (r : Int) (m1 : CS), rv = some (vI r) ∧ MP D am h (m1) h' ∧ ((m1 0 0 0 = 1 ∧ (¬ (0 ≤ u ∧ u < 6) ∨ ¬ (0 ≤ v ∧ v < m 0 0 14)) ∧ SM m m1) ∨ (m1 0 0 0 = 2 ∧ ((0 ≤ u ∧ u < 6) ∧ (0 ≤ v ∧ v < m 0 0 14) ∧ m 18 0 v.toNat = -1) ∧ SM m m1) ∨ (m1 0 0 0 = 0 ∧ ((0 ≤ u ∧ u < 6) ∧ (0 ≤ v ∧ v < m 0 0 14) ∧ m 18 0 v.toNat ≠ -1) ∧ (∃ x : B4, x = (X0r (lyG (rwM (m 16 0) (96 * v.toNat)) (m 28 0) 96) (kbr (rwM (m 16 0) (96 * v.toNat)) (m 29 0)) (m 17 0 v.toNat)) ∧ r = kpR x ∧ SM (kpX (cu (cu m 23 0 (fu (m 23 0) u.toNat v)) 27 0 (fu (m 27 0) u.toNat 0)) u.toNat v.toNat x) m1)))) := by
  refine MX.of (cc := cX8_run) (maxL := 3) (ret := (some .int)) [(0, .ref (am 0 0)), (1, vI u), (2, vI v)] (by decide +kernel) rfl rfl (Nat.le_of_ble_eq_true rfl) ?_
  intro κ C hkl G
  subst hkl
  have C : CX κ "LedgeLevelsModel" "run" cX8_run wsX8_run { frames := 2, cells := 0, slots := 0, locals := 43 } D A 3 := C
  have hiz : nq (D.1 20) (D.1 21) := cx_iz C
  obtain ⟨hM1a, hM1b⟩ := id hM1
  refine x_aload_n C dX8_run_0 0 rfl ?_
  refine x_iconst C dX8_run_1 0 (by decide) ?_
  have f1 : h (am 0 0) = some (eO 8 [vI (m 0 0 0), .ref (am 1 0), vI (m 0 0 2), .ref (am 3 0), .ref (am 4 0), .ref (am 5 0), .ref (am 6 0), .ref (am 7 0), .ref (am 8 0), .ref (am 9 0), .ref (am 10 0), .ref (am 11 0), .ref (am 12 0), .ref (am 13 0), vI (m 0 0 14), .ref (am 15 0), .ref (am 16 0), .ref (am 17 0), .ref (am 18 0), .ref (am 19 0), .ref (am 20 0), .ref (am 21 0), .ref (am 22 0), .ref (am 23 0), .ref (am 24 0), .ref (am 25 0), .ref (am 26 0), .ref (am 27 0), .ref (am 28 0), .ref (am 29 0), vI (((m 0 0 30).toNat : Nat) : Int), vI (m 0 0 31), vI (m 0 0 32), vI (((m 0 0 33).toNat : Nat) : Int), vI (m 0 0 34), .ref (am 35 0), .ref (am 36 0), .ref (am 37 0)]) := hR.1 0 0 (lm0 (by decide))
  refine x_put C f1 (T := TX8) rfl tyX8_ok nmX8 kX8_run_1 0 (by decide) kX8_run_0 rfl (fs' := [vI 0, .ref (am 1 0), vI (m 0 0 2), .ref (am 3 0), .ref (am 4 0), .ref (am 5 0), .ref (am 6 0), .ref (am 7 0), .ref (am 8 0), .ref (am 9 0), .ref (am 10 0), .ref (am 11 0), .ref (am 12 0), .ref (am 13 0), vI (m 0 0 14), .ref (am 15 0), .ref (am 16 0), .ref (am 17 0), .ref (am 18 0), .ref (am 19 0), .ref (am 20 0), .ref (am 21 0), .ref (am 22 0), .ref (am 23 0), .ref (am 24 0), .ref (am 25 0), .ref (am 26 0), .ref (am 27 0), .ref (am 28 0), .ref (am 29 0), vI (((m 0 0 30).toNat : Nat) : Int), vI (m 0 0 31), vI (m 0 0 32), vI (((m 0 0 33).toNat : Nat) : Int), vI (m 0 0 34), .ref (am 35 0), .ref (am 36 0), .ref (am 37 0)]) rfl rfl (by simp) rfl dX8_run_2 (x_hn (fun h2 e3 => ?_))
  have f4 : h2 (am 0 0) = some (eO 8 [vI 0, .ref (am 1 0), vI (m 0 0 2), .ref (am 3 0), .ref (am 4 0), .ref (am 5 0), .ref (am 6 0), .ref (am 7 0), .ref (am 8 0), .ref (am 9 0), .ref (am 10 0), .ref (am 11 0), .ref (am 12 0), .ref (am 13 0), vI (m 0 0 14), .ref (am 15 0), .ref (am 16 0), .ref (am 17 0), .ref (am 18 0), .ref (am 19 0), .ref (am 20 0), .ref (am 21 0), .ref (am 22 0), .ref (am 23 0), .ref (am 24 0), .ref (am 25 0), .ref (am 26 0), .ref (am 27 0), .ref (am 28 0), .ref (am 29 0), vI (((m 0 0 30).toNat : Nat) : Int), vI (m 0 0 31), vI (m 0 0 32), vI (((m 0 0 33).toNat : Nat) : Int), vI (m 0 0 34), .ref (am 35 0), .ref (am 36 0), .ref (am 37 0)]) := by rw [e3]; exact hu_s
  refine x_iload_n C dX8_run_5 1 rfl ?_
  refine x_callS C (n := 1) (As := [vI u]) (rest := []) (c_X8_isPerson (by omega)) gX8_run_X8_isPerson (by decide +kernel) rfl rfl rfl (Nat.le_of_ble_eq_true rfl) ⟨by decide, by decide⟩ ⟨(by decide), (by decide)⟩ dX8_run_6 (fun rv6 h7 hp8 => ?_)
  obtain ⟨rfl, e9⟩ := hp8
  obtain rfl := e9.symm
  have hbr5 := bI_cs ((0 ≤ u ∧ u ≤ 5))
  refine x_if_eq (tgt := 20) C dX8_run_9 (by decide) (by omega) (fun c10 => ?_) (fun c10 => ?_)
  · skip
    refine x_aload_n C dX8_run_20 0 rfl ?_
    refine x_iconst C dX8_run_21 1 (by decide) ?_
    have cp11 : MP D am h (cu m 0 0 ((fu (m 0 0) 0 0))) h2 := by rw [e3]; exact (MP.up (MP.rf hR) (lm0 (by decide)) ((fu (m 0 0) 0 0)) rfl)
    refine x_callV C (n := 1) (qc := (RX8, TX8, 38)) (As := [vI 1]) (rest := []) (c_X8_fails (cp11.1)) gX8_run_X8_fails (by decide +kernel) f4 rfl rfl rfl rfl (Nat.le_of_ble_eq_true rfl) ⟨by decide, by decide⟩ ⟨(by decide), (by decide)⟩ dX8_run_22 (fun rv12 h13 hp14 => ?_)
    obtain ⟨rfl, cp16⟩ := hp14
    have cp17 : MP D am h ((cu ((cu m 0 0 ((fu (m 0 0) 0 0)))) 0 0 ((fu (((cu m 0 0 ((fu (m 0 0) 0 0)))) 0 0) 0 1)))) h13 := MP.trans cp11 cp16
    refine x_iret C G dX8_run_25 ?_ (by decide) (by decide)
    exact ⟨_, _, rfl, cp17, Or.inl ⟨rfl, by omega, (by repeat (first | exact SM.rf | refine SM.th ?_ | refine SM.rem ?_ | refine SM.o2 ?_ | refine SM.o14 ?_ | refine SM.sr ?_ | refine SM.ly (by assumption) (by assumption) ?_ | refine SM.bm ?_ | refine SM.st ?_ | refine SM.mv ?_ | refine SM.up (by decide) ?_))⟩⟩
  · skip
    refine x_aload_n C dX8_run_12 0 rfl ?_
    refine x_iload_n C dX8_run_13 2 rfl ?_
    have cp19 : MP D am h (cu m 0 0 ((fu (m 0 0) 0 0))) h2 := by rw [e3]; exact (MP.up (MP.rf hR) (lm0 (by decide)) ((fu (m 0 0) 0 0)) rfl)
    refine x_callV C (n := 1) (qc := (RX8, TX8, 38)) (As := [vI v]) (rest := []) (c_X8_isWork (cp19.1) (hM1) (by omega)) gX8_run_X8_isWork (by decide +kernel) f4 rfl rfl rfl rfl (Nat.le_of_ble_eq_true rfl) ⟨by decide, by decide⟩ ⟨(by decide), (by decide)⟩ dX8_run_14 (fun rv20 h21 hp22 => ?_)
    obtain ⟨rfl, e23⟩ := hp22
    obtain rfl := e23.symm
    refine x_topv (show bI (0 ≤ v ∧ v ≤ ((cu m 0 0 ((fu (m 0 0) 0 0)))) 0 0 14 - 1) = bI (0 ≤ v ∧ v ≤ m 0 0 14 - 1) from by rfl) ?_
    have hbr18 := bI_cs ((0 ≤ v ∧ v ≤ m 0 0 14 - 1))
    refine x_if_ne (tgt := 26) C dX8_run_17 (by decide) (by omega) (fun c24 => ?_) (fun c24 => ?_)
    · skip
      have hb9 := hbst v.toNat (by omega)
      refine x_aload_n C dX8_run_26 0 rfl ?_
      refine x_get C (v := .ref (am 18 0)) f4 (T := TX8) rfl kX8_run_1 18 (by decide) kX8_run_2 rfl dX8_run_27 ?_
      refine x_iload_n C dX8_run_30 2 rfl ?_
      have f25 : h (am 18 0) = some (eI D 20 (m 18 0)) := hR.1 18 0 (lm0 (by decide))
      have f26 : h2 (am 18 0) = some (eI D 20 (m 18 0)) := by rw [e3, hu_n (hR.ne (lm0 (by decide)) (lm0 (by decide)) (fun zz9 => absurd zz9.1 (by decide)))]; exact f25
      refine x_iald C f26 ⟨by omega, by omega⟩ (by decide) dX8_run_31 ?_
      refine x_topv (show (m 18 0) (Int.toNat v) = m 18 0 v.toNat from by rfl) ?_
      refine x_iconst C dX8_run_32 (-1) (by decide) ?_
      refine x_icmp_ne (tgt := 42) C dX8_run_33 (by decide) (by omega) (by omega) (fun c27 => ?_) (fun c27 => ?_)
      · skip
        obtain ⟨sr9, hsr0⟩ : ∃ sr9, sr9 = rwM (m 16 0) (96 * (v).toNat) := ⟨_, rfl⟩
        have hs9 : ∀ j : Nat, j < 96 → sr9 j = (if (1 : Int) = 0 then m 4 0 (Int.toNat (96 * (v) + j)) else m 16 0 (Int.toNat (96 * (v) + j))) := fun j hj => by
          rw [hsr0, if_neg (by decide), show Int.toNat (96 * (v) + (j : Int)) = 96 * (v).toNat + j by omega]; exact if_pos hj
        have hsr9 : ∀ j : Nat, 0 ≤ sr9 j ∧ sr9 j ≤ 8 := by rw [hsr0]; exact rwM_r (fun j hj => hG16 (v).toNat j (by omega) hj)
        have hA9 : lyA sr9 96 ≤ 7 := by rw [hsr0]; exact hKW (v).toNat (by omega)
        have hg28 : ∀ j, 0 ≤ lyG sr9 (m 28 0) 96 j ∧ lyG sr9 (m 28 0) 96 j ≤ 8 := lyG_r hsr9 hGK.1 96
        have hb29 : ∀ j, 0 ≤ lyB sr9 (m 29 0) 96 j ∧ lyB sr9 (m 29 0) 96 j ≤ 7 := lyB_r hA9 hGK.2
        have hal9 : 0 ≤ ((lyA sr9 96 : Nat) : Int) ∧ ((lyA sr9 96 : Nat) : Int) < 8 := by omega
        refine x_aload_n C dX8_run_42 0 rfl ?_
        refine x_get C (v := .ref (am 23 0)) f4 (T := TX8) rfl kX8_run_1 23 (by decide) kX8_run_3 rfl dX8_run_43 ?_
        refine x_iload_n C dX8_run_46 1 rfl ?_
        refine x_iload_n C dX8_run_47 2 rfl ?_
        have f28 : h (am 23 0) = some (eI D 6 (m 23 0)) := hR.1 23 0 (lm0 (by decide))
        have f29 : h2 (am 23 0) = some (eI D 6 (m 23 0)) := by rw [e3, hu_n (hR.ne (lm0 (by decide)) (lm0 (by decide)) (fun zz9 => absurd zz9.1 (by decide)))]; exact f28
        refine x_iast C f29 ⟨by omega, by omega⟩ (by decide) dX8_run_48 (x_hn (fun h30 e31 => ?_))
        have f32 : h30 (am 23 0) = some (eI D 6 (fu (m 23 0) (Int.toNat u) v)) := by rw [e31]; exact hu_s
        refine x_aload_n C dX8_run_49 0 rfl ?_
        have f33 : h30 (am 0 0) = some (eO 8 [vI 0, .ref (am 1 0), vI (m 0 0 2), .ref (am 3 0), .ref (am 4 0), .ref (am 5 0), .ref (am 6 0), .ref (am 7 0), .ref (am 8 0), .ref (am 9 0), .ref (am 10 0), .ref (am 11 0), .ref (am 12 0), .ref (am 13 0), vI (m 0 0 14), .ref (am 15 0), .ref (am 16 0), .ref (am 17 0), .ref (am 18 0), .ref (am 19 0), .ref (am 20 0), .ref (am 21 0), .ref (am 22 0), .ref (am 23 0), .ref (am 24 0), .ref (am 25 0), .ref (am 26 0), .ref (am 27 0), .ref (am 28 0), .ref (am 29 0), vI (((m 0 0 30).toNat : Nat) : Int), vI (m 0 0 31), vI (m 0 0 32), vI (((m 0 0 33).toNat : Nat) : Int), vI (m 0 0 34), .ref (am 35 0), .ref (am 36 0), .ref (am 37 0)]) := by rw [e31, hu_n (hR.ne (lm0 (by decide)) (lm0 (by decide)) (fun zz9 => absurd zz9.1 (by decide)))]; exact f4
        refine x_get C (v := .ref (am 27 0)) f33 (T := TX8) rfl kX8_run_1 27 (by decide) kX8_run_4 rfl dX8_run_50 ?_
        refine x_iload_n C dX8_run_53 1 rfl ?_
        refine x_iconst C dX8_run_54 0 (by decide) ?_
        have f34 : h (am 27 0) = some (eI D 6 (m 27 0)) := hR.1 27 0 (lm0 (by decide))
        have f35 : h2 (am 27 0) = some (eI D 6 (m 27 0)) := by rw [e3, hu_n (hR.ne (lm0 (by decide)) (lm0 (by decide)) (fun zz9 => absurd zz9.1 (by decide)))]; exact f34
        have f36 : h30 (am 27 0) = some (eI D 6 (m 27 0)) := by rw [e31, hu_n (hR.ne (lm0 (by decide)) (lm0 (by decide)) (fun zz9 => absurd zz9.1 (by decide)))]; exact f35
        refine x_iast C f36 ⟨by omega, by omega⟩ (by decide) dX8_run_55 (x_hn (fun h37 e38 => ?_))
        have f39 : h37 (am 27 0) = some (eI D 6 (fu (m 27 0) (Int.toNat u) 0)) := by rw [e38]; exact hu_s
        refine x_aload_n C dX8_run_56 0 rfl ?_
        refine x_iconst C dX8_run_57 1 (by decide) ?_
        refine x_iload_n C dX8_run_58 2 rfl ?_
        have cp40 : MP D am h (cu (cu (cu m 0 0 ((fu (m 0 0) 0 0))) 23 0 (fu (m 23 0) (Int.toNat u) v)) 27 0 (fu (m 27 0) (Int.toNat u) 0)) h37 := by rw [e38, e31, e3]; exact (MP.up (MP.up (MP.up (MP.rf hR) (lm0 (by decide)) ((fu (m 0 0) 0 0)) rfl) (lm0 (by decide)) (fu (m 23 0) (Int.toNat u) v) rfl) (lm0 (by decide)) (fu (m 27 0) (Int.toNat u) 0) rfl)
        have f41 : h37 (am 0 0) = some (eO 8 [vI 0, .ref (am 1 0), vI (m 0 0 2), .ref (am 3 0), .ref (am 4 0), .ref (am 5 0), .ref (am 6 0), .ref (am 7 0), .ref (am 8 0), .ref (am 9 0), .ref (am 10 0), .ref (am 11 0), .ref (am 12 0), .ref (am 13 0), vI (m 0 0 14), .ref (am 15 0), .ref (am 16 0), .ref (am 17 0), .ref (am 18 0), .ref (am 19 0), .ref (am 20 0), .ref (am 21 0), .ref (am 22 0), .ref (am 23 0), .ref (am 24 0), .ref (am 25 0), .ref (am 26 0), .ref (am 27 0), .ref (am 28 0), .ref (am 29 0), vI (((m 0 0 30).toNat : Nat) : Int), vI (m 0 0 31), vI (m 0 0 32), vI (((m 0 0 33).toNat : Nat) : Int), vI (m 0 0 34), .ref (am 35 0), .ref (am 36 0), .ref (am 37 0)]) := by rw [e38, hu_n (hR.ne (lm0 (by decide)) (lm0 (by decide)) (fun zz9 => absurd zz9.1 (by decide)))]; exact f33
        refine x_callV C (n := 2) (qc := (RX8, TX8, 38)) (As := [vI 1, vI v]) (rest := []) (c_X8_lays (src := sr9) (cp40.1) (by omega) (by omega) (hs9) (hsr9) (hA9)) gX8_run_X8_lays (by decide +kernel) f41 rfl rfl rfl rfl (Nat.le_of_ble_eq_true rfl) ⟨by decide, by decide⟩ ⟨(by decide), (by decide)⟩ dX8_run_59 (fun rv42 h43 hp44 => ?_)
        obtain ⟨rfl, cp46⟩ := hp44
        have cp47 : MP D am h (layN ((cu (cu (cu m 0 0 ((fu (m 0 0) 0 0))) 23 0 (fu (m 23 0) (Int.toNat u) v)) 27 0 (fu (m 27 0) (Int.toNat u) 0))) sr9 96) h43 := MP.trans cp40 cp46
        have hz9 : 0 ≤ m 17 0 v.toNat ∧ m 17 0 v.toNat ≤ 95 := hfrm v.toNat (by omega)
        refine x_aload_n C dX8_run_62 0 rfl ?_
        refine x_aload_n C dX8_run_63 0 rfl ?_
        have f48 : h43 (am 0 0) = some (eO 8 [vI (((layN ((cu (cu (cu m 0 0 ((fu (m 0 0) 0 0))) 23 0 (fu (m 23 0) (Int.toNat u) v)) 27 0 (fu (m 27 0) (Int.toNat u) 0))) sr9 96) 0 0) 0), .ref (am 1 0), vI (((layN ((cu (cu (cu m 0 0 ((fu (m 0 0) 0 0))) 23 0 (fu (m 23 0) (Int.toNat u) v)) 27 0 (fu (m 27 0) (Int.toNat u) 0))) sr9 96) 0 0) 2), .ref (am 3 0), .ref (am 4 0), .ref (am 5 0), .ref (am 6 0), .ref (am 7 0), .ref (am 8 0), .ref (am 9 0), .ref (am 10 0), .ref (am 11 0), .ref (am 12 0), .ref (am 13 0), vI (((layN ((cu (cu (cu m 0 0 ((fu (m 0 0) 0 0))) 23 0 (fu (m 23 0) (Int.toNat u) v)) 27 0 (fu (m 27 0) (Int.toNat u) 0))) sr9 96) 0 0) 14), .ref (am 15 0), .ref (am 16 0), .ref (am 17 0), .ref (am 18 0), .ref (am 19 0), .ref (am 20 0), .ref (am 21 0), .ref (am 22 0), .ref (am 23 0), .ref (am 24 0), .ref (am 25 0), .ref (am 26 0), .ref (am 27 0), .ref (am 28 0), .ref (am 29 0), vI (((((layN ((cu (cu (cu m 0 0 ((fu (m 0 0) 0 0))) 23 0 (fu (m 23 0) (Int.toNat u) v)) 27 0 (fu (m 27 0) (Int.toNat u) 0))) sr9 96) 0 0) 30).toNat : Nat) : Int), vI (((layN ((cu (cu (cu m 0 0 ((fu (m 0 0) 0 0))) 23 0 (fu (m 23 0) (Int.toNat u) v)) 27 0 (fu (m 27 0) (Int.toNat u) 0))) sr9 96) 0 0) 31), vI (((layN ((cu (cu (cu m 0 0 ((fu (m 0 0) 0 0))) 23 0 (fu (m 23 0) (Int.toNat u) v)) 27 0 (fu (m 27 0) (Int.toNat u) 0))) sr9 96) 0 0) 32), vI (((((layN ((cu (cu (cu m 0 0 ((fu (m 0 0) 0 0))) 23 0 (fu (m 23 0) (Int.toNat u) v)) 27 0 (fu (m 27 0) (Int.toNat u) 0))) sr9 96) 0 0) 33).toNat : Nat) : Int), vI (((layN ((cu (cu (cu m 0 0 ((fu (m 0 0) 0 0))) 23 0 (fu (m 23 0) (Int.toNat u) v)) 27 0 (fu (m 27 0) (Int.toNat u) 0))) sr9 96) 0 0) 34), .ref (am 35 0), .ref (am 36 0), .ref (am 37 0)]) := cp47.1.1 0 0 (lm0 (by decide))
        refine x_get C (v := .ref (am 17 0)) f48 (T := TX8) rfl kX8_run_1 17 (by decide) kX8_run_5 rfl dX8_run_64 ?_
        refine x_iload_n C dX8_run_67 2 rfl ?_
        have f49 : h43 (am 17 0) = some (eI D 20 (((layN ((cu (cu (cu m 0 0 ((fu (m 0 0) 0 0))) 23 0 (fu (m 23 0) (Int.toNat u) v)) 27 0 (fu (m 27 0) (Int.toNat u) 0))) sr9 96) 17 0))) := cp47.1.1 17 0 (lm0 (by decide))
        refine x_iald C f49 ⟨by omega, by omega⟩ (by decide) dX8_run_68 ?_
        refine x_topv (show (((layN ((cu (cu (cu m 0 0 ((fu (m 0 0) 0 0))) 23 0 (fu (m 23 0) (Int.toNat u) v)) 27 0 (fu (m 27 0) (Int.toNat u) 0))) sr9 96) 17 0)) (Int.toNat v) = m 17 0 v.toNat from by rfl) ?_
        refine x_callV C (n := 1) (qc := (RX8, TX8, 38)) (As := [vI (m 17 0 v.toNat)]) (rest := []) (c_X8_starts (cp47.1) (hz9) (hg28) (hb29)) gX8_run_X8_starts (by decide +kernel) f48 rfl rfl rfl rfl (Nat.le_of_ble_eq_true rfl) ⟨by decide, by decide⟩ ⟨(by decide), (by decide)⟩ dX8_run_69 (fun rv50 h51 hp52 => ?_)
        obtain ⟨rfl, cp54⟩ := hp52
        have cp55 : MP D am h (stM ((layN ((cu (cu (cu m 0 0 ((fu (m 0 0) 0 0))) 23 0 (fu (m 23 0) (Int.toNat u) v)) 27 0 (fu (m 27 0) (Int.toNat u) 0))) sr9 96)) (m 17 0 v.toNat)) h51 := MP.trans cp47 cp54
        obtain ⟨x9, hx9⟩ : ∃ x9 : B4, x9 = (X0r (lyG sr9 (m 28 0) 96) (kbr sr9 (m 29 0)) (m 17 0 v.toNat)) := ⟨_, rfl⟩
        have cp56 : MP D am h (bM (layN ((cu (cu (cu m 0 0 ((fu (m 0 0) 0 0))) 23 0 (fu (m 23 0) (Int.toNat u) v)) 27 0 (fu (m 27 0) (Int.toNat u) 0))) sr9 96) x9.1 x9.2.1 x9.2.2.1 x9.2.2.2) h51 := by have q9 := cp55; rw [stM_b] at q9; rw [hx9]; exact q9
        have hXk : bOK x9 := by rw [hx9]; exact X0r_ok (fun p => by have := hb29 p.toNat; unfold kbr; omega) hz9
        have hxs9 : 0 ≤ x9.2.2.2 ∧ x9.2.2.2 ≤ 4 := hXk.2.2.2.2.2
        have hv9 : fu (m 23 0) u.toNat v u.toNat = ((v.toNat : Nat) : Int) := by rw [fu_s]; omega
        have hv19 : v.toNat < 20 := by omega
        have hrc9 := hrec v.toNat (by omega)
        have hst9 : 0 ≤ fu (m 27 0) u.toNat 0 u.toNat ∧ fu (m 27 0) u.toNat 0 u.toNat ≤ 300 := by rw [fu_s]; decide
        refine x_aload_n C dX8_run_72 0 rfl ?_
        refine x_iload_n C dX8_run_73 1 rfl ?_
        have f57 : h51 (am 0 0) = some (eO 8 [vI (((bM (layN ((cu (cu (cu m 0 0 ((fu (m 0 0) 0 0))) 23 0 (fu (m 23 0) (Int.toNat u) v)) 27 0 (fu (m 27 0) (Int.toNat u) 0))) sr9 96) x9.1 x9.2.1 x9.2.2.1 x9.2.2.2) 0 0) 0), .ref (am 1 0), vI (((bM (layN ((cu (cu (cu m 0 0 ((fu (m 0 0) 0 0))) 23 0 (fu (m 23 0) (Int.toNat u) v)) 27 0 (fu (m 27 0) (Int.toNat u) 0))) sr9 96) x9.1 x9.2.1 x9.2.2.1 x9.2.2.2) 0 0) 2), .ref (am 3 0), .ref (am 4 0), .ref (am 5 0), .ref (am 6 0), .ref (am 7 0), .ref (am 8 0), .ref (am 9 0), .ref (am 10 0), .ref (am 11 0), .ref (am 12 0), .ref (am 13 0), vI (((bM (layN ((cu (cu (cu m 0 0 ((fu (m 0 0) 0 0))) 23 0 (fu (m 23 0) (Int.toNat u) v)) 27 0 (fu (m 27 0) (Int.toNat u) 0))) sr9 96) x9.1 x9.2.1 x9.2.2.1 x9.2.2.2) 0 0) 14), .ref (am 15 0), .ref (am 16 0), .ref (am 17 0), .ref (am 18 0), .ref (am 19 0), .ref (am 20 0), .ref (am 21 0), .ref (am 22 0), .ref (am 23 0), .ref (am 24 0), .ref (am 25 0), .ref (am 26 0), .ref (am 27 0), .ref (am 28 0), .ref (am 29 0), vI (((((bM (layN ((cu (cu (cu m 0 0 ((fu (m 0 0) 0 0))) 23 0 (fu (m 23 0) (Int.toNat u) v)) 27 0 (fu (m 27 0) (Int.toNat u) 0))) sr9 96) x9.1 x9.2.1 x9.2.2.1 x9.2.2.2) 0 0) 30).toNat : Nat) : Int), vI (((bM (layN ((cu (cu (cu m 0 0 ((fu (m 0 0) 0 0))) 23 0 (fu (m 23 0) (Int.toNat u) v)) 27 0 (fu (m 27 0) (Int.toNat u) 0))) sr9 96) x9.1 x9.2.1 x9.2.2.1 x9.2.2.2) 0 0) 31), vI (((bM (layN ((cu (cu (cu m 0 0 ((fu (m 0 0) 0 0))) 23 0 (fu (m 23 0) (Int.toNat u) v)) 27 0 (fu (m 27 0) (Int.toNat u) 0))) sr9 96) x9.1 x9.2.1 x9.2.2.1 x9.2.2.2) 0 0) 32), vI (((((bM (layN ((cu (cu (cu m 0 0 ((fu (m 0 0) 0 0))) 23 0 (fu (m 23 0) (Int.toNat u) v)) 27 0 (fu (m 27 0) (Int.toNat u) 0))) sr9 96) x9.1 x9.2.1 x9.2.2.1 x9.2.2.2) 0 0) 33).toNat : Nat) : Int), vI (((bM (layN ((cu (cu (cu m 0 0 ((fu (m 0 0) 0 0))) 23 0 (fu (m 23 0) (Int.toNat u) v)) 27 0 (fu (m 27 0) (Int.toNat u) 0))) sr9 96) x9.1 x9.2.1 x9.2.2.1 x9.2.2.2) 0 0) 34), .ref (am 35 0), .ref (am 36 0), .ref (am 37 0)]) := cp56.1.1 0 0 (lm0 (by decide))
        refine x_callV C (n := 1) (qc := (RX8, TX8, 38)) (As := [vI u]) (rest := []) (c_X8_keeps (x := x9) (v := v.toNat) (cp56.1) (by omega) (hv9) (hv19) (rfl) (rfl) (rfl) (rfl) (hxs9) (hrc9) (hst9)) gX8_run_X8_keeps (by decide +kernel) f57 rfl rfl rfl rfl (Nat.le_of_ble_eq_true rfl) ⟨by decide, by decide⟩ ⟨(by decide), (by decide)⟩ dX8_run_74 (fun rv58 h59 hp60 => ?_)
        obtain ⟨rfl, cp62⟩ := hp60
        have cp63 : MP D am h (kpX ((bM (layN ((cu (cu (cu m 0 0 ((fu (m 0 0) 0 0))) 23 0 (fu (m 23 0) (Int.toNat u) v)) 27 0 (fu (m 27 0) (Int.toNat u) 0))) sr9 96) x9.1 x9.2.1 x9.2.2.1 x9.2.2.2)) u.toNat v.toNat x9) h59 := MP.trans cp56 cp62
        refine x_iret C G dX8_run_77 ?_ (by decide) (by decide)
        refine ⟨_, _, rfl, cp63, Or.inr (Or.inr ⟨rfl, by omega, ⟨x9, ?_, rfl, ?_⟩⟩)⟩
        · rw [hx9, hsr0]
        · exact SM.kp (SM.bm (SM.ly hsr9 hA9 (SM.up9 (by decide) rfl (SM.up9 (by decide) rfl (SM.th SM.rf)))))
      · skip
        refine x_aload_n C dX8_run_36 0 rfl ?_
        refine x_iconst C dX8_run_37 2 (by decide) ?_
        have cp64 : MP D am h (cu m 0 0 ((fu (m 0 0) 0 0))) h2 := by rw [e3]; exact (MP.up (MP.rf hR) (lm0 (by decide)) ((fu (m 0 0) 0 0)) rfl)
        refine x_callV C (n := 1) (qc := (RX8, TX8, 38)) (As := [vI 2]) (rest := []) (c_X8_fails (cp64.1)) gX8_run_X8_fails (by decide +kernel) f4 rfl rfl rfl rfl (Nat.le_of_ble_eq_true rfl) ⟨by decide, by decide⟩ ⟨(by decide), (by decide)⟩ dX8_run_38 (fun rv65 h66 hp67 => ?_)
        obtain ⟨rfl, cp69⟩ := hp67
        have cp70 : MP D am h ((cu ((cu m 0 0 ((fu (m 0 0) 0 0)))) 0 0 ((fu (((cu m 0 0 ((fu (m 0 0) 0 0)))) 0 0) 0 2)))) h66 := MP.trans cp64 cp69
        refine x_iret C G dX8_run_41 ?_ (by decide) (by decide)
        exact ⟨_, _, rfl, cp70, Or.inr (Or.inl ⟨rfl, by omega, (by repeat (first | exact SM.rf | refine SM.th ?_ | refine SM.rem ?_ | refine SM.o2 ?_ | refine SM.o14 ?_ | refine SM.sr ?_ | refine SM.ly (by assumption) (by assumption) ?_ | refine SM.bm ?_ | refine SM.st ?_ | refine SM.mv ?_ | refine SM.up (by decide) ?_))⟩)⟩
    · skip
      refine x_aload_n C dX8_run_20 0 rfl ?_
      refine x_iconst C dX8_run_21 1 (by decide) ?_
      have cp71 : MP D am h (cu m 0 0 ((fu (m 0 0) 0 0))) h2 := by rw [e3]; exact (MP.up (MP.rf hR) (lm0 (by decide)) ((fu (m 0 0) 0 0)) rfl)
      refine x_callV C (n := 1) (qc := (RX8, TX8, 38)) (As := [vI 1]) (rest := []) (c_X8_fails (cp71.1)) gX8_run_X8_fails (by decide +kernel) f4 rfl rfl rfl rfl (Nat.le_of_ble_eq_true rfl) ⟨by decide, by decide⟩ ⟨(by decide), (by decide)⟩ dX8_run_22 (fun rv72 h73 hp74 => ?_)
      obtain ⟨rfl, cp76⟩ := hp74
      have cp77 : MP D am h ((cu ((cu m 0 0 ((fu (m 0 0) 0 0)))) 0 0 ((fu (((cu m 0 0 ((fu (m 0 0) 0 0)))) 0 0) 0 1)))) h73 := MP.trans cp71 cp76
      refine x_iret C G dX8_run_25 ?_ (by decide) (by decide)
      exact ⟨_, _, rfl, cp77, Or.inl ⟨rfl, by omega, (by repeat (first | exact SM.rf | refine SM.th ?_ | refine SM.rem ?_ | refine SM.o2 ?_ | refine SM.o14 ?_ | refine SM.sr ?_ | refine SM.ly (by assumption) (by assumption) ?_ | refine SM.bm ?_ | refine SM.st ?_ | refine SM.mv ?_ | refine SM.up (by decide) ?_))⟩⟩

theorem kX8_step_0 : Cond.fieldLink "LedgeLevelsModel" 101 "LedgeLevelsModel" "thrown" "I" ∈ wsX8_step := by decide +kernel
theorem kX8_step_1 : ∀ w ∈ wsX80, w ∈ wsX8_step := by decide +kernel
theorem kX8_step_2 : Cond.fieldLink "LedgeLevelsModel" 67 "LedgeLevelsModel" "runState" "[I" ∈ wsX8_step := by decide +kernel
theorem kX8_step_3 : Cond.fieldLink "LedgeLevelsModel" 82 "LedgeLevelsModel" "runSteps" "[I" ∈ wsX8_step := by decide +kernel
theorem kX8_step_4 : Cond.fieldLink "LedgeLevelsModel" 70 "LedgeLevelsModel" "runWork" "[I" ∈ wsX8_step := by decide +kernel
theorem kX8_step_5 : Cond.fieldLink "LedgeLevelsModel" 73 "LedgeLevelsModel" "runCell" "[I" ∈ wsX8_step := by decide +kernel
theorem kX8_step_6 : Cond.fieldLink "LedgeLevelsModel" 124 "LedgeLevelsModel" "cell" "I" ∈ wsX8_step := by decide +kernel
theorem kX8_step_7 : Cond.fieldLink "LedgeLevelsModel" 76 "LedgeLevelsModel" "runSpeed" "[I" ∈ wsX8_step := by decide +kernel
theorem kX8_step_8 : Cond.fieldLink "LedgeLevelsModel" 127 "LedgeLevelsModel" "speed" "I" ∈ wsX8_step := by decide +kernel
theorem kX8_step_9 : Cond.fieldLink "LedgeLevelsModel" 79 "LedgeLevelsModel" "runTaken" "[I" ∈ wsX8_step := by decide +kernel
theorem kX8_step_10 : Cond.fieldLink "LedgeLevelsModel" 118 "LedgeLevelsModel" "taken" "I" ∈ wsX8_step := by decide +kernel
theorem kX8_step_11 : Cond.fieldLink "LedgeLevelsModel" 121 "LedgeLevelsModel" "state" "I" ∈ wsX8_step := by decide +kernel
set_option maxRecDepth 100000 in
set_option maxHeartbeats 4000000 in
theorem c_X8_step {l : Launch} {D : va_G} {A : Nat → Prop} {h : vh} {am : AD} {m : CS} {u z : Int}  (hR : RepM D am m h) (hM1 : Mk1 m) (hi_u : -2147483648 ≤ u ∧ u ≤ 2147483647) (hi_z : -2147483648 ≤ z ∧ z ≤ 2147483647) (hrn : ∀ p : Nat, p < 6 → (0 ≤ m 22 0 p ∧ m 22 0 p ≤ 4) ∧ (0 ≤ m 27 0 p ∧ m 27 0 p ≤ 200) ∧ (0 ≤ m 24 0 p ∧ m 24 0 p ≤ 95) ∧ (-4 ≤ m 25 0 p ∧ m 25 0 p ≤ 3) ∧ (0 ≤ m 26 0 p ∧ m 26 0 p < 8) ∧ (m 22 0 p = 1 → 0 ≤ m 23 0 p ∧ m 23 0 p < m 0 0 14)) (hG16 : ∀ i j : Nat, (i : Int) < m 0 0 14 → j < 96 → 0 ≤ m 16 0 (96 * i + j) ∧ m 16 0 (96 * i + j) ≤ 8) (hKW : ∀ i : Nat, (i : Int) < m 0 0 14 → lyA (rwM (m 16 0) (96 * i)) 96 ≤ 7) (hGK : GK m) (hSS : ∀ j, 0 ≤ m 1 0 j ∧ m 1 0 j ≤ 4) (hrec : ∀ i : Nat, (i : Int) < m 0 0 14 → -1 ≤ m 20 0 i ∧ m 20 0 i ≤ 300) : MX l D A yX8_step wsX8_step { frames := 3, cells := 0, slots := 0, locals := 72 } [.ref (am 0 0), vI u, vI z] h (fun rv h' => ∃ (r : Int) (m1 : CS), rv = some (vI r) ∧ MP D am h (m1) h' ∧ ((m1 0 0 0 = 1 ∧ (¬ (0 ≤ u ∧ u < 6)) ∧ SM m m1) ∨ (m1 0 0 0 = 2 ∧ ((0 ≤ u ∧ u < 6) ∧ ¬ (0 ≤ z ∧ z ≤ 5)) ∧ SM m m1) ∨ (m1 0 0 0 = 3 ∧ ((0 ≤ u ∧ u < 6) ∧ (0 ≤ z ∧ z ≤ 5) ∧ (m 22 0 u.toNat ≠ 1 ∨ m 27 0 u.toNat = 200)) ∧ SM m m1) ∨ (m1 0 0 0 = 0 ∧ ((0 ≤ u ∧ u < 6) ∧ (0 ≤ z ∧ z ≤ 5) ∧ m 22 0 u.toNat = 1 ∧ m 27 0 u.toNat ≠ 200) ∧ (∃ x : B4, x = (mv (lyG (rwM (m 16 0) (96 * (m 23 0 u.toNat).toNat)) (m 28 0) 96) (kbr (rwM (m 16 0) (96 * (m 23 0 u.toNat).toNat)) (m 29 0)) (lyA (rwM (m 16 0) (96 * (m 23 0 u.toNat).toNat)) 96) (m 1 0) z (m 24 0 u.toNat) (m 25 0 u.toNat) (m 26 0 u.toNat).toNat) ∧ r = kpR x ∧ SM (kpX (cu m 27 0 (fu (m 27 0) u.toNat (m 27 0 u.toNat + 1))) u.toNat (m 23 0 u.toNat).toNat x) m1)))) := by
  refine MX.of (cc := cX8_step) (maxL := 3) (ret := (some .int)) [(0, .ref (am 0 0)), (1, vI u), (2, vI z)] (by decide +kernel) rfl rfl (Nat.le_of_ble_eq_true rfl) ?_
  intro κ C hkl G
  subst hkl
  have C : CX κ "LedgeLevelsModel" "step" cX8_step wsX8_step { frames := 3, cells := 0, slots := 0, locals := 72 } D A 3 := C
  have hiz : nq (D.1 20) (D.1 21) := cx_iz C
  obtain ⟨hM1a, hM1b⟩ := id hM1
  refine x_aload_n C dX8_step_0 0 rfl ?_
  refine x_iconst C dX8_step_1 0 (by decide) ?_
  have f1 : h (am 0 0) = some (eO 8 [vI (m 0 0 0), .ref (am 1 0), vI (m 0 0 2), .ref (am 3 0), .ref (am 4 0), .ref (am 5 0), .ref (am 6 0), .ref (am 7 0), .ref (am 8 0), .ref (am 9 0), .ref (am 10 0), .ref (am 11 0), .ref (am 12 0), .ref (am 13 0), vI (m 0 0 14), .ref (am 15 0), .ref (am 16 0), .ref (am 17 0), .ref (am 18 0), .ref (am 19 0), .ref (am 20 0), .ref (am 21 0), .ref (am 22 0), .ref (am 23 0), .ref (am 24 0), .ref (am 25 0), .ref (am 26 0), .ref (am 27 0), .ref (am 28 0), .ref (am 29 0), vI (((m 0 0 30).toNat : Nat) : Int), vI (m 0 0 31), vI (m 0 0 32), vI (((m 0 0 33).toNat : Nat) : Int), vI (m 0 0 34), .ref (am 35 0), .ref (am 36 0), .ref (am 37 0)]) := hR.1 0 0 (lm0 (by decide))
  refine x_put C f1 (T := TX8) rfl tyX8_ok nmX8 kX8_step_1 0 (by decide) kX8_step_0 rfl (fs' := [vI 0, .ref (am 1 0), vI (m 0 0 2), .ref (am 3 0), .ref (am 4 0), .ref (am 5 0), .ref (am 6 0), .ref (am 7 0), .ref (am 8 0), .ref (am 9 0), .ref (am 10 0), .ref (am 11 0), .ref (am 12 0), .ref (am 13 0), vI (m 0 0 14), .ref (am 15 0), .ref (am 16 0), .ref (am 17 0), .ref (am 18 0), .ref (am 19 0), .ref (am 20 0), .ref (am 21 0), .ref (am 22 0), .ref (am 23 0), .ref (am 24 0), .ref (am 25 0), .ref (am 26 0), .ref (am 27 0), .ref (am 28 0), .ref (am 29 0), vI (((m 0 0 30).toNat : Nat) : Int), vI (m 0 0 31), vI (m 0 0 32), vI (((m 0 0 33).toNat : Nat) : Int), vI (m 0 0 34), .ref (am 35 0), .ref (am 36 0), .ref (am 37 0)]) rfl rfl (by simp) rfl dX8_step_2 (x_hn (fun h2 e3 => ?_))
  have f4 : h2 (am 0 0) = some (eO 8 [vI 0, .ref (am 1 0), vI (m 0 0 2), .ref (am 3 0), .ref (am 4 0), .ref (am 5 0), .ref (am 6 0), .ref (am 7 0), .ref (am 8 0), .ref (am 9 0), .ref (am 10 0), .ref (am 11 0), .ref (am 12 0), .ref (am 13 0), vI (m 0 0 14), .ref (am 15 0), .ref (am 16 0), .ref (am 17 0), .ref (am 18 0), .ref (am 19 0), .ref (am 20 0), .ref (am 21 0), .ref (am 22 0), .ref (am 23 0), .ref (am 24 0), .ref (am 25 0), .ref (am 26 0), .ref (am 27 0), .ref (am 28 0), .ref (am 29 0), vI (((m 0 0 30).toNat : Nat) : Int), vI (m 0 0 31), vI (m 0 0 32), vI (((m 0 0 33).toNat : Nat) : Int), vI (m 0 0 34), .ref (am 35 0), .ref (am 36 0), .ref (am 37 0)]) := by rw [e3]; exact hu_s
  refine x_iload_n C dX8_step_5 1 rfl ?_
  refine x_callS C (n := 1) (As := [vI u]) (rest := []) (c_X8_isPerson (by omega)) gX8_step_X8_isPerson (by decide +kernel) rfl rfl rfl (Nat.le_of_ble_eq_true rfl) ⟨by decide, by decide⟩ ⟨(by decide), (by decide)⟩ dX8_step_6 (fun rv6 h7 hp8 => ?_)
  obtain ⟨rfl, e9⟩ := hp8
  obtain rfl := e9.symm
  have hbr5 := bI_cs ((0 ≤ u ∧ u ≤ 5))
  refine x_if_ne (tgt := 18) C dX8_step_9 (by decide) (by omega) (fun c10 => ?_) (fun c10 => ?_)
  · skip
    refine x_iload_n C dX8_step_18 2 rfl ?_
    refine x_iconst C dX8_step_19 0 (by decide) ?_
    refine x_iconst C dX8_step_20 5 (by decide) ?_
    refine x_callS C (n := 3) (As := [vI z, vI 0, vI 5]) (rest := []) (c_X8_in (by omega) (by omega) (by omega)) gX8_step_X8_in (by decide +kernel) rfl rfl rfl (Nat.le_of_ble_eq_true rfl) ⟨by decide, by decide⟩ ⟨(by decide), (by decide)⟩ dX8_step_21 (fun rv12 h13 hp14 => ?_)
    obtain ⟨rfl, e15⟩ := hp14
    obtain rfl := e15.symm
    have hbr11 := bI_cs ((0 ≤ z ∧ z ≤ 5))
    refine x_if_ne (tgt := 33) C dX8_step_24 (by decide) (by omega) (fun c16 => ?_) (fun c16 => ?_)
    · skip
      obtain ⟨g1, g2, g3, g4, g5, g6⟩ := hrn u.toNat (by omega)
      refine x_aload_n C dX8_step_33 0 rfl ?_
      refine x_get C (v := .ref (am 22 0)) f4 (T := TX8) rfl kX8_step_1 22 (by decide) kX8_step_2 rfl dX8_step_34 ?_
      refine x_iload_n C dX8_step_37 1 rfl ?_
      have f17 : h (am 22 0) = some (eI D 6 (m 22 0)) := hR.1 22 0 (lm0 (by decide))
      have f18 : h2 (am 22 0) = some (eI D 6 (m 22 0)) := by rw [e3, hu_n (hR.ne (lm0 (by decide)) (lm0 (by decide)) (fun zz9 => absurd zz9.1 (by decide)))]; exact f17
      refine x_iald C f18 ⟨by omega, by omega⟩ (by decide) dX8_step_38 ?_
      refine x_topv (show (m 22 0) (Int.toNat u) = m 22 0 u.toNat from by rfl) ?_
      refine x_iconst C dX8_step_39 1 (by decide) ?_
      refine x_icmp_ne (tgt := 55) C dX8_step_40 (by decide) (by omega) (by omega) (fun c19 => ?_) (fun c19 => ?_)
      · skip
        refine x_aload_n C dX8_step_55 0 rfl ?_
        refine x_iconst C dX8_step_56 3 (by decide) ?_
        have cp20 : MP D am h (cu m 0 0 ((fu (m 0 0) 0 0))) h2 := by rw [e3]; exact (MP.up (MP.rf hR) (lm0 (by decide)) ((fu (m 0 0) 0 0)) rfl)
        refine x_callV C (n := 1) (qc := (RX8, TX8, 38)) (As := [vI 3]) (rest := []) (c_X8_fails (cp20.1)) gX8_step_X8_fails (by decide +kernel) f4 rfl rfl rfl rfl (Nat.le_of_ble_eq_true rfl) ⟨by decide, by decide⟩ ⟨(by decide), (by decide)⟩ dX8_step_57 (fun rv21 h22 hp23 => ?_)
        obtain ⟨rfl, cp25⟩ := hp23
        have cp26 : MP D am h ((cu ((cu m 0 0 ((fu (m 0 0) 0 0)))) 0 0 ((fu (((cu m 0 0 ((fu (m 0 0) 0 0)))) 0 0) 0 3)))) h22 := MP.trans cp20 cp25
        refine x_iret C G dX8_step_60 ?_ (by decide) (by decide)
        exact ⟨_, _, rfl, cp26, Or.inr (Or.inr (Or.inl ⟨rfl, by omega, (by repeat (first | exact SM.rf | refine SM.th ?_ | refine SM.rem ?_ | refine SM.o2 ?_ | refine SM.o14 ?_ | refine SM.sr ?_ | refine SM.ly (by assumption) (by assumption) ?_ | refine SM.bm ?_ | refine SM.st ?_ | refine SM.mv ?_ | refine SM.up (by decide) ?_))⟩))⟩
      · skip
        refine x_aload_n C dX8_step_43 0 rfl ?_
        refine x_get C (v := .ref (am 27 0)) f4 (T := TX8) rfl kX8_step_1 27 (by decide) kX8_step_3 rfl dX8_step_44 ?_
        refine x_iload_n C dX8_step_47 1 rfl ?_
        have f27 : h (am 27 0) = some (eI D 6 (m 27 0)) := hR.1 27 0 (lm0 (by decide))
        have f28 : h2 (am 27 0) = some (eI D 6 (m 27 0)) := by rw [e3, hu_n (hR.ne (lm0 (by decide)) (lm0 (by decide)) (fun zz9 => absurd zz9.1 (by decide)))]; exact f27
        refine x_iald C f28 ⟨by omega, by omega⟩ (by decide) dX8_step_48 ?_
        refine x_topv (show (m 27 0) (Int.toNat u) = m 27 0 u.toNat from by rfl) ?_
        refine x_sipush C dX8_step_49 200 (by decide) ?_
        refine x_icmp_ne (tgt := 61) C dX8_step_52 (by decide) (by omega) (by omega) (fun c29 => ?_) (fun c29 => ?_)
        · skip
          have g7 := g6 (by omega)
          have ht9 : 0 ≤ (((m 26 0 u.toNat).toNat : Nat) : Int) ∧ (((m 26 0 u.toNat).toNat : Nat) : Int) < 8 := by omega
          obtain ⟨sr9, hsr0⟩ : ∃ sr9, sr9 = rwM (m 16 0) (96 * (m 23 0 u.toNat).toNat) := ⟨_, rfl⟩
          have hs9 : ∀ j : Nat, j < 96 → sr9 j = (if (1 : Int) = 0 then m 4 0 (Int.toNat (96 * (m 23 0 u.toNat) + j)) else m 16 0 (Int.toNat (96 * (m 23 0 u.toNat) + j))) := fun j hj => by
            rw [hsr0, if_neg (by decide), show Int.toNat (96 * (m 23 0 u.toNat) + (j : Int)) = 96 * (m 23 0 u.toNat).toNat + j by omega]; exact if_pos hj
          have hsr9 : ∀ j : Nat, 0 ≤ sr9 j ∧ sr9 j ≤ 8 := by rw [hsr0]; exact rwM_r (fun j hj => hG16 (m 23 0 u.toNat).toNat j (by omega) hj)
          have hA9 : lyA sr9 96 ≤ 7 := by rw [hsr0]; exact hKW (m 23 0 u.toNat).toNat (by omega)
          have hg28 : ∀ j, 0 ≤ lyG sr9 (m 28 0) 96 j ∧ lyG sr9 (m 28 0) 96 j ≤ 8 := lyG_r hsr9 hGK.1 96
          have hb29 : ∀ j, 0 ≤ lyB sr9 (m 29 0) 96 j ∧ lyB sr9 (m 29 0) 96 j ≤ 7 := lyB_r hA9 hGK.2
          have hal9 : 0 ≤ ((lyA sr9 96 : Nat) : Int) ∧ ((lyA sr9 96 : Nat) : Int) < 8 := by omega
          refine x_aload_n C dX8_step_61 0 rfl ?_
          refine x_iconst C dX8_step_62 1 (by decide) ?_
          refine x_aload_n C dX8_step_63 0 rfl ?_
          refine x_get C (v := .ref (am 23 0)) f4 (T := TX8) rfl kX8_step_1 23 (by decide) kX8_step_4 rfl dX8_step_64 ?_
          refine x_iload_n C dX8_step_67 1 rfl ?_
          have f30 : h (am 23 0) = some (eI D 6 (m 23 0)) := hR.1 23 0 (lm0 (by decide))
          have f31 : h2 (am 23 0) = some (eI D 6 (m 23 0)) := by rw [e3, hu_n (hR.ne (lm0 (by decide)) (lm0 (by decide)) (fun zz9 => absurd zz9.1 (by decide)))]; exact f30
          refine x_iald C f31 ⟨by omega, by omega⟩ (by decide) dX8_step_68 ?_
          refine x_topv (show (m 23 0) (Int.toNat u) = m 23 0 u.toNat from by rfl) ?_
          have cp32 : MP D am h (cu m 0 0 ((fu (m 0 0) 0 0))) h2 := by rw [e3]; exact (MP.up (MP.rf hR) (lm0 (by decide)) ((fu (m 0 0) 0 0)) rfl)
          refine x_callV C (n := 2) (qc := (RX8, TX8, 38)) (As := [vI 1, vI (m 23 0 u.toNat)]) (rest := []) (c_X8_lays (src := sr9) (cp32.1) (by omega) (by omega) (hs9) (hsr9) (hA9)) gX8_step_X8_lays (by decide +kernel) f4 rfl rfl rfl rfl (Nat.le_of_ble_eq_true rfl) ⟨by decide, by decide⟩ ⟨(by decide), (by decide)⟩ dX8_step_69 (fun rv33 h34 hp35 => ?_)
          obtain ⟨rfl, cp37⟩ := hp35
          have cp38 : MP D am h (layN ((cu m 0 0 ((fu (m 0 0) 0 0)))) sr9 96) h34 := MP.trans cp32 cp37
          refine x_aload_n C dX8_step_72 0 rfl ?_
          refine x_aload_n C dX8_step_73 0 rfl ?_
          have f39 : h34 (am 0 0) = some (eO 8 [vI (((layN ((cu m 0 0 ((fu (m 0 0) 0 0)))) sr9 96) 0 0) 0), .ref (am 1 0), vI (((layN ((cu m 0 0 ((fu (m 0 0) 0 0)))) sr9 96) 0 0) 2), .ref (am 3 0), .ref (am 4 0), .ref (am 5 0), .ref (am 6 0), .ref (am 7 0), .ref (am 8 0), .ref (am 9 0), .ref (am 10 0), .ref (am 11 0), .ref (am 12 0), .ref (am 13 0), vI (((layN ((cu m 0 0 ((fu (m 0 0) 0 0)))) sr9 96) 0 0) 14), .ref (am 15 0), .ref (am 16 0), .ref (am 17 0), .ref (am 18 0), .ref (am 19 0), .ref (am 20 0), .ref (am 21 0), .ref (am 22 0), .ref (am 23 0), .ref (am 24 0), .ref (am 25 0), .ref (am 26 0), .ref (am 27 0), .ref (am 28 0), .ref (am 29 0), vI (((((layN ((cu m 0 0 ((fu (m 0 0) 0 0)))) sr9 96) 0 0) 30).toNat : Nat) : Int), vI (((layN ((cu m 0 0 ((fu (m 0 0) 0 0)))) sr9 96) 0 0) 31), vI (((layN ((cu m 0 0 ((fu (m 0 0) 0 0)))) sr9 96) 0 0) 32), vI (((((layN ((cu m 0 0 ((fu (m 0 0) 0 0)))) sr9 96) 0 0) 33).toNat : Nat) : Int), vI (((layN ((cu m 0 0 ((fu (m 0 0) 0 0)))) sr9 96) 0 0) 34), .ref (am 35 0), .ref (am 36 0), .ref (am 37 0)]) := cp38.1.1 0 0 (lm0 (by decide))
          refine x_get C (v := .ref (am 24 0)) f39 (T := TX8) rfl kX8_step_1 24 (by decide) kX8_step_5 rfl dX8_step_74 ?_
          refine x_iload_n C dX8_step_77 1 rfl ?_
          have f40 : h34 (am 24 0) = some (eI D 6 (((layN ((cu m 0 0 ((fu (m 0 0) 0 0)))) sr9 96) 24 0))) := cp38.1.1 24 0 (lm0 (by decide))
          refine x_iald C f40 ⟨by omega, by omega⟩ (by decide) dX8_step_78 ?_
          refine x_topv (show (((layN ((cu m 0 0 ((fu (m 0 0) 0 0)))) sr9 96) 24 0)) (Int.toNat u) = m 24 0 u.toNat from by rfl) ?_
          refine x_put C f39 (T := TX8) rfl tyX8_ok nmX8 kX8_step_1 31 (by decide) kX8_step_6 rfl (fs' := [vI (((layN ((cu m 0 0 ((fu (m 0 0) 0 0)))) sr9 96) 0 0) 0), .ref (am 1 0), vI (((layN ((cu m 0 0 ((fu (m 0 0) 0 0)))) sr9 96) 0 0) 2), .ref (am 3 0), .ref (am 4 0), .ref (am 5 0), .ref (am 6 0), .ref (am 7 0), .ref (am 8 0), .ref (am 9 0), .ref (am 10 0), .ref (am 11 0), .ref (am 12 0), .ref (am 13 0), vI (((layN ((cu m 0 0 ((fu (m 0 0) 0 0)))) sr9 96) 0 0) 14), .ref (am 15 0), .ref (am 16 0), .ref (am 17 0), .ref (am 18 0), .ref (am 19 0), .ref (am 20 0), .ref (am 21 0), .ref (am 22 0), .ref (am 23 0), .ref (am 24 0), .ref (am 25 0), .ref (am 26 0), .ref (am 27 0), .ref (am 28 0), .ref (am 29 0), vI (((((layN ((cu m 0 0 ((fu (m 0 0) 0 0)))) sr9 96) 0 0) 30).toNat : Nat) : Int), vI (m 24 0 u.toNat), vI (((layN ((cu m 0 0 ((fu (m 0 0) 0 0)))) sr9 96) 0 0) 32), vI (((((layN ((cu m 0 0 ((fu (m 0 0) 0 0)))) sr9 96) 0 0) 33).toNat : Nat) : Int), vI (((layN ((cu m 0 0 ((fu (m 0 0) 0 0)))) sr9 96) 0 0) 34), .ref (am 35 0), .ref (am 36 0), .ref (am 37 0)]) rfl rfl (by simp) rfl dX8_step_79 (x_hn (fun h41 e42 => ?_))
          have f43 : h41 (am 0 0) = some (eO 8 [vI (((layN ((cu m 0 0 ((fu (m 0 0) 0 0)))) sr9 96) 0 0) 0), .ref (am 1 0), vI (((layN ((cu m 0 0 ((fu (m 0 0) 0 0)))) sr9 96) 0 0) 2), .ref (am 3 0), .ref (am 4 0), .ref (am 5 0), .ref (am 6 0), .ref (am 7 0), .ref (am 8 0), .ref (am 9 0), .ref (am 10 0), .ref (am 11 0), .ref (am 12 0), .ref (am 13 0), vI (((layN ((cu m 0 0 ((fu (m 0 0) 0 0)))) sr9 96) 0 0) 14), .ref (am 15 0), .ref (am 16 0), .ref (am 17 0), .ref (am 18 0), .ref (am 19 0), .ref (am 20 0), .ref (am 21 0), .ref (am 22 0), .ref (am 23 0), .ref (am 24 0), .ref (am 25 0), .ref (am 26 0), .ref (am 27 0), .ref (am 28 0), .ref (am 29 0), vI (((((layN ((cu m 0 0 ((fu (m 0 0) 0 0)))) sr9 96) 0 0) 30).toNat : Nat) : Int), vI (m 24 0 u.toNat), vI (((layN ((cu m 0 0 ((fu (m 0 0) 0 0)))) sr9 96) 0 0) 32), vI (((((layN ((cu m 0 0 ((fu (m 0 0) 0 0)))) sr9 96) 0 0) 33).toNat : Nat) : Int), vI (((layN ((cu m 0 0 ((fu (m 0 0) 0 0)))) sr9 96) 0 0) 34), .ref (am 35 0), .ref (am 36 0), .ref (am 37 0)]) := by rw [e42]; exact hu_s
          refine x_aload_n C dX8_step_82 0 rfl ?_
          refine x_aload_n C dX8_step_83 0 rfl ?_
          refine x_get C (v := .ref (am 25 0)) f43 (T := TX8) rfl kX8_step_1 25 (by decide) kX8_step_7 rfl dX8_step_84 ?_
          refine x_iload_n C dX8_step_87 1 rfl ?_
          have f44 : h34 (am 25 0) = some (eI D 6 (((layN ((cu m 0 0 ((fu (m 0 0) 0 0)))) sr9 96) 25 0))) := cp38.1.1 25 0 (lm0 (by decide))
          have f45 : h41 (am 25 0) = some (eI D 6 (((layN ((cu m 0 0 ((fu (m 0 0) 0 0)))) sr9 96) 25 0))) := by rw [e42, hu_n (cp38.1.ne (lm0 (by decide)) (lm0 (by decide)) (fun zz9 => absurd zz9.1 (by decide)))]; exact f44
          refine x_iald C f45 ⟨by omega, by omega⟩ (by decide) dX8_step_88 ?_
          refine x_topv (show (((layN ((cu m 0 0 ((fu (m 0 0) 0 0)))) sr9 96) 25 0)) (Int.toNat u) = m 25 0 u.toNat from by rfl) ?_
          refine x_put C f43 (T := TX8) rfl tyX8_ok nmX8 kX8_step_1 32 (by decide) kX8_step_8 rfl (fs' := [vI (((layN ((cu m 0 0 ((fu (m 0 0) 0 0)))) sr9 96) 0 0) 0), .ref (am 1 0), vI (((layN ((cu m 0 0 ((fu (m 0 0) 0 0)))) sr9 96) 0 0) 2), .ref (am 3 0), .ref (am 4 0), .ref (am 5 0), .ref (am 6 0), .ref (am 7 0), .ref (am 8 0), .ref (am 9 0), .ref (am 10 0), .ref (am 11 0), .ref (am 12 0), .ref (am 13 0), vI (((layN ((cu m 0 0 ((fu (m 0 0) 0 0)))) sr9 96) 0 0) 14), .ref (am 15 0), .ref (am 16 0), .ref (am 17 0), .ref (am 18 0), .ref (am 19 0), .ref (am 20 0), .ref (am 21 0), .ref (am 22 0), .ref (am 23 0), .ref (am 24 0), .ref (am 25 0), .ref (am 26 0), .ref (am 27 0), .ref (am 28 0), .ref (am 29 0), vI (((((layN ((cu m 0 0 ((fu (m 0 0) 0 0)))) sr9 96) 0 0) 30).toNat : Nat) : Int), vI (m 24 0 u.toNat), vI (m 25 0 u.toNat), vI (((((layN ((cu m 0 0 ((fu (m 0 0) 0 0)))) sr9 96) 0 0) 33).toNat : Nat) : Int), vI (((layN ((cu m 0 0 ((fu (m 0 0) 0 0)))) sr9 96) 0 0) 34), .ref (am 35 0), .ref (am 36 0), .ref (am 37 0)]) rfl rfl (by simp) rfl dX8_step_89 (x_hn (fun h46 e47 => ?_))
          have f48 : h46 (am 0 0) = some (eO 8 [vI (((layN ((cu m 0 0 ((fu (m 0 0) 0 0)))) sr9 96) 0 0) 0), .ref (am 1 0), vI (((layN ((cu m 0 0 ((fu (m 0 0) 0 0)))) sr9 96) 0 0) 2), .ref (am 3 0), .ref (am 4 0), .ref (am 5 0), .ref (am 6 0), .ref (am 7 0), .ref (am 8 0), .ref (am 9 0), .ref (am 10 0), .ref (am 11 0), .ref (am 12 0), .ref (am 13 0), vI (((layN ((cu m 0 0 ((fu (m 0 0) 0 0)))) sr9 96) 0 0) 14), .ref (am 15 0), .ref (am 16 0), .ref (am 17 0), .ref (am 18 0), .ref (am 19 0), .ref (am 20 0), .ref (am 21 0), .ref (am 22 0), .ref (am 23 0), .ref (am 24 0), .ref (am 25 0), .ref (am 26 0), .ref (am 27 0), .ref (am 28 0), .ref (am 29 0), vI (((((layN ((cu m 0 0 ((fu (m 0 0) 0 0)))) sr9 96) 0 0) 30).toNat : Nat) : Int), vI (m 24 0 u.toNat), vI (m 25 0 u.toNat), vI (((((layN ((cu m 0 0 ((fu (m 0 0) 0 0)))) sr9 96) 0 0) 33).toNat : Nat) : Int), vI (((layN ((cu m 0 0 ((fu (m 0 0) 0 0)))) sr9 96) 0 0) 34), .ref (am 35 0), .ref (am 36 0), .ref (am 37 0)]) := by rw [e47]; exact hu_s
          refine x_aload_n C dX8_step_92 0 rfl ?_
          refine x_aload_n C dX8_step_93 0 rfl ?_
          refine x_get C (v := .ref (am 26 0)) f48 (T := TX8) rfl kX8_step_1 26 (by decide) kX8_step_9 rfl dX8_step_94 ?_
          refine x_iload_n C dX8_step_97 1 rfl ?_
          have f49 : h34 (am 26 0) = some (eI D 6 (((layN ((cu m 0 0 ((fu (m 0 0) 0 0)))) sr9 96) 26 0))) := cp38.1.1 26 0 (lm0 (by decide))
          have f50 : h41 (am 26 0) = some (eI D 6 (((layN ((cu m 0 0 ((fu (m 0 0) 0 0)))) sr9 96) 26 0))) := by rw [e42, hu_n (cp38.1.ne (lm0 (by decide)) (lm0 (by decide)) (fun zz9 => absurd zz9.1 (by decide)))]; exact f49
          have f51 : h46 (am 26 0) = some (eI D 6 (((layN ((cu m 0 0 ((fu (m 0 0) 0 0)))) sr9 96) 26 0))) := by rw [e47, hu_n (cp38.1.ne (lm0 (by decide)) (lm0 (by decide)) (fun zz9 => absurd zz9.1 (by decide)))]; exact f50
          refine x_iald C f51 ⟨by omega, by omega⟩ (by decide) dX8_step_98 ?_
          refine x_topv (show (((layN ((cu m 0 0 ((fu (m 0 0) 0 0)))) sr9 96) 26 0)) (Int.toNat u) = (((m 26 0 u.toNat).toNat : Nat) : Int) from by show m 26 0 u.toNat = _; omega) ?_
          refine x_put C f48 (T := TX8) rfl tyX8_ok nmX8 kX8_step_1 33 (by decide) kX8_step_10 rfl (fs' := [vI (((layN ((cu m 0 0 ((fu (m 0 0) 0 0)))) sr9 96) 0 0) 0), .ref (am 1 0), vI (((layN ((cu m 0 0 ((fu (m 0 0) 0 0)))) sr9 96) 0 0) 2), .ref (am 3 0), .ref (am 4 0), .ref (am 5 0), .ref (am 6 0), .ref (am 7 0), .ref (am 8 0), .ref (am 9 0), .ref (am 10 0), .ref (am 11 0), .ref (am 12 0), .ref (am 13 0), vI (((layN ((cu m 0 0 ((fu (m 0 0) 0 0)))) sr9 96) 0 0) 14), .ref (am 15 0), .ref (am 16 0), .ref (am 17 0), .ref (am 18 0), .ref (am 19 0), .ref (am 20 0), .ref (am 21 0), .ref (am 22 0), .ref (am 23 0), .ref (am 24 0), .ref (am 25 0), .ref (am 26 0), .ref (am 27 0), .ref (am 28 0), .ref (am 29 0), vI (((((layN ((cu m 0 0 ((fu (m 0 0) 0 0)))) sr9 96) 0 0) 30).toNat : Nat) : Int), vI (m 24 0 u.toNat), vI (m 25 0 u.toNat), vI (((m 26 0 u.toNat).toNat : Nat) : Int), vI (((layN ((cu m 0 0 ((fu (m 0 0) 0 0)))) sr9 96) 0 0) 34), .ref (am 35 0), .ref (am 36 0), .ref (am 37 0)]) rfl rfl (by simp) rfl dX8_step_99 (x_hn (fun h52 e53 => ?_))
          have f54 : h52 (am 0 0) = some (eO 8 [vI (((layN ((cu m 0 0 ((fu (m 0 0) 0 0)))) sr9 96) 0 0) 0), .ref (am 1 0), vI (((layN ((cu m 0 0 ((fu (m 0 0) 0 0)))) sr9 96) 0 0) 2), .ref (am 3 0), .ref (am 4 0), .ref (am 5 0), .ref (am 6 0), .ref (am 7 0), .ref (am 8 0), .ref (am 9 0), .ref (am 10 0), .ref (am 11 0), .ref (am 12 0), .ref (am 13 0), vI (((layN ((cu m 0 0 ((fu (m 0 0) 0 0)))) sr9 96) 0 0) 14), .ref (am 15 0), .ref (am 16 0), .ref (am 17 0), .ref (am 18 0), .ref (am 19 0), .ref (am 20 0), .ref (am 21 0), .ref (am 22 0), .ref (am 23 0), .ref (am 24 0), .ref (am 25 0), .ref (am 26 0), .ref (am 27 0), .ref (am 28 0), .ref (am 29 0), vI (((((layN ((cu m 0 0 ((fu (m 0 0) 0 0)))) sr9 96) 0 0) 30).toNat : Nat) : Int), vI (m 24 0 u.toNat), vI (m 25 0 u.toNat), vI (((m 26 0 u.toNat).toNat : Nat) : Int), vI (((layN ((cu m 0 0 ((fu (m 0 0) 0 0)))) sr9 96) 0 0) 34), .ref (am 35 0), .ref (am 36 0), .ref (am 37 0)]) := by rw [e53]; exact hu_s
          refine x_aload_n C dX8_step_102 0 rfl ?_
          refine x_iconst C dX8_step_103 1 (by decide) ?_
          refine x_put C f54 (T := TX8) rfl tyX8_ok nmX8 kX8_step_1 34 (by decide) kX8_step_11 rfl (fs' := [vI (((layN ((cu m 0 0 ((fu (m 0 0) 0 0)))) sr9 96) 0 0) 0), .ref (am 1 0), vI (((layN ((cu m 0 0 ((fu (m 0 0) 0 0)))) sr9 96) 0 0) 2), .ref (am 3 0), .ref (am 4 0), .ref (am 5 0), .ref (am 6 0), .ref (am 7 0), .ref (am 8 0), .ref (am 9 0), .ref (am 10 0), .ref (am 11 0), .ref (am 12 0), .ref (am 13 0), vI (((layN ((cu m 0 0 ((fu (m 0 0) 0 0)))) sr9 96) 0 0) 14), .ref (am 15 0), .ref (am 16 0), .ref (am 17 0), .ref (am 18 0), .ref (am 19 0), .ref (am 20 0), .ref (am 21 0), .ref (am 22 0), .ref (am 23 0), .ref (am 24 0), .ref (am 25 0), .ref (am 26 0), .ref (am 27 0), .ref (am 28 0), .ref (am 29 0), vI (((((layN ((cu m 0 0 ((fu (m 0 0) 0 0)))) sr9 96) 0 0) 30).toNat : Nat) : Int), vI (m 24 0 u.toNat), vI (m 25 0 u.toNat), vI (((m 26 0 u.toNat).toNat : Nat) : Int), vI 1, .ref (am 35 0), .ref (am 36 0), .ref (am 37 0)]) rfl rfl (by simp) rfl dX8_step_104 (x_hn (fun h55 e56 => ?_))
          have f57 : h55 (am 0 0) = some (eO 8 [vI (((layN ((cu m 0 0 ((fu (m 0 0) 0 0)))) sr9 96) 0 0) 0), .ref (am 1 0), vI (((layN ((cu m 0 0 ((fu (m 0 0) 0 0)))) sr9 96) 0 0) 2), .ref (am 3 0), .ref (am 4 0), .ref (am 5 0), .ref (am 6 0), .ref (am 7 0), .ref (am 8 0), .ref (am 9 0), .ref (am 10 0), .ref (am 11 0), .ref (am 12 0), .ref (am 13 0), vI (((layN ((cu m 0 0 ((fu (m 0 0) 0 0)))) sr9 96) 0 0) 14), .ref (am 15 0), .ref (am 16 0), .ref (am 17 0), .ref (am 18 0), .ref (am 19 0), .ref (am 20 0), .ref (am 21 0), .ref (am 22 0), .ref (am 23 0), .ref (am 24 0), .ref (am 25 0), .ref (am 26 0), .ref (am 27 0), .ref (am 28 0), .ref (am 29 0), vI (((((layN ((cu m 0 0 ((fu (m 0 0) 0 0)))) sr9 96) 0 0) 30).toNat : Nat) : Int), vI (m 24 0 u.toNat), vI (m 25 0 u.toNat), vI (((m 26 0 u.toNat).toNat : Nat) : Int), vI 1, .ref (am 35 0), .ref (am 36 0), .ref (am 37 0)]) := by rw [e56]; exact hu_s
          have cp58 : MP D am h (cu (layN ((cu m 0 0 ((fu (m 0 0) 0 0)))) sr9 96) 0 0 ((fu (fu (fu (fu ((layN ((cu m 0 0 ((fu (m 0 0) 0 0)))) sr9 96) 0 0) 31 (m 24 0 u.toNat)) 32 (m 25 0 u.toNat)) 33 (((m 26 0 u.toNat).toNat : Nat) : Int)) 34 1))) h55 := by rw [e56, e53, e47, e42]; simp only [hu_u]; exact (MP.up cp38 (lm0 (by decide)) ((fu (fu (fu (fu ((layN ((cu m 0 0 ((fu (m 0 0) 0 0)))) sr9 96) 0 0) 31 (m 24 0 u.toNat)) 32 (m 25 0 u.toNat)) 33 (((m 26 0 u.toNat).toNat : Nat) : Int)) 34 1)) rfl)
          have cp59 : MP D am h (bM (layN ((cu m 0 0 ((fu (m 0 0) 0 0)))) sr9 96) (m 24 0 u.toNat) (m 25 0 u.toNat) (m 26 0 u.toNat).toNat 1) h55 := by have q9 := cp58; exact q9
          refine x_aload_n C dX8_step_107 0 rfl ?_
          refine x_iload_n C dX8_step_108 2 rfl ?_
          have f60 : h55 (am 0 0) = some (eO 8 [vI (((bM (layN ((cu m 0 0 ((fu (m 0 0) 0 0)))) sr9 96) (m 24 0 u.toNat) (m 25 0 u.toNat) (m 26 0 u.toNat).toNat 1) 0 0) 0), .ref (am 1 0), vI (((bM (layN ((cu m 0 0 ((fu (m 0 0) 0 0)))) sr9 96) (m 24 0 u.toNat) (m 25 0 u.toNat) (m 26 0 u.toNat).toNat 1) 0 0) 2), .ref (am 3 0), .ref (am 4 0), .ref (am 5 0), .ref (am 6 0), .ref (am 7 0), .ref (am 8 0), .ref (am 9 0), .ref (am 10 0), .ref (am 11 0), .ref (am 12 0), .ref (am 13 0), vI (((bM (layN ((cu m 0 0 ((fu (m 0 0) 0 0)))) sr9 96) (m 24 0 u.toNat) (m 25 0 u.toNat) (m 26 0 u.toNat).toNat 1) 0 0) 14), .ref (am 15 0), .ref (am 16 0), .ref (am 17 0), .ref (am 18 0), .ref (am 19 0), .ref (am 20 0), .ref (am 21 0), .ref (am 22 0), .ref (am 23 0), .ref (am 24 0), .ref (am 25 0), .ref (am 26 0), .ref (am 27 0), .ref (am 28 0), .ref (am 29 0), vI (((((bM (layN ((cu m 0 0 ((fu (m 0 0) 0 0)))) sr9 96) (m 24 0 u.toNat) (m 25 0 u.toNat) (m 26 0 u.toNat).toNat 1) 0 0) 30).toNat : Nat) : Int), vI (((bM (layN ((cu m 0 0 ((fu (m 0 0) 0 0)))) sr9 96) (m 24 0 u.toNat) (m 25 0 u.toNat) (m 26 0 u.toNat).toNat 1) 0 0) 31), vI (((bM (layN ((cu m 0 0 ((fu (m 0 0) 0 0)))) sr9 96) (m 24 0 u.toNat) (m 25 0 u.toNat) (m 26 0 u.toNat).toNat 1) 0 0) 32), vI (((((bM (layN ((cu m 0 0 ((fu (m 0 0) 0 0)))) sr9 96) (m 24 0 u.toNat) (m 25 0 u.toNat) (m 26 0 u.toNat).toNat 1) 0 0) 33).toNat : Nat) : Int), vI (((bM (layN ((cu m 0 0 ((fu (m 0 0) 0 0)))) sr9 96) (m 24 0 u.toNat) (m 25 0 u.toNat) (m 26 0 u.toNat).toNat 1) 0 0) 34), .ref (am 35 0), .ref (am 36 0), .ref (am 37 0)]) := cp59.1.1 0 0 (lm0 (by decide))
          refine x_callV C (n := 1) (qc := (RX8, TX8, 38)) (As := [vI z]) (rest := []) (c_X8_moves (cp59.1) (by omega) (g3) (g4) (hg28) (hb29) (ht9) (hal9) (hSS) (rfl)) gX8_step_X8_moves (by decide +kernel) f60 rfl rfl rfl rfl (Nat.le_of_ble_eq_true rfl) ⟨by decide, by decide⟩ ⟨(by decide), (by decide)⟩ dX8_step_109 (fun rv61 h62 hp63 => ?_)
          obtain ⟨rfl, cp65⟩ := hp63
          have cp66 : MP D am h (mvM ((bM (layN ((cu m 0 0 ((fu (m 0 0) 0 0)))) sr9 96) (m 24 0 u.toNat) (m 25 0 u.toNat) (m 26 0 u.toNat).toNat 1)) (mv (((bM (layN ((cu m 0 0 ((fu (m 0 0) 0 0)))) sr9 96) (m 24 0 u.toNat) (m 25 0 u.toNat) (m 26 0 u.toNat).toNat 1)) 28 0) (KBm ((bM (layN ((cu m 0 0 ((fu (m 0 0) 0 0)))) sr9 96) (m 24 0 u.toNat) (m 25 0 u.toNat) (m 26 0 u.toNat).toNat 1))) (((bM (layN ((cu m 0 0 ((fu (m 0 0) 0 0)))) sr9 96) (m 24 0 u.toNat) (m 25 0 u.toNat) (m 26 0 u.toNat).toNat 1)) 0 0 30).toNat (((bM (layN ((cu m 0 0 ((fu (m 0 0) 0 0)))) sr9 96) (m 24 0 u.toNat) (m 25 0 u.toNat) (m 26 0 u.toNat).toNat 1)) 1 0) z (((bM (layN ((cu m 0 0 ((fu (m 0 0) 0 0)))) sr9 96) (m 24 0 u.toNat) (m 25 0 u.toNat) (m 26 0 u.toNat).toNat 1)) 0 0 31) (((bM (layN ((cu m 0 0 ((fu (m 0 0) 0 0)))) sr9 96) (m 24 0 u.toNat) (m 25 0 u.toNat) (m 26 0 u.toNat).toNat 1)) 0 0 32) (((bM (layN ((cu m 0 0 ((fu (m 0 0) 0 0)))) sr9 96) (m 24 0 u.toNat) (m 25 0 u.toNat) (m 26 0 u.toNat).toNat 1)) 0 0 33).toNat)) h62 := MP.trans cp59 cp65
          obtain ⟨x9, hx9⟩ : ∃ x9 : B4, x9 = (mv (lyG sr9 (m 28 0) 96) (kbr sr9 (m 29 0)) (lyA sr9 96) (m 1 0) z (m 24 0 u.toNat) (m 25 0 u.toNat) (m 26 0 u.toNat).toNat) := ⟨_, rfl⟩
          have cp67 : MP D am h (bM (layN ((cu m 0 0 ((fu (m 0 0) 0 0)))) sr9 96) x9.1 x9.2.1 x9.2.2.1 x9.2.2.2) h62 := by have q9 := cp66; unfold mvM at q9; rw [bM_b] at q9; rw [hx9]; exact q9
          have hXk : bOK x9 := by rw [hx9]; exact mv_r (fun p => by have := hb29 p.toNat; unfold kbr; omega) hSS g3 g4 (by omega)
          have hxs9 : 0 ≤ x9.2.2.2 ∧ x9.2.2.2 ≤ 4 := hXk.2.2.2.2.2
          have hv9 : m 23 0 u.toNat = (((m 23 0 u.toNat).toNat : Nat) : Int) := by omega
          have hv19 : (m 23 0 u.toNat).toNat < 20 := by omega
          have hrc9 := hrec (m 23 0 u.toNat).toNat (by omega)
          have hst9 : 0 ≤ fu (m 27 0) u.toNat (m 27 0 u.toNat + 1) u.toNat ∧ fu (m 27 0) u.toNat (m 27 0 u.toNat + 1) u.toNat ≤ 300 := by rw [fu_s]; omega
          refine x_aload_n C dX8_step_112 0 rfl ?_
          have f68 : h62 (am 0 0) = some (eO 8 [vI (((bM (layN ((cu m 0 0 ((fu (m 0 0) 0 0)))) sr9 96) x9.1 x9.2.1 x9.2.2.1 x9.2.2.2) 0 0) 0), .ref (am 1 0), vI (((bM (layN ((cu m 0 0 ((fu (m 0 0) 0 0)))) sr9 96) x9.1 x9.2.1 x9.2.2.1 x9.2.2.2) 0 0) 2), .ref (am 3 0), .ref (am 4 0), .ref (am 5 0), .ref (am 6 0), .ref (am 7 0), .ref (am 8 0), .ref (am 9 0), .ref (am 10 0), .ref (am 11 0), .ref (am 12 0), .ref (am 13 0), vI (((bM (layN ((cu m 0 0 ((fu (m 0 0) 0 0)))) sr9 96) x9.1 x9.2.1 x9.2.2.1 x9.2.2.2) 0 0) 14), .ref (am 15 0), .ref (am 16 0), .ref (am 17 0), .ref (am 18 0), .ref (am 19 0), .ref (am 20 0), .ref (am 21 0), .ref (am 22 0), .ref (am 23 0), .ref (am 24 0), .ref (am 25 0), .ref (am 26 0), .ref (am 27 0), .ref (am 28 0), .ref (am 29 0), vI (((((bM (layN ((cu m 0 0 ((fu (m 0 0) 0 0)))) sr9 96) x9.1 x9.2.1 x9.2.2.1 x9.2.2.2) 0 0) 30).toNat : Nat) : Int), vI (((bM (layN ((cu m 0 0 ((fu (m 0 0) 0 0)))) sr9 96) x9.1 x9.2.1 x9.2.2.1 x9.2.2.2) 0 0) 31), vI (((bM (layN ((cu m 0 0 ((fu (m 0 0) 0 0)))) sr9 96) x9.1 x9.2.1 x9.2.2.1 x9.2.2.2) 0 0) 32), vI (((((bM (layN ((cu m 0 0 ((fu (m 0 0) 0 0)))) sr9 96) x9.1 x9.2.1 x9.2.2.1 x9.2.2.2) 0 0) 33).toNat : Nat) : Int), vI (((bM (layN ((cu m 0 0 ((fu (m 0 0) 0 0)))) sr9 96) x9.1 x9.2.1 x9.2.2.1 x9.2.2.2) 0 0) 34), .ref (am 35 0), .ref (am 36 0), .ref (am 37 0)]) := cp67.1.1 0 0 (lm0 (by decide))
          refine x_get C (v := .ref (am 27 0)) f68 (T := TX8) rfl kX8_step_1 27 (by decide) kX8_step_3 rfl dX8_step_113 ?_
          refine x_iload_n C dX8_step_116 1 rfl ?_
          refine x_dup2 C dX8_step_117 rfl rfl ?_
          have f69 : h62 (am 27 0) = some (eI D 6 (((bM (layN ((cu m 0 0 ((fu (m 0 0) 0 0)))) sr9 96) x9.1 x9.2.1 x9.2.2.1 x9.2.2.2) 27 0))) := cp67.1.1 27 0 (lm0 (by decide))
          refine x_iald C f69 ⟨by omega, by omega⟩ (by decide) dX8_step_118 ?_
          refine x_topv (show (((bM (layN ((cu m 0 0 ((fu (m 0 0) 0 0)))) sr9 96) x9.1 x9.2.1 x9.2.2.1 x9.2.2.2) 27 0)) (Int.toNat u) = m 27 0 u.toNat from by rfl) ?_
          refine x_iconst C dX8_step_119 1 (by decide) ?_
          refine x_iadd C dX8_step_120 ?_
          refine x_iast C f69 ⟨by omega, by omega⟩ (by decide) dX8_step_121 (x_hn (fun h70 e71 => ?_))
          have f72 : h70 (am 27 0) = some (eI D 6 (fu (((bM (layN ((cu m 0 0 ((fu (m 0 0) 0 0)))) sr9 96) x9.1 x9.2.1 x9.2.2.1 x9.2.2.2) 27 0)) (Int.toNat u) ((m 27 0 u.toNat) + 1))) := by rw [e71]; exact hu_s
          refine x_aload_n C dX8_step_122 0 rfl ?_
          refine x_iload_n C dX8_step_123 1 rfl ?_
          have cp73 : MP D am h (cu (bM (layN ((cu m 0 0 ((fu (m 0 0) 0 0)))) sr9 96) x9.1 x9.2.1 x9.2.2.1 x9.2.2.2) 27 0 (fu (((bM (layN ((cu m 0 0 ((fu (m 0 0) 0 0)))) sr9 96) x9.1 x9.2.1 x9.2.2.1 x9.2.2.2) 27 0)) (Int.toNat u) ((m 27 0 u.toNat) + 1))) h70 := by rw [e71]; exact (MP.up cp67 (lm0 (by decide)) (fu (((bM (layN ((cu m 0 0 ((fu (m 0 0) 0 0)))) sr9 96) x9.1 x9.2.1 x9.2.2.1 x9.2.2.2) 27 0)) (Int.toNat u) ((m 27 0 u.toNat) + 1)) rfl)
          have f74 : h70 (am 0 0) = some (eO 8 [vI (((bM (layN ((cu m 0 0 ((fu (m 0 0) 0 0)))) sr9 96) x9.1 x9.2.1 x9.2.2.1 x9.2.2.2) 0 0) 0), .ref (am 1 0), vI (((bM (layN ((cu m 0 0 ((fu (m 0 0) 0 0)))) sr9 96) x9.1 x9.2.1 x9.2.2.1 x9.2.2.2) 0 0) 2), .ref (am 3 0), .ref (am 4 0), .ref (am 5 0), .ref (am 6 0), .ref (am 7 0), .ref (am 8 0), .ref (am 9 0), .ref (am 10 0), .ref (am 11 0), .ref (am 12 0), .ref (am 13 0), vI (((bM (layN ((cu m 0 0 ((fu (m 0 0) 0 0)))) sr9 96) x9.1 x9.2.1 x9.2.2.1 x9.2.2.2) 0 0) 14), .ref (am 15 0), .ref (am 16 0), .ref (am 17 0), .ref (am 18 0), .ref (am 19 0), .ref (am 20 0), .ref (am 21 0), .ref (am 22 0), .ref (am 23 0), .ref (am 24 0), .ref (am 25 0), .ref (am 26 0), .ref (am 27 0), .ref (am 28 0), .ref (am 29 0), vI (((((bM (layN ((cu m 0 0 ((fu (m 0 0) 0 0)))) sr9 96) x9.1 x9.2.1 x9.2.2.1 x9.2.2.2) 0 0) 30).toNat : Nat) : Int), vI (((bM (layN ((cu m 0 0 ((fu (m 0 0) 0 0)))) sr9 96) x9.1 x9.2.1 x9.2.2.1 x9.2.2.2) 0 0) 31), vI (((bM (layN ((cu m 0 0 ((fu (m 0 0) 0 0)))) sr9 96) x9.1 x9.2.1 x9.2.2.1 x9.2.2.2) 0 0) 32), vI (((((bM (layN ((cu m 0 0 ((fu (m 0 0) 0 0)))) sr9 96) x9.1 x9.2.1 x9.2.2.1 x9.2.2.2) 0 0) 33).toNat : Nat) : Int), vI (((bM (layN ((cu m 0 0 ((fu (m 0 0) 0 0)))) sr9 96) x9.1 x9.2.1 x9.2.2.1 x9.2.2.2) 0 0) 34), .ref (am 35 0), .ref (am 36 0), .ref (am 37 0)]) := by rw [e71, hu_n (cp67.1.ne (lm0 (by decide)) (lm0 (by decide)) (fun zz9 => absurd zz9.1 (by decide)))]; exact f68
          refine x_callV C (n := 1) (qc := (RX8, TX8, 38)) (As := [vI u]) (rest := []) (c_X8_keeps (x := x9) (v := (m 23 0 u.toNat).toNat) (cp73.1) (by omega) (hv9) (hv19) (rfl) (rfl) (rfl) (rfl) (hxs9) (hrc9) (hst9)) gX8_step_X8_keeps (by decide +kernel) f74 rfl rfl rfl rfl (Nat.le_of_ble_eq_true rfl) ⟨by decide, by decide⟩ ⟨(by decide), (by decide)⟩ dX8_step_124 (fun rv75 h76 hp77 => ?_)
          obtain ⟨rfl, cp79⟩ := hp77
          have cp80 : MP D am h (kpX ((cu (bM (layN ((cu m 0 0 ((fu (m 0 0) 0 0)))) sr9 96) x9.1 x9.2.1 x9.2.2.1 x9.2.2.2) 27 0 (fu (((bM (layN ((cu m 0 0 ((fu (m 0 0) 0 0)))) sr9 96) x9.1 x9.2.1 x9.2.2.1 x9.2.2.2) 27 0)) (Int.toNat u) ((m 27 0 u.toNat) + 1)))) u.toNat ((m 23 0 u.toNat).toNat) x9) h76 := MP.trans cp73 cp79
          refine x_iret C G dX8_step_127 ?_ (by decide) (by decide)
          refine ⟨_, _, rfl, cp80, Or.inr (Or.inr (Or.inr ⟨rfl, by omega, ⟨x9, ?_, rfl, ?_⟩⟩))⟩
          · rw [hx9, hsr0]
          · exact SM.kp (SM.up9 (by decide) rfl (SM.bm (SM.ly hsr9 hA9 (SM.th SM.rf))))
        · skip
          refine x_aload_n C dX8_step_55 0 rfl ?_
          refine x_iconst C dX8_step_56 3 (by decide) ?_
          have cp81 : MP D am h (cu m 0 0 ((fu (m 0 0) 0 0))) h2 := by rw [e3]; exact (MP.up (MP.rf hR) (lm0 (by decide)) ((fu (m 0 0) 0 0)) rfl)
          refine x_callV C (n := 1) (qc := (RX8, TX8, 38)) (As := [vI 3]) (rest := []) (c_X8_fails (cp81.1)) gX8_step_X8_fails (by decide +kernel) f4 rfl rfl rfl rfl (Nat.le_of_ble_eq_true rfl) ⟨by decide, by decide⟩ ⟨(by decide), (by decide)⟩ dX8_step_57 (fun rv82 h83 hp84 => ?_)
          obtain ⟨rfl, cp86⟩ := hp84
          have cp87 : MP D am h ((cu ((cu m 0 0 ((fu (m 0 0) 0 0)))) 0 0 ((fu (((cu m 0 0 ((fu (m 0 0) 0 0)))) 0 0) 0 3)))) h83 := MP.trans cp81 cp86
          refine x_iret C G dX8_step_60 ?_ (by decide) (by decide)
          exact ⟨_, _, rfl, cp87, Or.inr (Or.inr (Or.inl ⟨rfl, by omega, (by repeat (first | exact SM.rf | refine SM.th ?_ | refine SM.rem ?_ | refine SM.o2 ?_ | refine SM.o14 ?_ | refine SM.sr ?_ | refine SM.ly (by assumption) (by assumption) ?_ | refine SM.bm ?_ | refine SM.st ?_ | refine SM.mv ?_ | refine SM.up (by decide) ?_))⟩))⟩
    · skip
      refine x_aload_n C dX8_step_27 0 rfl ?_
      refine x_iconst C dX8_step_28 2 (by decide) ?_
      have cp88 : MP D am h (cu m 0 0 ((fu (m 0 0) 0 0))) h2 := by rw [e3]; exact (MP.up (MP.rf hR) (lm0 (by decide)) ((fu (m 0 0) 0 0)) rfl)
      refine x_callV C (n := 1) (qc := (RX8, TX8, 38)) (As := [vI 2]) (rest := []) (c_X8_fails (cp88.1)) gX8_step_X8_fails (by decide +kernel) f4 rfl rfl rfl rfl (Nat.le_of_ble_eq_true rfl) ⟨by decide, by decide⟩ ⟨(by decide), (by decide)⟩ dX8_step_29 (fun rv89 h90 hp91 => ?_)
      obtain ⟨rfl, cp93⟩ := hp91
      have cp94 : MP D am h ((cu ((cu m 0 0 ((fu (m 0 0) 0 0)))) 0 0 ((fu (((cu m 0 0 ((fu (m 0 0) 0 0)))) 0 0) 0 2)))) h90 := MP.trans cp88 cp93
      refine x_iret C G dX8_step_32 ?_ (by decide) (by decide)
      exact ⟨_, _, rfl, cp94, Or.inr (Or.inl ⟨rfl, by omega, (by repeat (first | exact SM.rf | refine SM.th ?_ | refine SM.rem ?_ | refine SM.o2 ?_ | refine SM.o14 ?_ | refine SM.sr ?_ | refine SM.ly (by assumption) (by assumption) ?_ | refine SM.bm ?_ | refine SM.st ?_ | refine SM.mv ?_ | refine SM.up (by decide) ?_))⟩)⟩
  · skip
    refine x_aload_n C dX8_step_12 0 rfl ?_
    refine x_iconst C dX8_step_13 1 (by decide) ?_
    have cp95 : MP D am h (cu m 0 0 ((fu (m 0 0) 0 0))) h2 := by rw [e3]; exact (MP.up (MP.rf hR) (lm0 (by decide)) ((fu (m 0 0) 0 0)) rfl)
    refine x_callV C (n := 1) (qc := (RX8, TX8, 38)) (As := [vI 1]) (rest := []) (c_X8_fails (cp95.1)) gX8_step_X8_fails (by decide +kernel) f4 rfl rfl rfl rfl (Nat.le_of_ble_eq_true rfl) ⟨by decide, by decide⟩ ⟨(by decide), (by decide)⟩ dX8_step_14 (fun rv96 h97 hp98 => ?_)
    obtain ⟨rfl, cp100⟩ := hp98
    have cp101 : MP D am h ((cu ((cu m 0 0 ((fu (m 0 0) 0 0)))) 0 0 ((fu (((cu m 0 0 ((fu (m 0 0) 0 0)))) 0 0) 0 1)))) h97 := MP.trans cp95 cp100
    refine x_iret C G dX8_step_17 ?_ (by decide) (by decide)
    exact ⟨_, _, rfl, cp101, Or.inl ⟨rfl, by omega, (by repeat (first | exact SM.rf | refine SM.th ?_ | refine SM.rem ?_ | refine SM.o2 ?_ | refine SM.o14 ?_ | refine SM.sr ?_ | refine SM.ly (by assumption) (by assumption) ?_ | refine SM.bm ?_ | refine SM.st ?_ | refine SM.mv ?_ | refine SM.up (by decide) ?_))⟩⟩


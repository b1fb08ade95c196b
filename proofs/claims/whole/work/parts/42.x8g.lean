theorem sumN_s {f : Nat → Int} {n : Nat} : sumN f n + f n = sumN f (n + 1) := rfl
noncomputable def lnM (m : CS) (v : Nat) (k : Nat) : Int := bI (Anc (fun i => m 19 0 i + 1) (fun i => i = v) ((k : Int) + 1))
noncomputable def crM (m : CS) (p : Int) (k : Nat) : Int := if bI (Anc (fun i => m 19 0 i + 1) (fun i => m 15 0 i = p) ((k : Int) + 1)) = 0 then 0 else sumN (fun j => m 21 0 (6 * k + j)) 6

theorem kX8_sumOf_0 : Cond.fieldLink "LedgeLevelsModel" 64 "LedgeLevelsModel" "stars" "[I" ∈ wsX8_sumOf := by decide +kernel
theorem kX8_sumOf_1 : ∀ w ∈ wsX80, w ∈ wsX8_sumOf := by decide +kernel
set_option maxRecDepth 100000 in
set_option maxHeartbeats 1000000 in
theorem c_X8_sumOf {l : Launch} {D : va_G} {A : Nat → Prop} {h : vh} {am : AD} {m : CS} {w : Int}  (hR : RepM D am m h) (hw : 0 ≤ w ∧ w < 20) : MX l D A yX8_sumOf wsX8_sumOf { frames := 0, cells := 0, slots := 0, locals := 0 } [.ref (am 0 0), vI w] h (fun rv h' => rv = some (vI (sumN (fun j => m 21 0 (6 * w.toNat + j)) 6)) ∧ h' = h) := by
  refine MX.of (cc := cX8_sumOf) (maxL := 4) (ret := (some .int)) [(0, .ref (am 0 0)), (1, vI w)] (by decide +kernel) rfl rfl (Nat.le_of_ble_eq_true rfl) ?_
  intro κ C hkl G
  subst hkl
  have C : CX κ "LedgeLevelsModel" "sumOf" cX8_sumOf wsX8_sumOf { frames := 0, cells := 0, slots := 0, locals := 0 } D A 4 := C
  have hiz : nq (D.1 20) (D.1 21) := cx_iz C
  refine x_iconst C dX8_sumOf_0 0 (by decide) ?_
  refine x_topv (show 0 = sumN (fun j => m 21 0 (6 * w.toNat + j)) 0 from by rfl) ?_
  refine x_istore_n C (ls' := [(0, .ref (am 0 0)), (1, vI w), (2, vI (sumN (fun j => m 21 0 (6 * w.toNat + j)) 0))]) dX8_sumOf_1 (by decide) rfl ?_
  refine x_iconst C dX8_sumOf_2 0 (by decide) ?_
  refine x_istore_n C (ls' := [(0, .ref (am 0 0)), (1, vI w), (2, vI (sumN (fun j => m 21 0 (6 * w.toNat + j)) 0)), (3, vI 0)]) dX8_sumOf_3 (by decide) rfl ?_
  have LP : ∀ (N : Nat) (n : Nat)   (hn : n ≤ 6) (hN : 6 - n < N), X κ 0 0 h [(0, .ref (am 0 0)), (1, vI w), (2, vI (sumN (fun j => m 21 0 (6 * w.toNat + j)) n)), (3, vI ((n : Nat) : Int))] 4 [] := by
    intro N
    induction N with
    | zero => intro n hn hN; exfalso; omega
    | succ N ihLP =>
      intro n hn hN
      refine x_iload_n C dX8_sumOf_4 3 rfl ?_
      refine x_bipush C dX8_sumOf_5 6 (by decide) ?_
      refine x_icmp_ge (tgt := 30) C dX8_sumOf_7 (by decide) (by omega) (by omega) (fun c2 => ?_) (fun c2 => ?_)
      · skip
        refine x_iload_n C dX8_sumOf_30 2 rfl ?_
        refine x_iret C G dX8_sumOf_31 ?_ (by decide) (by decide)
        obtain rfl : n = 6 := by omega
        exact ⟨rfl, rfl⟩
      · skip
        refine x_iload_n C dX8_sumOf_10 2 rfl ?_
        refine x_aload_n C dX8_sumOf_11 0 rfl ?_
        have f3 : h (am 0 0) = some (eO 8 [vI (m 0 0 0), .ref (am 1 0), vI (m 0 0 2), .ref (am 3 0), .ref (am 4 0), .ref (am 5 0), .ref (am 6 0), .ref (am 7 0), .ref (am 8 0), .ref (am 9 0), .ref (am 10 0), .ref (am 11 0), .ref (am 12 0), .ref (am 13 0), vI (m 0 0 14), .ref (am 15 0), .ref (am 16 0), .ref (am 17 0), .ref (am 18 0), .ref (am 19 0), .ref (am 20 0), .ref (am 21 0), .ref (am 22 0), .ref (am 23 0), .ref (am 24 0), .ref (am 25 0), .ref (am 26 0), .ref (am 27 0), .ref (am 28 0), .ref (am 29 0), vI (((m 0 0 30).toNat : Nat) : Int), vI (m 0 0 31), vI (m 0 0 32), vI (((m 0 0 33).toNat : Nat) : Int), vI (m 0 0 34), .ref (am 35 0), .ref (am 36 0), .ref (am 37 0)]) := hR.1 0 0 (lm0 (by decide))
        refine x_get C (v := .ref (am 21 0)) f3 (T := TX8) rfl kX8_sumOf_1 21 (by decide) kX8_sumOf_0 rfl dX8_sumOf_12 ?_
        refine x_bipush C dX8_sumOf_15 6 (by decide) ?_
        refine x_iload_n C dX8_sumOf_17 1 rfl ?_
        refine x_imul C dX8_sumOf_18 ?_
        refine x_iload_n C dX8_sumOf_19 3 rfl ?_
        refine x_iadd C dX8_sumOf_20 ?_
        have f4 : h (am 21 0) = some (eI D 120 (m 21 0)) := hR.1 21 0 (lm0 (by decide))
        refine x_iald C f4 ⟨by omega, by omega⟩ (by decide) dX8_sumOf_21 ?_
        refine x_topv (show (m 21 0) (Int.toNat ((6 * w) + (((n : Nat) : Int)))) = m 21 0 (6 * w.toNat + n) from by rw [show Int.toNat (6 * w + ((n : Nat) : Int)) = 6 * w.toNat + n by omega]) ?_
        refine x_iadd C dX8_sumOf_22 ?_
        refine x_topv (show (sumN (fun j => m 21 0 (6 * w.toNat + j)) n) + (m 21 0 (6 * w.toNat + n)) = sumN (fun j => m 21 0 (6 * w.toNat + j)) (n + 1) from by rfl) ?_
        refine x_istore_n C (ls' := [(0, .ref (am 0 0)), (1, vI w), (2, vI (sumN (fun j => m 21 0 (6 * w.toNat + j)) (n + 1))), (3, vI ((n : Nat) : Int))]) dX8_sumOf_23 (by decide) rfl ?_
        refine x_iinc C (x := ((n : Nat) : Int)) (ls' := [(0, .ref (am 0 0)), (1, vI w), (2, vI (sumN (fun j => m 21 0 (6 * w.toNat + j)) (n + 1))), (3, vI ((((n : Nat) : Int)) + 1))]) dX8_sumOf_24 3 rfl (by decide) rfl ?_
        refine x_goto (tgt := 4) C dX8_sumOf_27 (by decide) ?_
        exact ihLP (n + 1) (by omega) (by omega)
  exact LP (7) 0 (by omega) (by omega)

theorem kX8_stars_0 : Cond.fieldLink "LedgeLevelsModel" 101 "LedgeLevelsModel" "thrown" "I" ∈ wsX8_stars := by decide +kernel
theorem kX8_stars_1 : ∀ w ∈ wsX80, w ∈ wsX8_stars := by decide +kernel
set_option maxRecDepth 100000 in
set_option maxHeartbeats 1000000 in
theorem c_X8_stars {l : Launch} {D : va_G} {A : Nat → Prop} {h : vh} {am : AD} {m : CS} {u : Int}  (hR : RepM D am m h) (hM1 : Mk1 m) (hi_u : -2147483648 ≤ u ∧ u ≤ 2147483647) : MX l D A yX8_stars wsX8_stars { frames := 2, cells := 0, slots := 0, locals := 43 } [.ref (am 0 0), vI u] h (fun rv h' => ∃ (r : Int) (m1 : CS), rv = some (vI r) ∧ MP D am h (m1) h' ∧ ((m1 0 0 0 = 1 ∧ (¬ (0 ≤ u ∧ u < m 0 0 14)) ∧ SM m m1) ∨ (m1 0 0 0 = 0 ∧ (0 ≤ u ∧ u < m 0 0 14) ∧ r = sumN (fun j => m 21 0 (6 * u.toNat + j)) 6 ∧ SM m m1))) := by
  refine MX.of (cc := cX8_stars) (maxL := 2) (ret := (some .int)) [(0, .ref (am 0 0)), (1, vI u)] (by decide +kernel) rfl rfl (Nat.le_of_ble_eq_true rfl) ?_
  intro κ C hkl G
  subst hkl
  have C : CX κ "LedgeLevelsModel" "stars" cX8_stars wsX8_stars { frames := 2, cells := 0, slots := 0, locals := 43 } D A 2 := C
  have hiz : nq (D.1 20) (D.1 21) := cx_iz C
  obtain ⟨hM1a, hM1b⟩ := id hM1
  refine x_aload_n C dX8_stars_0 0 rfl ?_
  refine x_iconst C dX8_stars_1 0 (by decide) ?_
  have f1 : h (am 0 0) = some (eO 8 [vI (m 0 0 0), .ref (am 1 0), vI (m 0 0 2), .ref (am 3 0), .ref (am 4 0), .ref (am 5 0), .ref (am 6 0), .ref (am 7 0), .ref (am 8 0), .ref (am 9 0), .ref (am 10 0), .ref (am 11 0), .ref (am 12 0), .ref (am 13 0), vI (m 0 0 14), .ref (am 15 0), .ref (am 16 0), .ref (am 17 0), .ref (am 18 0), .ref (am 19 0), .ref (am 20 0), .ref (am 21 0), .ref (am 22 0), .ref (am 23 0), .ref (am 24 0), .ref (am 25 0), .ref (am 26 0), .ref (am 27 0), .ref (am 28 0), .ref (am 29 0), vI (((m 0 0 30).toNat : Nat) : Int), vI (m 0 0 31), vI (m 0 0 32), vI (((m 0 0 33).toNat : Nat) : Int), vI (m 0 0 34), .ref (am 35 0), .ref (am 36 0), .ref (am 37 0)]) := hR.1 0 0 (lm0 (by decide))
  refine x_put C f1 (T := TX8) rfl tyX8_ok nmX8 kX8_stars_1 0 (by decide) kX8_stars_0 rfl (fs' := [vI 0, .ref (am 1 0), vI (m 0 0 2), .ref (am 3 0), .ref (am 4 0), .ref (am 5 0), .ref (am 6 0), .ref (am 7 0), .ref (am 8 0), .ref (am 9 0), .ref (am 10 0), .ref (am 11 0), .ref (am 12 0), .ref (am 13 0), vI (m 0 0 14), .ref (am 15 0), .ref (am 16 0), .ref (am 17 0), .ref (am 18 0), .ref (am 19 0), .ref (am 20 0), .ref (am 21 0), .ref (am 22 0), .ref (am 23 0), .ref (am 24 0), .ref (am 25 0), .ref (am 26 0), .ref (am 27 0), .ref (am 28 0), .ref (am 29 0), vI (((m 0 0 30).toNat : Nat) : Int), vI (m 0 0 31), vI (m 0 0 32), vI (((m 0 0 33).toNat : Nat) : Int), vI (m 0 0 34), .ref (am 35 0), .ref (am 36 0), .ref (am 37 0)]) rfl rfl (by simp) rfl dX8_stars_2 (x_hn (fun h2 e3 => ?_))
  have f4 : h2 (am 0 0) = some (eO 8 [vI 0, .ref (am 1 0), vI (m 0 0 2), .ref (am 3 0), .ref (am 4 0), .ref (am 5 0), .ref (am 6 0), .ref (am 7 0), .ref (am 8 0), .ref (am 9 0), .ref (am 10 0), .ref (am 11 0), .ref (am 12 0), .ref (am 13 0), vI (m 0 0 14), .ref (am 15 0), .ref (am 16 0), .ref (am 17 0), .ref (am 18 0), .ref (am 19 0), .ref (am 20 0), .ref (am 21 0), .ref (am 22 0), .ref (am 23 0), .ref (am 24 0), .ref (am 25 0), .ref (am 26 0), .ref (am 27 0), .ref (am 28 0), .ref (am 29 0), vI (((m 0 0 30).toNat : Nat) : Int), vI (m 0 0 31), vI (m 0 0 32), vI (((m 0 0 33).toNat : Nat) : Int), vI (m 0 0 34), .ref (am 35 0), .ref (am 36 0), .ref (am 37 0)]) := by rw [e3]; exact hu_s
  refine x_aload_n C dX8_stars_5 0 rfl ?_
  refine x_iload_n C dX8_stars_6 1 rfl ?_
  have cp6 : MP D am h (cu m 0 0 ((fu (m 0 0) 0 0))) h2 := by rw [e3]; exact (MP.up (MP.rf hR) (lm0 (by decide)) ((fu (m 0 0) 0 0)) rfl)
  refine x_callV C (n := 1) (qc := (RX8, TX8, 38)) (As := [vI u]) (rest := []) (c_X8_isWork (cp6.1) (hM1) (by omega)) gX8_stars_X8_isWork (by decide +kernel) f4 rfl rfl rfl rfl (Nat.le_of_ble_eq_true rfl) ⟨by decide, by decide⟩ ⟨(by decide), (by decide)⟩ dX8_stars_7 (fun rv7 h8 hp9 => ?_)
  obtain ⟨rfl, e10⟩ := hp9
  obtain rfl := e10.symm
  refine x_topv (show bI (0 ≤ u ∧ u ≤ ((cu m 0 0 ((fu (m 0 0) 0 0)))) 0 0 14 - 1) = bI (0 ≤ u ∧ u ≤ m 0 0 14 - 1) from by rfl) ?_
  have hbr5 := bI_cs ((0 ≤ u ∧ u ≤ m 0 0 14 - 1))
  refine x_if_eq (tgt := 21) C dX8_stars_10 (by decide) (by omega) (fun c11 => ?_) (fun c11 => ?_)
  · skip
    refine x_aload_n C dX8_stars_21 0 rfl ?_
    refine x_iconst C dX8_stars_22 1 (by decide) ?_
    have cp12 : MP D am h (cu m 0 0 ((fu (m 0 0) 0 0))) h2 := by rw [e3]; exact (MP.up (MP.rf hR) (lm0 (by decide)) ((fu (m 0 0) 0 0)) rfl)
    refine x_callV C (n := 1) (qc := (RX8, TX8, 38)) (As := [vI 1]) (rest := []) (c_X8_fails (cp12.1)) gX8_stars_X8_fails (by decide +kernel) f4 rfl rfl rfl rfl (Nat.le_of_ble_eq_true rfl) ⟨by decide, by decide⟩ ⟨(by decide), (by decide)⟩ dX8_stars_23 (fun rv13 h14 hp15 => ?_)
    obtain ⟨rfl, cp17⟩ := hp15
    have cp18 : MP D am h ((cu ((cu m 0 0 ((fu (m 0 0) 0 0)))) 0 0 ((fu (((cu m 0 0 ((fu (m 0 0) 0 0)))) 0 0) 0 1)))) h14 := MP.trans cp12 cp17
    refine x_iret C G dX8_stars_26 ?_ (by decide) (by decide)
    first
      | exact ⟨_, _, rfl, cp18, Or.inl (⟨rfl, by omega, (by repeat (first | exact SM.rf | refine SM.th ?_ | refine SM.o2 ?_ | refine SM.o14 ?_ | refine SM.sr ?_ | refine SM.ly (by assumption) (by assumption) ?_ | refine SM.bm ?_ | refine SM.st ?_ | refine SM.mv ?_ | refine SM.up (by decide) ?_))⟩)⟩
      | exact ⟨_, _, rfl, cp18, Or.inr (⟨rfl, by omega, by first | rfl | omega, (by repeat (first | exact SM.rf | refine SM.th ?_ | refine SM.o2 ?_ | refine SM.o14 ?_ | refine SM.sr ?_ | refine SM.ly (by assumption) (by assumption) ?_ | refine SM.bm ?_ | refine SM.st ?_ | refine SM.mv ?_ | refine SM.up (by decide) ?_))⟩)⟩
  · skip
    refine x_aload_n C dX8_stars_13 0 rfl ?_
    refine x_iload_n C dX8_stars_14 1 rfl ?_
    have cp19 : MP D am h (cu m 0 0 ((fu (m 0 0) 0 0))) h2 := by rw [e3]; exact (MP.up (MP.rf hR) (lm0 (by decide)) ((fu (m 0 0) 0 0)) rfl)
    refine x_callV C (n := 1) (qc := (RX8, TX8, 38)) (As := [vI u]) (rest := []) (c_X8_sumOf (cp19.1) (by omega)) gX8_stars_X8_sumOf (by decide +kernel) f4 rfl rfl rfl rfl (Nat.le_of_ble_eq_true rfl) ⟨by decide, by decide⟩ ⟨(by decide), (by decide)⟩ dX8_stars_15 (fun rv20 h21 hp22 => ?_)
    obtain ⟨rfl, e23⟩ := hp22
    obtain rfl := e23.symm
    refine x_goto (tgt := 26) C dX8_stars_18 (by decide) ?_
    refine x_iret C G dX8_stars_26 ?_ (by decide) (by decide)
    first
      | exact ⟨_, _, rfl, cp19, Or.inl (⟨rfl, by omega, (by repeat (first | exact SM.rf | refine SM.th ?_ | refine SM.o2 ?_ | refine SM.o14 ?_ | refine SM.sr ?_ | refine SM.ly (by assumption) (by assumption) ?_ | refine SM.bm ?_ | refine SM.st ?_ | refine SM.mv ?_ | refine SM.up (by decide) ?_))⟩)⟩
      | exact ⟨_, _, rfl, cp19, Or.inr (⟨rfl, by omega, by first | rfl | omega, (by repeat (first | exact SM.rf | refine SM.th ?_ | refine SM.o2 ?_ | refine SM.o14 ?_ | refine SM.sr ?_ | refine SM.ly (by assumption) (by assumption) ?_ | refine SM.bm ?_ | refine SM.st ?_ | refine SM.mv ?_ | refine SM.up (by decide) ?_))⟩)⟩

theorem kX8_isInLine_0 : Cond.fieldLink "LedgeLevelsModel" 58 "LedgeLevelsModel" "parent" "[I" ∈ wsX8_isInLine := by decide +kernel
theorem kX8_isInLine_1 : ∀ w ∈ wsX80, w ∈ wsX8_isInLine := by decide +kernel
set_option maxRecDepth 100000 in
set_option maxHeartbeats 1000000 in
theorem c_X8_isInLine {l : Launch} {D : va_G} {A : Nat → Prop} {h : vh} {am : AD} {m : CS} {v k : Nat}  (hR : RepM D am m h) (hpa : ∀ i : Nat, (i : Int) < m 0 0 14 → -1 ≤ m 19 0 i ∧ m 19 0 i < i) (hW20 : m 0 0 14 ≤ 20) (hk : (k : Int) < m 0 0 14) (hv : (v : Int) < m 0 0 14) : MX l D A yX8_isInLine wsX8_isInLine { frames := 0, cells := 0, slots := 0, locals := 0 } [.ref (am 0 0), vI ((v : Nat) : Int), vI ((k : Nat) : Int)] h (fun rv h' => rv = some (vI (bI (Anc (fun i => m 19 0 i + 1) (fun i => i = v) ((k : Int) + 1)))) ∧ h' = h) := by
  refine MX.of (cc := cX8_isInLine) (maxL := 4) (ret := (some .boolean)) [(0, .ref (am 0 0)), (1, vI ((v : Nat) : Int)), (2, vI ((k : Nat) : Int))] (by decide +kernel) rfl rfl (Nat.le_of_ble_eq_true rfl) ?_
  intro κ C hkl G
  subst hkl
  have C : CX κ "LedgeLevelsModel" "isInLine" cX8_isInLine wsX8_isInLine { frames := 0, cells := 0, slots := 0, locals := 0 } D A 4 := C
  have hiz : nq (D.1 20) (D.1 21) := cx_iz C
  refine x_iload_n C dX8_isInLine_0 2 rfl ?_
  refine x_istore_n C (ls' := [(0, .ref (am 0 0)), (1, vI ((v : Nat) : Int)), (2, vI ((k : Nat) : Int)), (3, vI ((k : Nat) : Int))]) dX8_isInLine_1 (by decide) rfl ?_
  have LP : ∀ (N : Nat) (y : Int)   (hy : -1 ≤ y ∧ y < m 0 0 14) (hN : (y + 1).toNat < N) (hA : Anc (fun i => m 19 0 i + 1) (fun i => i = v) ((k : Int) + 1) ↔ Anc (fun i => m 19 0 i + 1) (fun i => i = v) (y + 1)), X κ 0 0 h [(0, .ref (am 0 0)), (1, vI ((v : Nat) : Int)), (2, vI ((k : Nat) : Int)), (3, vI y)] 2 [] := by
    intro N
    induction N with
    | zero => intro y hy hN hA; exfalso; omega
    | succ N ihLP =>
      intro y hy hN hA
      refine x_iload_n C dX8_isInLine_2 3 rfl ?_
      refine x_iconst C dX8_isInLine_3 (-1) (by decide) ?_
      refine x_icmp_eq (tgt := 22) C dX8_isInLine_4 (by decide) (by omega) (by omega) (fun c2 => ?_) (fun c2 => ?_)
      · skip
        refine x_iload_n C dX8_isInLine_22 3 rfl ?_
        refine x_iload_n C dX8_isInLine_23 1 rfl ?_
        refine x_icmp_ne (tgt := 31) C dX8_isInLine_24 (by decide) (by omega) (by omega) (fun c3 => ?_) (fun c3 => ?_)
        · skip
          refine x_iconst C dX8_isInLine_31 0 (by decide) ?_
          refine x_zret C G dX8_isInLine_32 (by first | exact Or.inl rfl | exact Or.inr rfl) ?_ (by decide) (by decide)
          refine ⟨?_, rfl⟩
          first
            | (exfalso; omega)
            | (rw [bI_t (hA.mpr (by rw [show y + 1 = ((v : Nat) : Int) + 1 by omega]; exact Anc_s.mpr (Or.inl rfl)))]; done)
            | (rw [bI_f (fun z9 => by have z8 := hA.mp z9; rw [show y + 1 = 0 by omega] at z8; exact Anc_0 z8)]; done)
        · skip
          refine x_iconst C dX8_isInLine_27 1 (by decide) ?_
          refine x_goto (tgt := 32) C dX8_isInLine_28 (by decide) ?_
          refine x_zret C G dX8_isInLine_32 (by first | exact Or.inl rfl | exact Or.inr rfl) ?_ (by decide) (by decide)
          refine ⟨?_, rfl⟩
          first
            | (exfalso; omega)
            | (rw [bI_t (hA.mpr (by rw [show y + 1 = ((v : Nat) : Int) + 1 by omega]; exact Anc_s.mpr (Or.inl rfl)))]; done)
            | (rw [bI_f (fun z9 => by have z8 := hA.mp z9; rw [show y + 1 = 0 by omega] at z8; exact Anc_0 z8)]; done)
      · skip
        refine x_iload_n C dX8_isInLine_7 3 rfl ?_
        refine x_iload_n C dX8_isInLine_8 1 rfl ?_
        refine x_icmp_eq (tgt := 22) C dX8_isInLine_9 (by decide) (by omega) (by omega) (fun c4 => ?_) (fun c4 => ?_)
        · skip
          refine x_iload_n C dX8_isInLine_22 3 rfl ?_
          refine x_iload_n C dX8_isInLine_23 1 rfl ?_
          refine x_icmp_ne (tgt := 31) C dX8_isInLine_24 (by decide) (by omega) (by omega) (fun c5 => ?_) (fun c5 => ?_)
          · skip
            refine x_iconst C dX8_isInLine_31 0 (by decide) ?_
            refine x_zret C G dX8_isInLine_32 (by first | exact Or.inl rfl | exact Or.inr rfl) ?_ (by decide) (by decide)
            refine ⟨?_, rfl⟩
            first
              | (exfalso; omega)
              | (rw [bI_t (hA.mpr (by rw [show y + 1 = ((v : Nat) : Int) + 1 by omega]; exact Anc_s.mpr (Or.inl rfl)))]; done)
              | (rw [bI_f (fun z9 => by have z8 := hA.mp z9; rw [show y + 1 = 0 by omega] at z8; exact Anc_0 z8)]; done)
          · skip
            refine x_iconst C dX8_isInLine_27 1 (by decide) ?_
            refine x_goto (tgt := 32) C dX8_isInLine_28 (by decide) ?_
            refine x_zret C G dX8_isInLine_32 (by first | exact Or.inl rfl | exact Or.inr rfl) ?_ (by decide) (by decide)
            refine ⟨?_, rfl⟩
            first
              | (exfalso; omega)
              | (rw [bI_t (hA.mpr (by rw [show y + 1 = ((v : Nat) : Int) + 1 by omega]; exact Anc_s.mpr (Or.inl rfl)))]; done)
              | (rw [bI_f (fun z9 => by have z8 := hA.mp z9; rw [show y + 1 = 0 by omega] at z8; exact Anc_0 z8)]; done)
        · skip
          have hpy := hpa y.toNat (by omega)
          obtain ⟨y9, hy9⟩ : ∃ y9 : Nat, y = ((y9 : Nat) : Int) := ⟨y.toNat, by omega⟩
          refine x_aload_n C dX8_isInLine_12 0 rfl ?_
          have f6 : h (am 0 0) = some (eO 8 [vI (m 0 0 0), .ref (am 1 0), vI (m 0 0 2), .ref (am 3 0), .ref (am 4 0), .ref (am 5 0), .ref (am 6 0), .ref (am 7 0), .ref (am 8 0), .ref (am 9 0), .ref (am 10 0), .ref (am 11 0), .ref (am 12 0), .ref (am 13 0), vI (m 0 0 14), .ref (am 15 0), .ref (am 16 0), .ref (am 17 0), .ref (am 18 0), .ref (am 19 0), .ref (am 20 0), .ref (am 21 0), .ref (am 22 0), .ref (am 23 0), .ref (am 24 0), .ref (am 25 0), .ref (am 26 0), .ref (am 27 0), .ref (am 28 0), .ref (am 29 0), vI (((m 0 0 30).toNat : Nat) : Int), vI (m 0 0 31), vI (m 0 0 32), vI (((m 0 0 33).toNat : Nat) : Int), vI (m 0 0 34), .ref (am 35 0), .ref (am 36 0), .ref (am 37 0)]) := hR.1 0 0 (lm0 (by decide))
          refine x_get C (v := .ref (am 19 0)) f6 (T := TX8) rfl kX8_isInLine_1 19 (by decide) kX8_isInLine_0 rfl dX8_isInLine_13 ?_
          refine x_iload_n C dX8_isInLine_16 3 rfl ?_
          have f7 : h (am 19 0) = some (eI D 20 (m 19 0)) := hR.1 19 0 (lm0 (by decide))
          refine x_iald C f7 ⟨by omega, by omega⟩ (by decide) dX8_isInLine_17 ?_
          refine x_topv (show (m 19 0) (Int.toNat y) = m 19 0 y.toNat from by rfl) ?_
          refine x_istore_n C (ls' := [(0, .ref (am 0 0)), (1, vI ((v : Nat) : Int)), (2, vI ((k : Nat) : Int)), (3, vI (m 19 0 y.toNat))]) dX8_isInLine_18 (by decide) rfl ?_
          refine x_goto (tgt := 2) C dX8_isInLine_19 (by decide) ?_
          exact ihLP (m 19 0 y.toNat) (by omega) (by omega) (hA.trans (by rw [hy9]; exact Anc_s.trans ⟨fun z9 => by
    rcases z9 with z8 | z8
    · exfalso; omega
    · exact z8, fun z9 => Or.inr z9⟩))
  exact LP (k + 2) (((k : Nat) : Int)) (by omega) (by omega) (Iff.rfl)

theorem kX8_line_0 : Cond.fieldLink "LedgeLevelsModel" 101 "LedgeLevelsModel" "thrown" "I" ∈ wsX8_line := by decide +kernel
theorem kX8_line_1 : ∀ w ∈ wsX80, w ∈ wsX8_line := by decide +kernel
theorem kX8_line_2 : Cond.fieldLink "LedgeLevelsModel" 112 "LedgeLevelsModel" "works" "I" ∈ wsX8_line := by decide +kernel
set_option maxRecDepth 100000 in
set_option maxHeartbeats 1000000 in
theorem c_X8_line {l : Launch} {D : va_G} {A : Nat → Prop} {h : vh} {am : AD} {m : CS} {u : Int}  (hR : RepM D am m h) (hM1 : Mk1 m) (hi_u : -2147483648 ≤ u ∧ u ≤ 2147483647) (hpa : ∀ i : Nat, (i : Int) < m 0 0 14 → -1 ≤ m 19 0 i ∧ m 19 0 i < i) (hW20 : m 0 0 14 ≤ 20) : MX l D A yX8_line wsX8_line { frames := 2, cells := 0, slots := 0, locals := 43 } [.ref (am 0 0), vI u] h (fun rv h' => ∃ (r : Int) (m1 : CS), rv = some (vI r) ∧ MP D am h (m1) h' ∧ ((m1 0 0 0 = 1 ∧ (¬ (0 ≤ u ∧ u < m 0 0 14)) ∧ SM m m1) ∨ (m1 0 0 0 = 0 ∧ (0 ≤ u ∧ u < m 0 0 14) ∧ r = sumN (lnM m u.toNat) (m 0 0 14).toNat ∧ SM m m1))) := by
  refine MX.of (cc := cX8_line) (maxL := 4) (ret := (some .int)) [(0, .ref (am 0 0)), (1, vI u)] (by decide +kernel) rfl rfl (Nat.le_of_ble_eq_true rfl) ?_
  intro κ C hkl G
  subst hkl
  have C : CX κ "LedgeLevelsModel" "line" cX8_line wsX8_line { frames := 2, cells := 0, slots := 0, locals := 43 } D A 4 := C
  have hiz : nq (D.1 20) (D.1 21) := cx_iz C
  obtain ⟨hM1a, hM1b⟩ := id hM1
  refine x_aload_n C dX8_line_0 0 rfl ?_
  refine x_iconst C dX8_line_1 0 (by decide) ?_
  have f1 : h (am 0 0) = some (eO 8 [vI (m 0 0 0), .ref (am 1 0), vI (m 0 0 2), .ref (am 3 0), .ref (am 4 0), .ref (am 5 0), .ref (am 6 0), .ref (am 7 0), .ref (am 8 0), .ref (am 9 0), .ref (am 10 0), .ref (am 11 0), .ref (am 12 0), .ref (am 13 0), vI (m 0 0 14), .ref (am 15 0), .ref (am 16 0), .ref (am 17 0), .ref (am 18 0), .ref (am 19 0), .ref (am 20 0), .ref (am 21 0), .ref (am 22 0), .ref (am 23 0), .ref (am 24 0), .ref (am 25 0), .ref (am 26 0), .ref (am 27 0), .ref (am 28 0), .ref (am 29 0), vI (((m 0 0 30).toNat : Nat) : Int), vI (m 0 0 31), vI (m 0 0 32), vI (((m 0 0 33).toNat : Nat) : Int), vI (m 0 0 34), .ref (am 35 0), .ref (am 36 0), .ref (am 37 0)]) := hR.1 0 0 (lm0 (by decide))
  refine x_put C f1 (T := TX8) rfl tyX8_ok nmX8 kX8_line_1 0 (by decide) kX8_line_0 rfl (fs' := [vI 0, .ref (am 1 0), vI (m 0 0 2), .ref (am 3 0), .ref (am 4 0), .ref (am 5 0), .ref (am 6 0), .ref (am 7 0), .ref (am 8 0), .ref (am 9 0), .ref (am 10 0), .ref (am 11 0), .ref (am 12 0), .ref (am 13 0), vI (m 0 0 14), .ref (am 15 0), .ref (am 16 0), .ref (am 17 0), .ref (am 18 0), .ref (am 19 0), .ref (am 20 0), .ref (am 21 0), .ref (am 22 0), .ref (am 23 0), .ref (am 24 0), .ref (am 25 0), .ref (am 26 0), .ref (am 27 0), .ref (am 28 0), .ref (am 29 0), vI (((m 0 0 30).toNat : Nat) : Int), vI (m 0 0 31), vI (m 0 0 32), vI (((m 0 0 33).toNat : Nat) : Int), vI (m 0 0 34), .ref (am 35 0), .ref (am 36 0), .ref (am 37 0)]) rfl rfl (by simp) rfl dX8_line_2 (x_hn (fun h2 e3 => ?_))
  have f4 : h2 (am 0 0) = some (eO 8 [vI 0, .ref (am 1 0), vI (m 0 0 2), .ref (am 3 0), .ref (am 4 0), .ref (am 5 0), .ref (am 6 0), .ref (am 7 0), .ref (am 8 0), .ref (am 9 0), .ref (am 10 0), .ref (am 11 0), .ref (am 12 0), .ref (am 13 0), vI (m 0 0 14), .ref (am 15 0), .ref (am 16 0), .ref (am 17 0), .ref (am 18 0), .ref (am 19 0), .ref (am 20 0), .ref (am 21 0), .ref (am 22 0), .ref (am 23 0), .ref (am 24 0), .ref (am 25 0), .ref (am 26 0), .ref (am 27 0), .ref (am 28 0), .ref (am 29 0), vI (((m 0 0 30).toNat : Nat) : Int), vI (m 0 0 31), vI (m 0 0 32), vI (((m 0 0 33).toNat : Nat) : Int), vI (m 0 0 34), .ref (am 35 0), .ref (am 36 0), .ref (am 37 0)]) := by rw [e3]; exact hu_s
  refine x_aload_n C dX8_line_5 0 rfl ?_
  refine x_iload_n C dX8_line_6 1 rfl ?_
  have cp6 : MP D am h (cu m 0 0 ((fu (m 0 0) 0 0))) h2 := by rw [e3]; exact (MP.up (MP.rf hR) (lm0 (by decide)) ((fu (m 0 0) 0 0)) rfl)
  refine x_callV C (n := 1) (qc := (RX8, TX8, 38)) (As := [vI u]) (rest := []) (c_X8_isWork (cp6.1) (hM1) (by omega)) gX8_line_X8_isWork (by decide +kernel) f4 rfl rfl rfl rfl (Nat.le_of_ble_eq_true rfl) ⟨by decide, by decide⟩ ⟨(by decide), (by decide)⟩ dX8_line_7 (fun rv7 h8 hp9 => ?_)
  obtain ⟨rfl, e10⟩ := hp9
  obtain rfl := e10.symm
  refine x_topv (show bI (0 ≤ u ∧ u ≤ ((cu m 0 0 ((fu (m 0 0) 0 0)))) 0 0 14 - 1) = bI (0 ≤ u ∧ u ≤ m 0 0 14 - 1) from by rfl) ?_
  have hbr5 := bI_cs ((0 ≤ u ∧ u ≤ m 0 0 14 - 1))
  refine x_if_ne (tgt := 19) C dX8_line_10 (by decide) (by omega) (fun c11 => ?_) (fun c11 => ?_)
  · skip
    refine x_iconst C dX8_line_19 0 (by decide) ?_
    refine x_topv (show 0 = sumN (lnM m u.toNat) 0 from by rfl) ?_
    refine x_istore_n C (ls' := [(0, .ref (am 0 0)), (1, vI u), (2, vI (sumN (lnM m u.toNat) 0))]) dX8_line_20 (by decide) rfl ?_
    refine x_iconst C dX8_line_21 0 (by decide) ?_
    refine x_istore_n C (ls' := [(0, .ref (am 0 0)), (1, vI u), (2, vI (sumN (lnM m u.toNat) 0)), (3, vI 0)]) dX8_line_22 (by decide) rfl ?_
    have LP : ∀ (N : Nat) (n : Nat)   (hn : (n : Int) ≤ m 0 0 14) (hN : 20 - n < N), X κ 0 0 h2 [(0, .ref (am 0 0)), (1, vI u), (2, vI (sumN (lnM m u.toNat) n)), (3, vI ((n : Nat) : Int))] 23 [] := by
      intro N
      induction N with
      | zero => intro n hn hN; exfalso; omega
      | succ N ihLP =>
        intro n hn hN
        have hl01 := bI_01 (Anc (fun i => m 19 0 i + 1) (fun i => i = u.toNat) ((n : Int) + 1))
        have hl02 : lnM m u.toNat n = 0 ∨ lnM m u.toNat n = 1 := hl01
        refine x_iload_n C dX8_line_23 3 rfl ?_
        refine x_aload_n C dX8_line_24 0 rfl ?_
        refine x_get C (v := vI (m 0 0 14)) f4 (T := TX8) rfl kX8_line_1 14 (by decide) kX8_line_2 rfl dX8_line_25 ?_
        refine x_topv (show m 0 0 14 = m 0 0 14 from by rfl) ?_
        refine x_icmp_ge (tgt := 54) C dX8_line_28 (by decide) (by omega) (by omega) (fun c13 => ?_) (fun c13 => ?_)
        · skip
          refine x_iload_n C dX8_line_54 2 rfl ?_
          refine x_iret C G dX8_line_55 ?_ (by decide) (by decide)
          have cp14 : MP D am h (cu m 0 0 ((fu (m 0 0) 0 0))) h2 := by rw [e3]; exact (MP.up (MP.rf hR) (lm0 (by decide)) ((fu (m 0 0) 0 0)) rfl)
          first
            | exact ⟨_, _, rfl, cp14, Or.inl (⟨rfl, by omega, (by repeat (first | exact SM.rf | refine SM.th ?_ | refine SM.o2 ?_ | refine SM.o14 ?_ | refine SM.sr ?_ | refine SM.ly (by assumption) (by assumption) ?_ | refine SM.bm ?_ | refine SM.st ?_ | refine SM.mv ?_ | refine SM.up (by decide) ?_))⟩)⟩
            | exact ⟨_, _, rfl, cp14, Or.inr (⟨rfl, by omega, by rw [show (m 0 0 14).toNat = n by omega], (by repeat (first | exact SM.rf | refine SM.th ?_ | refine SM.o2 ?_ | refine SM.o14 ?_ | refine SM.sr ?_ | refine SM.ly (by assumption) (by assumption) ?_ | refine SM.bm ?_ | refine SM.st ?_ | refine SM.mv ?_ | refine SM.up (by decide) ?_))⟩)⟩
        · skip
          refine x_iload_n C dX8_line_31 2 rfl ?_
          refine x_aload_n C dX8_line_32 0 rfl ?_
          refine x_iload_n C dX8_line_33 1 rfl ?_
          obtain ⟨u9, hu9⟩ : ∃ u9, u9 = u.toNat := ⟨_, rfl⟩
          refine x_topv (show u = ((u9 : Nat) : Int) by omega) ?_
          have hk9 : ((n : Nat) : Int) < m 0 0 14 := by omega
          have hv9 : ((u9 : Nat) : Int) < m 0 0 14 := by omega
          refine x_iload_n C dX8_line_34 3 rfl ?_
          have cp15 : MP D am h (cu m 0 0 ((fu (m 0 0) 0 0))) h2 := by rw [e3]; exact (MP.up (MP.rf hR) (lm0 (by decide)) ((fu (m 0 0) 0 0)) rfl)
          refine x_callV C (n := 2) (qc := (RX8, TX8, 38)) (As := [vI ((u9 : Nat) : Int), vI ((n : Nat) : Int)]) (rest := [vI (sumN (lnM m u.toNat) n)]) (c_X8_isInLine (cp15.1) (hpa) (hW20) (hk9) (hv9)) gX8_line_X8_isInLine (by decide +kernel) f4 rfl rfl rfl rfl (Nat.le_of_ble_eq_true rfl) ⟨by decide, by decide⟩ ⟨(by decide), (by decide)⟩ dX8_line_35 (fun rv16 h17 hp18 => ?_)
          obtain ⟨rfl, e19⟩ := hp18
          obtain rfl := e19.symm
          refine x_topv (show bI (Anc (fun i => ((cu m 0 0 ((fu (m 0 0) 0 0)))) 19 0 i + 1) (fun i => i = u9) ((n : Int) + 1)) = lnM m u.toNat n from by rw [← hu9]; rfl) ?_
          refine x_if_eq (tgt := 45) C dX8_line_38 (by decide) (by omega) (fun c20 => ?_) (fun c20 => ?_)
          · skip
            refine x_iconst C dX8_line_45 0 (by decide) ?_
            refine x_iadd C dX8_line_46 ?_
            refine x_topv (show (sumN (lnM m u.toNat) n) + 0 = sumN (lnM m u.toNat) (n + 1) from by show _ = sumN (lnM m u.toNat) n + lnM m u.toNat n; omega) ?_
            refine x_istore_n C (ls' := [(0, .ref (am 0 0)), (1, vI u), (2, vI (sumN (lnM m u.toNat) (n + 1))), (3, vI ((n : Nat) : Int))]) dX8_line_47 (by decide) rfl ?_
            refine x_iinc C (x := ((n : Nat) : Int)) (ls' := [(0, .ref (am 0 0)), (1, vI u), (2, vI (sumN (lnM m u.toNat) (n + 1))), (3, vI ((((n : Nat) : Int)) + 1))]) dX8_line_48 3 rfl (by decide) rfl ?_
            refine x_goto (tgt := 23) C dX8_line_51 (by decide) ?_
            exact ihLP (n + 1) (by omega) (by omega)
          · skip
            refine x_iconst C dX8_line_41 1 (by decide) ?_
            refine x_goto (tgt := 46) C dX8_line_42 (by decide) ?_
            refine x_iadd C dX8_line_46 ?_
            refine x_topv (show (sumN (lnM m u.toNat) n) + 1 = sumN (lnM m u.toNat) (n + 1) from by show _ = sumN (lnM m u.toNat) n + lnM m u.toNat n; omega) ?_
            refine x_istore_n C (ls' := [(0, .ref (am 0 0)), (1, vI u), (2, vI (sumN (lnM m u.toNat) (n + 1))), (3, vI ((n : Nat) : Int))]) dX8_line_47 (by decide) rfl ?_
            refine x_iinc C (x := ((n : Nat) : Int)) (ls' := [(0, .ref (am 0 0)), (1, vI u), (2, vI (sumN (lnM m u.toNat) (n + 1))), (3, vI ((((n : Nat) : Int)) + 1))]) dX8_line_48 3 rfl (by decide) rfl ?_
            refine x_goto (tgt := 23) C dX8_line_51 (by decide) ?_
            exact ihLP (n + 1) (by omega) (by omega)
    exact LP (21) 0 (by omega) (by omega)
  · skip
    refine x_aload_n C dX8_line_13 0 rfl ?_
    refine x_iconst C dX8_line_14 1 (by decide) ?_
    have cp21 : MP D am h (cu m 0 0 ((fu (m 0 0) 0 0))) h2 := by rw [e3]; exact (MP.up (MP.rf hR) (lm0 (by decide)) ((fu (m 0 0) 0 0)) rfl)
    refine x_callV C (n := 1) (qc := (RX8, TX8, 38)) (As := [vI 1]) (rest := []) (c_X8_fails (cp21.1)) gX8_line_X8_fails (by decide +kernel) f4 rfl rfl rfl rfl (Nat.le_of_ble_eq_true rfl) ⟨by decide, by decide⟩ ⟨(by decide), (by decide)⟩ dX8_line_15 (fun rv22 h23 hp24 => ?_)
    obtain ⟨rfl, cp26⟩ := hp24
    have cp27 : MP D am h ((cu ((cu m 0 0 ((fu (m 0 0) 0 0)))) 0 0 ((fu (((cu m 0 0 ((fu (m 0 0) 0 0)))) 0 0) 0 1)))) h23 := MP.trans cp21 cp26
    refine x_iret C G dX8_line_18 ?_ (by decide) (by decide)
    first
      | exact ⟨_, _, rfl, cp27, Or.inl (⟨rfl, by omega, (by repeat (first | exact SM.rf | refine SM.th ?_ | refine SM.o2 ?_ | refine SM.o14 ?_ | refine SM.sr ?_ | refine SM.ly (by assumption) (by assumption) ?_ | refine SM.bm ?_ | refine SM.st ?_ | refine SM.mv ?_ | refine SM.up (by decide) ?_))⟩)⟩
      | exact ⟨_, _, rfl, cp27, Or.inr (⟨rfl, by omega, by rw [show (m 0 0 14).toNat = n by omega], (by repeat (first | exact SM.rf | refine SM.th ?_ | refine SM.o2 ?_ | refine SM.o14 ?_ | refine SM.sr ?_ | refine SM.ly (by assumption) (by assumption) ?_ | refine SM.bm ?_ | refine SM.st ?_ | refine SM.mv ?_ | refine SM.up (by decide) ?_))⟩)⟩

theorem kX8_credit_0 : Cond.fieldLink "LedgeLevelsModel" 101 "LedgeLevelsModel" "thrown" "I" ∈ wsX8_credit := by decide +kernel
theorem kX8_credit_1 : ∀ w ∈ wsX80, w ∈ wsX8_credit := by decide +kernel
theorem kX8_credit_2 : Cond.fieldLink "LedgeLevelsModel" 112 "LedgeLevelsModel" "works" "I" ∈ wsX8_credit := by decide +kernel
theorem kX8_credit_3 : Cond.fieldLink "LedgeLevelsModel" 46 "LedgeLevelsModel" "author" "[I" ∈ wsX8_credit := by decide +kernel
theorem kX8_credit_4 : Cond.fieldLink "LedgeLevelsModel" 58 "LedgeLevelsModel" "parent" "[I" ∈ wsX8_credit := by decide +kernel
set_option maxRecDepth 100000 in
set_option maxHeartbeats 1000000 in
theorem c_X8_credit {l : Launch} {D : va_G} {A : Nat → Prop} {h : vh} {am : AD} {m : CS} {u : Int}  (hR : RepM D am m h) (hM1 : Mk1 m) (hi_u : -2147483648 ≤ u ∧ u ≤ 2147483647) (hpa : ∀ i : Nat, (i : Int) < m 0 0 14 → -1 ≤ m 19 0 i ∧ m 19 0 i < i) (hau : ∀ i : Nat, (i : Int) < m 0 0 14 → 0 ≤ m 15 0 i ∧ m 15 0 i ≤ 5) (hW20 : m 0 0 14 ≤ 20) : MX l D A yX8_credit wsX8_credit { frames := 2, cells := 0, slots := 0, locals := 42 } [.ref (am 0 0), vI u] h (fun rv h' => ∃ (r : Int) (m1 : CS), rv = some (vI r) ∧ MP D am h (m1) h' ∧ ((m1 0 0 0 = 1 ∧ (¬ (0 ≤ u ∧ u < 6)) ∧ SM m m1) ∨ (m1 0 0 0 = 0 ∧ (0 ≤ u ∧ u < 6) ∧ r = sumN (crM m u) (m 0 0 14).toNat ∧ SM m m1))) := by
  refine MX.of (cc := cX8_credit) (maxL := 5) (ret := (some .int)) [(0, .ref (am 0 0)), (1, vI u)] (by decide +kernel) rfl rfl (Nat.le_of_ble_eq_true rfl) ?_
  intro κ C hkl G
  subst hkl
  have C : CX κ "LedgeLevelsModel" "credit" cX8_credit wsX8_credit { frames := 2, cells := 0, slots := 0, locals := 42 } D A 5 := C
  have hiz : nq (D.1 20) (D.1 21) := cx_iz C
  obtain ⟨hM1a, hM1b⟩ := id hM1
  refine x_aload_n C dX8_credit_0 0 rfl ?_
  refine x_iconst C dX8_credit_1 0 (by decide) ?_
  have f1 : h (am 0 0) = some (eO 8 [vI (m 0 0 0), .ref (am 1 0), vI (m 0 0 2), .ref (am 3 0), .ref (am 4 0), .ref (am 5 0), .ref (am 6 0), .ref (am 7 0), .ref (am 8 0), .ref (am 9 0), .ref (am 10 0), .ref (am 11 0), .ref (am 12 0), .ref (am 13 0), vI (m 0 0 14), .ref (am 15 0), .ref (am 16 0), .ref (am 17 0), .ref (am 18 0), .ref (am 19 0), .ref (am 20 0), .ref (am 21 0), .ref (am 22 0), .ref (am 23 0), .ref (am 24 0), .ref (am 25 0), .ref (am 26 0), .ref (am 27 0), .ref (am 28 0), .ref (am 29 0), vI (((m 0 0 30).toNat : Nat) : Int), vI (m 0 0 31), vI (m 0 0 32), vI (((m 0 0 33).toNat : Nat) : Int), vI (m 0 0 34), .ref (am 35 0), .ref (am 36 0), .ref (am 37 0)]) := hR.1 0 0 (lm0 (by decide))
  refine x_put C f1 (T := TX8) rfl tyX8_ok nmX8 kX8_credit_1 0 (by decide) kX8_credit_0 rfl (fs' := [vI 0, .ref (am 1 0), vI (m 0 0 2), .ref (am 3 0), .ref (am 4 0), .ref (am 5 0), .ref (am 6 0), .ref (am 7 0), .ref (am 8 0), .ref (am 9 0), .ref (am 10 0), .ref (am 11 0), .ref (am 12 0), .ref (am 13 0), vI (m 0 0 14), .ref (am 15 0), .ref (am 16 0), .ref (am 17 0), .ref (am 18 0), .ref (am 19 0), .ref (am 20 0), .ref (am 21 0), .ref (am 22 0), .ref (am 23 0), .ref (am 24 0), .ref (am 25 0), .ref (am 26 0), .ref (am 27 0), .ref (am 28 0), .ref (am 29 0), vI (((m 0 0 30).toNat : Nat) : Int), vI (m 0 0 31), vI (m 0 0 32), vI (((m 0 0 33).toNat : Nat) : Int), vI (m 0 0 34), .ref (am 35 0), .ref (am 36 0), .ref (am 37 0)]) rfl rfl (by simp) rfl dX8_credit_2 (x_hn (fun h2 e3 => ?_))
  have f4 : h2 (am 0 0) = some (eO 8 [vI 0, .ref (am 1 0), vI (m 0 0 2), .ref (am 3 0), .ref (am 4 0), .ref (am 5 0), .ref (am 6 0), .ref (am 7 0), .ref (am 8 0), .ref (am 9 0), .ref (am 10 0), .ref (am 11 0), .ref (am 12 0), .ref (am 13 0), vI (m 0 0 14), .ref (am 15 0), .ref (am 16 0), .ref (am 17 0), .ref (am 18 0), .ref (am 19 0), .ref (am 20 0), .ref (am 21 0), .ref (am 22 0), .ref (am 23 0), .ref (am 24 0), .ref (am 25 0), .ref (am 26 0), .ref (am 27 0), .ref (am 28 0), .ref (am 29 0), vI (((m 0 0 30).toNat : Nat) : Int), vI (m 0 0 31), vI (m 0 0 32), vI (((m 0 0 33).toNat : Nat) : Int), vI (m 0 0 34), .ref (am 35 0), .ref (am 36 0), .ref (am 37 0)]) := by rw [e3]; exact hu_s
  refine x_iload_n C dX8_credit_5 1 rfl ?_
  refine x_callS C (n := 1) (As := [vI u]) (rest := []) (c_X8_isPerson (by omega)) gX8_credit_X8_isPerson (by decide +kernel) rfl rfl rfl (Nat.le_of_ble_eq_true rfl) ⟨by decide, by decide⟩ ⟨(by decide), (by decide)⟩ dX8_credit_6 (fun rv6 h7 hp8 => ?_)
  obtain ⟨rfl, e9⟩ := hp8
  obtain rfl := e9.symm
  have hbr5 := bI_cs ((0 ≤ u ∧ u ≤ 5))
  refine x_if_ne (tgt := 18) C dX8_credit_9 (by decide) (by omega) (fun c10 => ?_) (fun c10 => ?_)
  · skip
    refine x_iconst C dX8_credit_18 0 (by decide) ?_
    refine x_topv (show 0 = sumN (crM m u) 0 from by rfl) ?_
    refine x_istore_n C (ls' := [(0, .ref (am 0 0)), (1, vI u), (2, vI (sumN (crM m u) 0))]) dX8_credit_19 (by decide) rfl ?_
    refine x_iconst C dX8_credit_20 0 (by decide) ?_
    refine x_istore_n C (ls' := [(0, .ref (am 0 0)), (1, vI u), (2, vI (sumN (crM m u) 0)), (3, vI 0)]) dX8_credit_21 (by decide) rfl ?_
    have LP : ∀ (N : Nat) (n : Nat)   (hn : (n : Int) ≤ m 0 0 14) (hN : 20 - n < N), X κ 0 0 h2 [(0, .ref (am 0 0)), (1, vI u), (2, vI (sumN (crM m u) n)), (3, vI ((n : Nat) : Int))] 22 [] := by
      intro N
      induction N with
      | zero => intro n hn hN; exfalso; omega
      | succ N ihLP =>
        intro n hn hN
        refine x_iload_n C dX8_credit_22 3 rfl ?_
        refine x_aload_n C dX8_credit_23 0 rfl ?_
        refine x_get C (v := vI (m 0 0 14)) f4 (T := TX8) rfl kX8_credit_1 14 (by decide) kX8_credit_2 rfl dX8_credit_24 ?_
        refine x_icmp_ge (tgt := 86) C dX8_credit_27 (by decide) (by omega) (by omega) (fun c12 => ?_) (fun c12 => ?_)
        · skip
          refine x_iload_n C dX8_credit_86 2 rfl ?_
          refine x_iret C G dX8_credit_87 ?_ (by decide) (by decide)
          have cp13 : MP D am h (cu m 0 0 ((fu (m 0 0) 0 0))) h2 := by rw [e3]; exact (MP.up (MP.rf hR) (lm0 (by decide)) ((fu (m 0 0) 0 0)) rfl)
          first
            | exact ⟨_, _, rfl, cp13, Or.inl (⟨rfl, by omega, (by repeat (first | exact SM.rf | refine SM.th ?_ | refine SM.o2 ?_ | refine SM.o14 ?_ | refine SM.sr ?_ | refine SM.ly (by assumption) (by assumption) ?_ | refine SM.bm ?_ | refine SM.st ?_ | refine SM.mv ?_ | refine SM.up (by decide) ?_))⟩)⟩
            | exact ⟨_, _, rfl, cp13, Or.inr (⟨rfl, by omega, by rw [show (m 0 0 14).toNat = n by omega], (by repeat (first | exact SM.rf | refine SM.th ?_ | refine SM.o2 ?_ | refine SM.o14 ?_ | refine SM.sr ?_ | refine SM.ly (by assumption) (by assumption) ?_ | refine SM.bm ?_ | refine SM.st ?_ | refine SM.mv ?_ | refine SM.up (by decide) ?_))⟩)⟩
        · skip
          refine x_iload_n C dX8_credit_30 3 rfl ?_
          refine x_istore C (ls' := [(0, .ref (am 0 0)), (1, vI u), (2, vI (sumN (crM m u) n)), (3, vI ((n : Nat) : Int)), (4, vI ((n : Nat) : Int))]) dX8_credit_31 (by decide) rfl ?_
          have IN : ∀ (M : Nat) (y : Int)   (hy : -1 ≤ y ∧ y < m 0 0 14) (hM : (y + 1).toNat < M) (hA : Anc (fun i => m 19 0 i + 1) (fun i => m 15 0 i = u) ((n : Int) + 1) ↔ Anc (fun i => m 19 0 i + 1) (fun i => m 15 0 i = u) (y + 1)), X κ 0 0 h2 [(0, .ref (am 0 0)), (1, vI u), (2, vI (sumN (crM m u) n)), (3, vI ((n : Nat) : Int)), (4, vI y)] 33 [] := by
            intro M
            induction M with
            | zero => intro y hy hM hA; exfalso; omega
            | succ M ihIN =>
              intro y hy hM hA
              refine x_iload C dX8_credit_33 4 rfl ?_
              refine x_iconst C dX8_credit_35 (-1) (by decide) ?_
              refine x_icmp_eq (tgt := 62) C dX8_credit_36 (by decide) (by omega) (by omega) (fun c15 => ?_) (fun c15 => ?_)
              · skip
                refine x_iload_n C dX8_credit_62 2 rfl ?_
                refine x_iload C dX8_credit_63 4 rfl ?_
                refine x_iconst C dX8_credit_65 (-1) (by decide) ?_
                refine x_icmp_eq (tgt := 77) C dX8_credit_66 (by decide) (by omega) (by omega) (fun c16 => ?_) (fun c16 => ?_)
                · skip
                  refine x_iconst C dX8_credit_77 0 (by decide) ?_
                  refine x_iadd C dX8_credit_78 ?_
                  refine x_topv (show (sumN (crM m u) n) + 0 = sumN (crM m u) (n + 1) from by 
      first
        | (exfalso; omega)
        | exact (congrArg (sumN (crM m u) n + ·) (show _ = crM m u n from (if_pos (bI_f (fun z9 => by have z8 := hA.mp z9; rw [show y + 1 = 0 by omega] at z8; exact Anc_0 z8))).symm))
        | exact (congrArg (sumN (crM m u) n + ·) (show _ = crM m u n from (if_neg (bI_ne.mpr (hA.mpr (by rw [show y = ((y.toNat : Nat) : Int) by omega]; exact Anc_s.mpr (Or.inl (by assumption)))))).symm))) ?_
                  refine x_istore_n C (ls' := [(0, .ref (am 0 0)), (1, vI u), (2, vI (sumN (crM m u) (n + 1))), (3, vI ((n : Nat) : Int)), (4, vI y)]) dX8_credit_79 (by decide) rfl ?_
                  refine x_iinc C (x := ((n : Nat) : Int)) (ls' := [(0, .ref (am 0 0)), (1, vI u), (2, vI (sumN (crM m u) (n + 1))), (3, vI ((((n : Nat) : Int)) + 1)), (4, vI y)]) dX8_credit_80 3 rfl (by decide) rfl ?_
                  refine x_goto (tgt := 22) C dX8_credit_83 (by decide) ?_
                  refine x_sub [0, 1, 2, 3] (ls' := [(0, .ref (am 0 0)), (1, vI u), (2, vI (sumN (crM m u) (n + 1))), (3, vI ((((n : Nat) : Int)) + 1))]) rfl ?_
                  exact ihLP (n + 1) (by omega) (by omega)
                · skip
                  refine x_aload_n C dX8_credit_69 0 rfl ?_
                  refine x_iload_n C dX8_credit_70 3 rfl ?_
                  have cp17 : MP D am h (cu m 0 0 ((fu (m 0 0) 0 0))) h2 := by rw [e3]; exact (MP.up (MP.rf hR) (lm0 (by decide)) ((fu (m 0 0) 0 0)) rfl)
                  refine x_callV C (n := 1) (qc := (RX8, TX8, 38)) (As := [vI ((n : Nat) : Int)]) (rest := [vI (sumN (crM m u) n)]) (c_X8_sumOf (cp17.1) (by omega)) gX8_credit_X8_sumOf (by decide +kernel) f4 rfl rfl rfl rfl (Nat.le_of_ble_eq_true rfl) ⟨by decide, by decide⟩ ⟨(by decide), (by decide)⟩ dX8_credit_71 (fun rv18 h19 hp20 => ?_)
                  obtain ⟨rfl, e21⟩ := hp20
                  obtain rfl := e21.symm
                  refine x_topv (show sumN (fun j => ((cu m 0 0 ((fu (m 0 0) 0 0)))) 21 0 (6 * n + j)) 6 = sumN (fun j => m 21 0 (6 * n + j)) 6 from by rfl) ?_
                  refine x_goto (tgt := 78) C dX8_credit_74 (by decide) ?_
                  refine x_iadd C dX8_credit_78 ?_
                  refine x_topv (show (sumN (crM m u) n) + (sumN (fun j => m 21 0 (6 * n + j)) 6) = sumN (crM m u) (n + 1) from by 
      first
        | (exfalso; omega)
        | exact (congrArg (sumN (crM m u) n + ·) (show _ = crM m u n from (if_pos (bI_f (fun z9 => by have z8 := hA.mp z9; rw [show y + 1 = 0 by omega] at z8; exact Anc_0 z8))).symm))
        | exact (congrArg (sumN (crM m u) n + ·) (show _ = crM m u n from (if_neg (bI_ne.mpr (hA.mpr (by rw [show y = ((y.toNat : Nat) : Int) by omega]; exact Anc_s.mpr (Or.inl (by assumption)))))).symm))) ?_
                  refine x_istore_n C (ls' := [(0, .ref (am 0 0)), (1, vI u), (2, vI (sumN (crM m u) (n + 1))), (3, vI ((n : Nat) : Int)), (4, vI y)]) dX8_credit_79 (by decide) rfl ?_
                  refine x_iinc C (x := ((n : Nat) : Int)) (ls' := [(0, .ref (am 0 0)), (1, vI u), (2, vI (sumN (crM m u) (n + 1))), (3, vI ((((n : Nat) : Int)) + 1)), (4, vI y)]) dX8_credit_80 3 rfl (by decide) rfl ?_
                  refine x_goto (tgt := 22) C dX8_credit_83 (by decide) ?_
                  refine x_sub [0, 1, 2, 3] (ls' := [(0, .ref (am 0 0)), (1, vI u), (2, vI (sumN (crM m u) (n + 1))), (3, vI ((((n : Nat) : Int)) + 1))]) rfl ?_
                  exact ihLP (n + 1) (by omega) (by omega)
              · skip
                have hpy := hpa y.toNat (by omega)
                have hay := hau y.toNat (by omega)
                obtain ⟨y9, hy9⟩ : ∃ y9 : Nat, y = ((y9 : Nat) : Int) := ⟨y.toNat, by omega⟩
                refine x_aload_n C dX8_credit_39 0 rfl ?_
                refine x_get C (v := .ref (am 15 0)) f4 (T := TX8) rfl kX8_credit_1 15 (by decide) kX8_credit_3 rfl dX8_credit_40 ?_
                refine x_iload C dX8_credit_43 4 rfl ?_
                have f22 : h (am 15 0) = some (eI D 20 (m 15 0)) := hR.1 15 0 (lm0 (by decide))
                have f23 : h2 (am 15 0) = some (eI D 20 (m 15 0)) := by rw [e3, hu_n (hR.ne (lm0 (by decide)) (lm0 (by decide)) (fun zz9 => absurd zz9.1 (by decide)))]; exact f22
                refine x_iald C f23 ⟨by omega, by omega⟩ (by decide) dX8_credit_45 ?_
                refine x_topv (show (m 15 0) (Int.toNat y) = m 15 0 y.toNat from by rfl) ?_
                refine x_iload_n C dX8_credit_46 1 rfl ?_
                refine x_icmp_eq (tgt := 62) C dX8_credit_47 (by decide) (by omega) (by omega) (fun c24 => ?_) (fun c24 => ?_)
                · skip
                  refine x_iload_n C dX8_credit_62 2 rfl ?_
                  refine x_iload C dX8_credit_63 4 rfl ?_
                  refine x_iconst C dX8_credit_65 (-1) (by decide) ?_
                  refine x_icmp_eq (tgt := 77) C dX8_credit_66 (by decide) (by omega) (by omega) (fun c25 => ?_) (fun c25 => ?_)
                  · skip
                    refine x_iconst C dX8_credit_77 0 (by decide) ?_
                    refine x_iadd C dX8_credit_78 ?_
                    refine x_topv (show (sumN (crM m u) n) + 0 = sumN (crM m u) (n + 1) from by 
      first
        | (exfalso; omega)
        | exact (congrArg (sumN (crM m u) n + ·) (show _ = crM m u n from (if_pos (bI_f (fun z9 => by have z8 := hA.mp z9; rw [show y + 1 = 0 by omega] at z8; exact Anc_0 z8))).symm))
        | exact (congrArg (sumN (crM m u) n + ·) (show _ = crM m u n from (if_neg (bI_ne.mpr (hA.mpr (by rw [show y = ((y.toNat : Nat) : Int) by omega]; exact Anc_s.mpr (Or.inl (by assumption)))))).symm))) ?_
                    refine x_istore_n C (ls' := [(0, .ref (am 0 0)), (1, vI u), (2, vI (sumN (crM m u) (n + 1))), (3, vI ((n : Nat) : Int)), (4, vI y)]) dX8_credit_79 (by decide) rfl ?_
                    refine x_iinc C (x := ((n : Nat) : Int)) (ls' := [(0, .ref (am 0 0)), (1, vI u), (2, vI (sumN (crM m u) (n + 1))), (3, vI ((((n : Nat) : Int)) + 1)), (4, vI y)]) dX8_credit_80 3 rfl (by decide) rfl ?_
                    refine x_goto (tgt := 22) C dX8_credit_83 (by decide) ?_
                    refine x_sub [0, 1, 2, 3] (ls' := [(0, .ref (am 0 0)), (1, vI u), (2, vI (sumN (crM m u) (n + 1))), (3, vI ((((n : Nat) : Int)) + 1))]) rfl ?_
                    exact ihLP (n + 1) (by omega) (by omega)
                  · skip
                    refine x_aload_n C dX8_credit_69 0 rfl ?_
                    refine x_iload_n C dX8_credit_70 3 rfl ?_
                    have cp26 : MP D am h (cu m 0 0 ((fu (m 0 0) 0 0))) h2 := by rw [e3]; exact (MP.up (MP.rf hR) (lm0 (by decide)) ((fu (m 0 0) 0 0)) rfl)
                    refine x_callV C (n := 1) (qc := (RX8, TX8, 38)) (As := [vI ((n : Nat) : Int)]) (rest := [vI (sumN (crM m u) n)]) (c_X8_sumOf (cp26.1) (by omega)) gX8_credit_X8_sumOf (by decide +kernel) f4 rfl rfl rfl rfl (Nat.le_of_ble_eq_true rfl) ⟨by decide, by decide⟩ ⟨(by decide), (by decide)⟩ dX8_credit_71 (fun rv27 h28 hp29 => ?_)
                    obtain ⟨rfl, e30⟩ := hp29
                    obtain rfl := e30.symm
                    refine x_topv (show sumN (fun j => ((cu m 0 0 ((fu (m 0 0) 0 0)))) 21 0 (6 * n + j)) 6 = sumN (fun j => m 21 0 (6 * n + j)) 6 from by rfl) ?_
                    refine x_goto (tgt := 78) C dX8_credit_74 (by decide) ?_
                    refine x_iadd C dX8_credit_78 ?_
                    refine x_topv (show (sumN (crM m u) n) + (sumN (fun j => m 21 0 (6 * n + j)) 6) = sumN (crM m u) (n + 1) from by 
      first
        | (exfalso; omega)
        | exact (congrArg (sumN (crM m u) n + ·) (show _ = crM m u n from (if_pos (bI_f (fun z9 => by have z8 := hA.mp z9; rw [show y + 1 = 0 by omega] at z8; exact Anc_0 z8))).symm))
        | exact (congrArg (sumN (crM m u) n + ·) (show _ = crM m u n from (if_neg (bI_ne.mpr (hA.mpr (by rw [show y = ((y.toNat : Nat) : Int) by omega]; exact Anc_s.mpr (Or.inl (by assumption)))))).symm))) ?_
                    refine x_istore_n C (ls' := [(0, .ref (am 0 0)), (1, vI u), (2, vI (sumN (crM m u) (n + 1))), (3, vI ((n : Nat) : Int)), (4, vI y)]) dX8_credit_79 (by decide) rfl ?_
                    refine x_iinc C (x := ((n : Nat) : Int)) (ls' := [(0, .ref (am 0 0)), (1, vI u), (2, vI (sumN (crM m u) (n + 1))), (3, vI ((((n : Nat) : Int)) + 1)), (4, vI y)]) dX8_credit_80 3 rfl (by decide) rfl ?_
                    refine x_goto (tgt := 22) C dX8_credit_83 (by decide) ?_
                    refine x_sub [0, 1, 2, 3] (ls' := [(0, .ref (am 0 0)), (1, vI u), (2, vI (sumN (crM m u) (n + 1))), (3, vI ((((n : Nat) : Int)) + 1))]) rfl ?_
                    exact ihLP (n + 1) (by omega) (by omega)
                · skip
                  refine x_aload_n C dX8_credit_50 0 rfl ?_
                  refine x_get C (v := .ref (am 19 0)) f4 (T := TX8) rfl kX8_credit_1 19 (by decide) kX8_credit_4 rfl dX8_credit_51 ?_
                  refine x_iload C dX8_credit_54 4 rfl ?_
                  have f31 : h (am 19 0) = some (eI D 20 (m 19 0)) := hR.1 19 0 (lm0 (by decide))
                  have f32 : h2 (am 19 0) = some (eI D 20 (m 19 0)) := by rw [e3, hu_n (hR.ne (lm0 (by decide)) (lm0 (by decide)) (fun zz9 => absurd zz9.1 (by decide)))]; exact f31
                  refine x_iald C f32 ⟨by omega, by omega⟩ (by decide) dX8_credit_56 ?_
                  refine x_topv (show (m 19 0) (Int.toNat y) = m 19 0 y.toNat from by rfl) ?_
                  refine x_istore C (ls' := [(0, .ref (am 0 0)), (1, vI u), (2, vI (sumN (crM m u) n)), (3, vI ((n : Nat) : Int)), (4, vI (m 19 0 y.toNat))]) dX8_credit_57 (by decide) rfl ?_
                  refine x_goto (tgt := 33) C dX8_credit_59 (by decide) ?_
                  exact ihIN (m 19 0 y.toNat) (by omega) (by omega) (hA.trans (by rw [hy9]; exact Anc_s.trans ⟨fun z9 => by
    rcases z9 with z8 | z8
    · exact absurd z8 (by rw [show y9 = y.toNat by omega]; assumption)
    · exact z8, fun z9 => Or.inr z9⟩))
          exact IN (n + 2) (((n : Nat) : Int)) (by omega) (by omega) (Iff.rfl)
    exact LP (21) 0 (by omega) (by omega)
  · skip
    refine x_aload_n C dX8_credit_12 0 rfl ?_
    refine x_iconst C dX8_credit_13 1 (by decide) ?_
    have cp33 : MP D am h (cu m 0 0 ((fu (m 0 0) 0 0))) h2 := by rw [e3]; exact (MP.up (MP.rf hR) (lm0 (by decide)) ((fu (m 0 0) 0 0)) rfl)
    refine x_callV C (n := 1) (qc := (RX8, TX8, 38)) (As := [vI 1]) (rest := []) (c_X8_fails (cp33.1)) gX8_credit_X8_fails (by decide +kernel) f4 rfl rfl rfl rfl (Nat.le_of_ble_eq_true rfl) ⟨by decide, by decide⟩ ⟨(by decide), (by decide)⟩ dX8_credit_14 (fun rv34 h35 hp36 => ?_)
    obtain ⟨rfl, cp38⟩ := hp36
    have cp39 : MP D am h ((cu ((cu m 0 0 ((fu (m 0 0) 0 0)))) 0 0 ((fu (((cu m 0 0 ((fu (m 0 0) 0 0)))) 0 0) 0 1)))) h35 := MP.trans cp33 cp38
    refine x_iret C G dX8_credit_17 ?_ (by decide) (by decide)
    first
      | exact ⟨_, _, rfl, cp39, Or.inl (⟨rfl, by omega, (by repeat (first | exact SM.rf | refine SM.th ?_ | refine SM.o2 ?_ | refine SM.o14 ?_ | refine SM.sr ?_ | refine SM.ly (by assumption) (by assumption) ?_ | refine SM.bm ?_ | refine SM.st ?_ | refine SM.mv ?_ | refine SM.up (by decide) ?_))⟩)⟩
      | exact ⟨_, _, rfl, cp39, Or.inr (⟨rfl, by omega, by rw [show (m 0 0 14).toNat = n by omega], (by repeat (first | exact SM.rf | refine SM.th ?_ | refine SM.o2 ?_ | refine SM.o14 ?_ | refine SM.sr ?_ | refine SM.ly (by assumption) (by assumption) ?_ | refine SM.bm ?_ | refine SM.st ?_ | refine SM.mv ?_ | refine SM.up (by decide) ?_))⟩)⟩


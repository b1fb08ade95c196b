/-- n cells of f are laid from b on -/
def rowG (g : Nat → Int) (b : Nat) (f : Nat → Int) (n : Nat) : Nat → Int := fun j => if b ≤ j ∧ j < b + n then f (j - b) else g j
theorem rowG_0 {g f : Nat → Int} {b : Nat} : rowG g b f 0 = g := by funext j; exact if_neg (by omega)
theorem rowG_s {g f : Nat → Int} {b n : Nat} : fu (rowG g b f n) (b + n) (f n) = rowG g b f (n + 1) := by
  funext j
  unfold fu rowG
  by_cases q : j = b + n
  · rw [if_pos q, if_pos (by omega), q, show b + n - b = n by omega]
  · rw [if_neg q]
    by_cases r : b ≤ j ∧ j < b + n
    · rw [if_pos r, if_pos (by omega)]
    · rw [if_neg r, if_neg (by omega)]
/-- a level is opened -/
def opN (m : CS) (p z o : Int) : CS := cu (cu (cu (cu (cu m 3 0 (fu (m 3 0) (m 0 0 2).toNat p)) 5 0 (fu (m 5 0) (m 0 0 2).toNat z)) 6 0 (fu (m 6 0) (m 0 0 2).toNat (-2))) 7 0 (fu (m 7 0) (m 0 0 2).toNat o)) 0 0 (fu (m 0 0) 2 (m 0 0 2 + 1))
theorem SM.up9 {a b : CS} {k i : Nat} {f g : Nat → Int} (hk : 1 ≤ k ∧ k < 28) (e : f = g) (h : SM a b) : SM (cu a k i f) (cu b k i g) := e ▸ SM.up hk h
theorem SM.o29 {a b : CS} {f g : Nat → Int} (h : SM a b) (h2 : g 2 = f 2) (h14 : g 14 = f 14) : SM (cu a 0 0 f) (cu b 0 0 g) := by
  refine ⟨fun k i h1 h3 => ?_, h2, h14, fun z => (GK.cu (by omega) (by omega)).mpr (h.2.2.2 ((GK.cu (by omega) (by omega)).mp z))⟩
  rw [cu_n (fun z => by omega), cu_n (fun z => by omega)]; exact h.1 k i h1 h3
theorem SM.op {a b : CS} {p z o : Int} (h : SM a b) : SM (opN a p z o) (opN b p z o) := by
  obtain ⟨h1, h2, h3, _⟩ := id h
  unfold opN
  refine SM.o29 (SM.up9 (by decide) ?_ (SM.up9 (by decide) ?_ (SM.up9 (by decide) ?_ (SM.up9 (by decide) ?_ h)))) ?_ h3
  · rw [h1 7 0 (by decide) (by decide), h2]
  · rw [h1 6 0 (by decide) (by decide), h2]
  · rw [h1 5 0 (by decide) (by decide), h2]
  · rw [h1 3 0 (by decide) (by decide), h2]
  · show b 0 0 2 + 1 = a 0 0 2 + 1
    rw [h2]

theorem kX8_setStart_0 : Cond.fieldLink "LedgeLevelsModel" 101 "LedgeLevelsModel" "thrown" "I" ∈ wsX8_setStart := by decide +kernel
theorem kX8_setStart_1 : ∀ w ∈ wsX80, w ∈ wsX8_setStart := by decide +kernel
theorem kX8_setStart_2 : Cond.fieldLink "LedgeLevelsModel" 19 "LedgeLevelsModel" "begins" "[I" ∈ wsX8_setStart := by decide +kernel
theorem kX8_setStart_3 : Cond.fieldLink "LedgeLevelsModel" 22 "LedgeLevelsModel" "proofs" "[I" ∈ wsX8_setStart := by decide +kernel
set_option maxRecDepth 100000 in
set_option maxHeartbeats 1000000 in
theorem c_X8_setStart {l : Launch} {D : va_G} {A : Nat → Prop} {h : vh} {am : AD} {m : CS} {u z : Int}  (hR : RepM D am m h) (hM1 : Mk1 m) (hi_u : -2147483648 ≤ u ∧ u ≤ 2147483647) (hi_z : -2147483648 ≤ z ∧ z ≤ 2147483647) : MX l D A yX8_setStart wsX8_setStart { frames := 2, cells := 0, slots := 0, locals := 43 } [.ref (am 0 0), vI u, vI z] h (fun rv h' => ∃ (r : Int) (m1 : CS), rv = some (vI r) ∧ MP D am h (m1) h' ∧ ((m1 0 0 0 = 1 ∧ (¬ (0 ≤ u ∧ u < m 0 0 2) ∨ ¬ (0 ≤ z ∧ z < 96)) ∧ SM m m1) ∨ (m1 0 0 0 = 0 ∧ (0 ≤ u ∧ u < m 0 0 2 ∧ (0 ≤ z ∧ z < 96)) ∧ r = m 5 0 u.toNat ∧ SM (cu (cu m 5 0 (fu (m 5 0) u.toNat z)) 6 0 (fu (m 6 0) u.toNat (-2))) m1))) := by
  refine MX.of (cc := cX8_setStart) (maxL := 4) (ret := (some .int)) [(0, .ref (am 0 0)), (1, vI u), (2, vI z)] (by decide +kernel) rfl rfl (Nat.le_of_ble_eq_true rfl) ?_
  intro κ C hkl G
  subst hkl
  have C : CX κ "LedgeLevelsModel" "setStart" cX8_setStart wsX8_setStart { frames := 2, cells := 0, slots := 0, locals := 43 } D A 4 := C
  have hiz : nq (D.1 20) (D.1 21) := cx_iz C
  obtain ⟨hM1a, hM1b⟩ := id hM1
  refine x_aload_n C dX8_setStart_0 0 rfl ?_
  refine x_iconst C dX8_setStart_1 0 (by decide) ?_
  have f1 : h (am 0 0) = some (eO 8 [vI (m 0 0 0), .ref (am 1 0), vI (m 0 0 2), .ref (am 3 0), .ref (am 4 0), .ref (am 5 0), .ref (am 6 0), .ref (am 7 0), .ref (am 8 0), .ref (am 9 0), .ref (am 10 0), .ref (am 11 0), .ref (am 12 0), .ref (am 13 0), vI (m 0 0 14), .ref (am 15 0), .ref (am 16 0), .ref (am 17 0), .ref (am 18 0), .ref (am 19 0), .ref (am 20 0), .ref (am 21 0), .ref (am 22 0), .ref (am 23 0), .ref (am 24 0), .ref (am 25 0), .ref (am 26 0), .ref (am 27 0), .ref (am 28 0), .ref (am 29 0), vI (((m 0 0 30).toNat : Nat) : Int), vI (m 0 0 31), vI (m 0 0 32), vI (((m 0 0 33).toNat : Nat) : Int), vI (m 0 0 34), .ref (am 35 0), .ref (am 36 0), .ref (am 37 0)]) := hR.1 0 0 (lm0 (by decide))
  refine x_put C f1 (T := TX8) rfl tyX8_ok nmX8 kX8_setStart_1 0 (by decide) kX8_setStart_0 rfl (fs' := [vI 0, .ref (am 1 0), vI (m 0 0 2), .ref (am 3 0), .ref (am 4 0), .ref (am 5 0), .ref (am 6 0), .ref (am 7 0), .ref (am 8 0), .ref (am 9 0), .ref (am 10 0), .ref (am 11 0), .ref (am 12 0), .ref (am 13 0), vI (m 0 0 14), .ref (am 15 0), .ref (am 16 0), .ref (am 17 0), .ref (am 18 0), .ref (am 19 0), .ref (am 20 0), .ref (am 21 0), .ref (am 22 0), .ref (am 23 0), .ref (am 24 0), .ref (am 25 0), .ref (am 26 0), .ref (am 27 0), .ref (am 28 0), .ref (am 29 0), vI (((m 0 0 30).toNat : Nat) : Int), vI (m 0 0 31), vI (m 0 0 32), vI (((m 0 0 33).toNat : Nat) : Int), vI (m 0 0 34), .ref (am 35 0), .ref (am 36 0), .ref (am 37 0)]) rfl rfl (by simp) rfl dX8_setStart_2 (x_hn (fun h2 e3 => ?_))
  have f4 : h2 (am 0 0) = some (eO 8 [vI 0, .ref (am 1 0), vI (m 0 0 2), .ref (am 3 0), .ref (am 4 0), .ref (am 5 0), .ref (am 6 0), .ref (am 7 0), .ref (am 8 0), .ref (am 9 0), .ref (am 10 0), .ref (am 11 0), .ref (am 12 0), .ref (am 13 0), vI (m 0 0 14), .ref (am 15 0), .ref (am 16 0), .ref (am 17 0), .ref (am 18 0), .ref (am 19 0), .ref (am 20 0), .ref (am 21 0), .ref (am 22 0), .ref (am 23 0), .ref (am 24 0), .ref (am 25 0), .ref (am 26 0), .ref (am 27 0), .ref (am 28 0), .ref (am 29 0), vI (((m 0 0 30).toNat : Nat) : Int), vI (m 0 0 31), vI (m 0 0 32), vI (((m 0 0 33).toNat : Nat) : Int), vI (m 0 0 34), .ref (am 35 0), .ref (am 36 0), .ref (am 37 0)]) := by rw [e3]; exact hu_s
  refine x_aload_n C dX8_setStart_5 0 rfl ?_
  refine x_iload_n C dX8_setStart_6 1 rfl ?_
  have cp6 : MP D am h (cu m 0 0 ((fu (m 0 0) 0 0))) h2 := by rw [e3]; exact (MP.up (MP.rf hR) (lm0 (by decide)) ((fu (m 0 0) 0 0)) rfl)
  refine x_callV C (n := 1) (qc := (RX8, TX8, 38)) (As := [vI u]) (rest := []) (c_X8_isLevel (cp6.1) (hM1) (by omega)) gX8_setStart_X8_isLevel (by decide +kernel) f4 rfl rfl rfl rfl (Nat.le_of_ble_eq_true rfl) ⟨by decide, by decide⟩ ⟨(by decide), (by decide)⟩ dX8_setStart_7 (fun rv7 h8 hp9 => ?_)
  obtain ⟨rfl, e10⟩ := hp9
  obtain rfl := e10.symm
  refine x_topv (show bI (0 ≤ u ∧ u ≤ ((cu m 0 0 ((fu (m 0 0) 0 0)))) 0 0 2 - 1) = bI (0 ≤ u ∧ u ≤ m 0 0 2 - 1) from by rfl) ?_
  have hbr5 := bI_cs ((0 ≤ u ∧ u ≤ m 0 0 2 - 1))
  refine x_if_eq (tgt := 20) C dX8_setStart_10 (by decide) (by omega) (fun c11 => ?_) (fun c11 => ?_)
  · skip
    refine x_aload_n C dX8_setStart_20 0 rfl ?_
    refine x_iconst C dX8_setStart_21 1 (by decide) ?_
    have cp12 : MP D am h (cu m 0 0 ((fu (m 0 0) 0 0))) h2 := by rw [e3]; exact (MP.up (MP.rf hR) (lm0 (by decide)) ((fu (m 0 0) 0 0)) rfl)
    refine x_callV C (n := 1) (qc := (RX8, TX8, 38)) (As := [vI 1]) (rest := []) (c_X8_fails (cp12.1)) gX8_setStart_X8_fails (by decide +kernel) f4 rfl rfl rfl rfl (Nat.le_of_ble_eq_true rfl) ⟨by decide, by decide⟩ ⟨(by decide), (by decide)⟩ dX8_setStart_22 (fun rv13 h14 hp15 => ?_)
    obtain ⟨rfl, cp17⟩ := hp15
    have cp18 : MP D am h ((cu ((cu m 0 0 ((fu (m 0 0) 0 0)))) 0 0 ((fu (((cu m 0 0 ((fu (m 0 0) 0 0)))) 0 0) 0 1)))) h14 := MP.trans cp12 cp17
    refine x_iret C G dX8_setStart_25 ?_ (by decide) (by decide)
    first
      | exact ⟨_, _, rfl, cp18, Or.inl (⟨rfl, by omega, (by repeat (first | exact SM.rf | refine SM.th ?_ | refine SM.o2 ?_ | refine SM.o14 ?_ | refine SM.sr ?_ | refine SM.ly (by assumption) (by assumption) ?_ | refine SM.bm ?_ | refine SM.st ?_ | refine SM.mv ?_ | refine SM.up (by decide) ?_))⟩)⟩
      | exact ⟨_, _, rfl, cp18, Or.inr (⟨rfl, by omega, by first | rfl | omega, (by repeat (first | exact SM.rf | refine SM.th ?_ | refine SM.o2 ?_ | refine SM.o14 ?_ | refine SM.sr ?_ | refine SM.ly (by assumption) (by assumption) ?_ | refine SM.bm ?_ | refine SM.st ?_ | refine SM.mv ?_ | refine SM.up (by decide) ?_))⟩)⟩
  · skip
    refine x_iload_n C dX8_setStart_13 2 rfl ?_
    refine x_callS C (n := 1) (As := [vI z]) (rest := []) (c_X8_isCell (by omega)) gX8_setStart_X8_isCell (by decide +kernel) rfl rfl rfl (Nat.le_of_ble_eq_true rfl) ⟨by decide, by decide⟩ ⟨(by decide), (by decide)⟩ dX8_setStart_14 (fun rv20 h21 hp22 => ?_)
    obtain ⟨rfl, e23⟩ := hp22
    obtain rfl := e23.symm
    have hbr19 := bI_cs ((0 ≤ z ∧ z ≤ 95))
    refine x_if_ne (tgt := 26) C dX8_setStart_17 (by decide) (by omega) (fun c24 => ?_) (fun c24 => ?_)
    · skip
      refine x_aload_n C dX8_setStart_26 0 rfl ?_
      refine x_get C (v := .ref (am 5 0)) f4 (T := TX8) rfl kX8_setStart_1 5 (by decide) kX8_setStart_2 rfl dX8_setStart_27 ?_
      refine x_iload_n C dX8_setStart_30 1 rfl ?_
      have f25 : h (am 5 0) = some (eI D 12 (m 5 0)) := hR.1 5 0 (lm0 (by decide))
      have f26 : h2 (am 5 0) = some (eI D 12 (m 5 0)) := by rw [e3, hu_n (hR.ne (lm0 (by decide)) (lm0 (by decide)) (fun zz9 => absurd zz9.1 (by decide)))]; exact f25
      refine x_iald C f26 ⟨by omega, by omega⟩ (by decide) dX8_setStart_31 ?_
      refine x_istore_n C (ls' := [(0, .ref (am 0 0)), (1, vI u), (2, vI z), (3, vI ((m 5 0) (Int.toNat u)))]) dX8_setStart_32 (by decide) rfl ?_
      refine x_aload_n C dX8_setStart_33 0 rfl ?_
      refine x_get C (v := .ref (am 5 0)) f4 (T := TX8) rfl kX8_setStart_1 5 (by decide) kX8_setStart_2 rfl dX8_setStart_34 ?_
      refine x_iload_n C dX8_setStart_37 1 rfl ?_
      refine x_iload_n C dX8_setStart_38 2 rfl ?_
      refine x_iast C f26 ⟨by omega, by omega⟩ (by decide) dX8_setStart_39 (x_hn (fun h27 e28 => ?_))
      have f29 : h27 (am 5 0) = some (eI D 12 (fu (m 5 0) (Int.toNat u) z)) := by rw [e28]; exact hu_s
      refine x_aload_n C dX8_setStart_40 0 rfl ?_
      have f30 : h27 (am 0 0) = some (eO 8 [vI 0, .ref (am 1 0), vI (m 0 0 2), .ref (am 3 0), .ref (am 4 0), .ref (am 5 0), .ref (am 6 0), .ref (am 7 0), .ref (am 8 0), .ref (am 9 0), .ref (am 10 0), .ref (am 11 0), .ref (am 12 0), .ref (am 13 0), vI (m 0 0 14), .ref (am 15 0), .ref (am 16 0), .ref (am 17 0), .ref (am 18 0), .ref (am 19 0), .ref (am 20 0), .ref (am 21 0), .ref (am 22 0), .ref (am 23 0), .ref (am 24 0), .ref (am 25 0), .ref (am 26 0), .ref (am 27 0), .ref (am 28 0), .ref (am 29 0), vI (((m 0 0 30).toNat : Nat) : Int), vI (m 0 0 31), vI (m 0 0 32), vI (((m 0 0 33).toNat : Nat) : Int), vI (m 0 0 34), .ref (am 35 0), .ref (am 36 0), .ref (am 37 0)]) := by rw [e28, hu_n (hR.ne (lm0 (by decide)) (lm0 (by decide)) (fun zz9 => absurd zz9.1 (by decide)))]; exact f4
      refine x_get C (v := .ref (am 6 0)) f30 (T := TX8) rfl kX8_setStart_1 6 (by decide) kX8_setStart_3 rfl dX8_setStart_41 ?_
      refine x_iload_n C dX8_setStart_44 1 rfl ?_
      refine x_bipush C dX8_setStart_45 (-2) (by decide) ?_
      have f31 : h (am 6 0) = some (eI D 12 (m 6 0)) := hR.1 6 0 (lm0 (by decide))
      have f32 : h2 (am 6 0) = some (eI D 12 (m 6 0)) := by rw [e3, hu_n (hR.ne (lm0 (by decide)) (lm0 (by decide)) (fun zz9 => absurd zz9.1 (by decide)))]; exact f31
      have f33 : h27 (am 6 0) = some (eI D 12 (m 6 0)) := by rw [e28, hu_n (hR.ne (lm0 (by decide)) (lm0 (by decide)) (fun zz9 => absurd zz9.1 (by decide)))]; exact f32
      refine x_iast C f33 ⟨by omega, by omega⟩ (by decide) dX8_setStart_47 (x_hn (fun h34 e35 => ?_))
      have f36 : h34 (am 6 0) = some (eI D 12 (fu (m 6 0) (Int.toNat u) ((-2)))) := by rw [e35]; exact hu_s
      refine x_iload_n C dX8_setStart_48 3 rfl ?_
      refine x_iret C G dX8_setStart_49 ?_ (by decide) (by decide)
      have cp37 : MP D am h (cu (cu (cu m 0 0 ((fu (m 0 0) 0 0))) 5 0 (fu (m 5 0) (Int.toNat u) z)) 6 0 (fu (m 6 0) (Int.toNat u) ((-2)))) h34 := by rw [e35, e28, e3]; exact (MP.up (MP.up (MP.up (MP.rf hR) (lm0 (by decide)) ((fu (m 0 0) 0 0)) rfl) (lm0 (by decide)) (fu (m 5 0) (Int.toNat u) z) rfl) (lm0 (by decide)) (fu (m 6 0) (Int.toNat u) ((-2))) rfl)
      first
        | exact ⟨_, _, rfl, cp37, Or.inl (⟨rfl, by omega, (by repeat (first | exact SM.rf | refine SM.th ?_ | refine SM.o2 ?_ | refine SM.o14 ?_ | refine SM.sr ?_ | refine SM.ly (by assumption) (by assumption) ?_ | refine SM.bm ?_ | refine SM.st ?_ | refine SM.mv ?_ | refine SM.up (by decide) ?_))⟩)⟩
        | exact ⟨_, _, rfl, cp37, Or.inr (⟨rfl, by omega, by first | rfl | omega, (by repeat (first | exact SM.rf | refine SM.th ?_ | refine SM.o2 ?_ | refine SM.o14 ?_ | refine SM.sr ?_ | refine SM.ly (by assumption) (by assumption) ?_ | refine SM.bm ?_ | refine SM.st ?_ | refine SM.mv ?_ | refine SM.up (by decide) ?_))⟩)⟩
    · skip
      refine x_aload_n C dX8_setStart_20 0 rfl ?_
      refine x_iconst C dX8_setStart_21 1 (by decide) ?_
      have cp38 : MP D am h (cu m 0 0 ((fu (m 0 0) 0 0))) h2 := by rw [e3]; exact (MP.up (MP.rf hR) (lm0 (by decide)) ((fu (m 0 0) 0 0)) rfl)
      refine x_callV C (n := 1) (qc := (RX8, TX8, 38)) (As := [vI 1]) (rest := []) (c_X8_fails (cp38.1)) gX8_setStart_X8_fails (by decide +kernel) f4 rfl rfl rfl rfl (Nat.le_of_ble_eq_true rfl) ⟨by decide, by decide⟩ ⟨(by decide), (by decide)⟩ dX8_setStart_22 (fun rv39 h40 hp41 => ?_)
      obtain ⟨rfl, cp43⟩ := hp41
      have cp44 : MP D am h ((cu ((cu m 0 0 ((fu (m 0 0) 0 0)))) 0 0 ((fu (((cu m 0 0 ((fu (m 0 0) 0 0)))) 0 0) 0 1)))) h40 := MP.trans cp38 cp43
      refine x_iret C G dX8_setStart_25 ?_ (by decide) (by decide)
      first
        | exact ⟨_, _, rfl, cp44, Or.inl (⟨rfl, by omega, (by repeat (first | exact SM.rf | refine SM.th ?_ | refine SM.o2 ?_ | refine SM.o14 ?_ | refine SM.sr ?_ | refine SM.ly (by assumption) (by assumption) ?_ | refine SM.bm ?_ | refine SM.st ?_ | refine SM.mv ?_ | refine SM.up (by decide) ?_))⟩)⟩
        | exact ⟨_, _, rfl, cp44, Or.inr (⟨rfl, by omega, by first | rfl | omega, (by repeat (first | exact SM.rf | refine SM.th ?_ | refine SM.o2 ?_ | refine SM.o14 ?_ | refine SM.sr ?_ | refine SM.ly (by assumption) (by assumption) ?_ | refine SM.bm ?_ | refine SM.st ?_ | refine SM.mv ?_ | refine SM.up (by decide) ?_))⟩)⟩

theorem kX8_star_0 : Cond.fieldLink "LedgeLevelsModel" 101 "LedgeLevelsModel" "thrown" "I" ∈ wsX8_star := by decide +kernel
theorem kX8_star_1 : ∀ w ∈ wsX80, w ∈ wsX8_star := by decide +kernel
theorem kX8_star_2 : Cond.fieldLink "LedgeLevelsModel" 55 "LedgeLevelsModel" "best" "[I" ∈ wsX8_star := by decide +kernel
theorem kX8_star_3 : Cond.fieldLink "LedgeLevelsModel" 46 "LedgeLevelsModel" "author" "[I" ∈ wsX8_star := by decide +kernel
theorem kX8_star_4 : Cond.fieldLink "LedgeLevelsModel" 64 "LedgeLevelsModel" "stars" "[I" ∈ wsX8_star := by decide +kernel
set_option maxRecDepth 100000 in
set_option maxHeartbeats 4000000 in
theorem c_X8_star {l : Launch} {D : va_G} {A : Nat → Prop} {h : vh} {am : AD} {m : CS} {u p n : Int}  (hR : RepM D am m h) (hM1 : Mk1 m) (hi_u : -2147483648 ≤ u ∧ u ≤ 2147483647) (hi_p : -2147483648 ≤ p ∧ p ≤ 2147483647) (hi_n : -2147483648 ≤ n ∧ n ≤ 2147483647) (hbst : ∀ j : Nat, (j : Int) < m 0 0 14 → -1 ≤ m 18 0 j ∧ m 18 0 j ≤ 7000) (hau : ∀ j : Nat, (j : Int) < m 0 0 14 → 0 ≤ m 15 0 j ∧ m 15 0 j ≤ 5) : MX l D A yX8_star wsX8_star { frames := 2, cells := 0, slots := 0, locals := 43 } [.ref (am 0 0), vI u, vI p, vI n] h (fun rv h' => ∃ (r : Int) (m1 : CS), rv = some (vI r) ∧ MP D am h (m1) h' ∧ ((m1 0 0 0 = 1 ∧ (¬ (0 ≤ u ∧ u < m 0 0 14) ∨ ¬ (0 ≤ p ∧ p < 6)) ∧ SM m m1) ∨ (m1 0 0 0 = 2 ∧ ((0 ≤ u ∧ u < m 0 0 14) ∧ (0 ≤ p ∧ p < 6) ∧ ¬ (1 ≤ n ∧ n ≤ 5)) ∧ SM m m1) ∨ (m1 0 0 0 = 3 ∧ ((0 ≤ u ∧ u < m 0 0 14) ∧ (0 ≤ p ∧ p < 6) ∧ (1 ≤ n ∧ n ≤ 5) ∧ (m 18 0 u.toNat = -1 ∨ m 15 0 u.toNat = p)) ∧ SM m m1) ∨ (m1 0 0 0 = 0 ∧ ((0 ≤ u ∧ u < m 0 0 14) ∧ (0 ≤ p ∧ p < 6) ∧ (1 ≤ n ∧ n ≤ 5) ∧ m 18 0 u.toNat ≠ -1 ∧ m 15 0 u.toNat ≠ p) ∧ r = m 21 0 (6 * u + p).toNat ∧ SM (cu m 21 0 (fu (m 21 0) (6 * u + p).toNat n)) m1))) := by
  refine MX.of (cc := cX8_star) (maxL := 5) (ret := (some .int)) [(0, .ref (am 0 0)), (1, vI u), (2, vI p), (3, vI n)] (by decide +kernel) rfl rfl (Nat.le_of_ble_eq_true rfl) ?_
  intro κ C hkl G
  subst hkl
  have C : CX κ "LedgeLevelsModel" "star" cX8_star wsX8_star { frames := 2, cells := 0, slots := 0, locals := 43 } D A 5 := C
  have hiz : nq (D.1 20) (D.1 21) := cx_iz C
  obtain ⟨hM1a, hM1b⟩ := id hM1
  refine x_aload_n C dX8_star_0 0 rfl ?_
  refine x_iconst C dX8_star_1 0 (by decide) ?_
  have f1 : h (am 0 0) = some (eO 8 [vI (m 0 0 0), .ref (am 1 0), vI (m 0 0 2), .ref (am 3 0), .ref (am 4 0), .ref (am 5 0), .ref (am 6 0), .ref (am 7 0), .ref (am 8 0), .ref (am 9 0), .ref (am 10 0), .ref (am 11 0), .ref (am 12 0), .ref (am 13 0), vI (m 0 0 14), .ref (am 15 0), .ref (am 16 0), .ref (am 17 0), .ref (am 18 0), .ref (am 19 0), .ref (am 20 0), .ref (am 21 0), .ref (am 22 0), .ref (am 23 0), .ref (am 24 0), .ref (am 25 0), .ref (am 26 0), .ref (am 27 0), .ref (am 28 0), .ref (am 29 0), vI (((m 0 0 30).toNat : Nat) : Int), vI (m 0 0 31), vI (m 0 0 32), vI (((m 0 0 33).toNat : Nat) : Int), vI (m 0 0 34), .ref (am 35 0), .ref (am 36 0), .ref (am 37 0)]) := hR.1 0 0 (lm0 (by decide))
  refine x_put C f1 (T := TX8) rfl tyX8_ok nmX8 kX8_star_1 0 (by decide) kX8_star_0 rfl (fs' := [vI 0, .ref (am 1 0), vI (m 0 0 2), .ref (am 3 0), .ref (am 4 0), .ref (am 5 0), .ref (am 6 0), .ref (am 7 0), .ref (am 8 0), .ref (am 9 0), .ref (am 10 0), .ref (am 11 0), .ref (am 12 0), .ref (am 13 0), vI (m 0 0 14), .ref (am 15 0), .ref (am 16 0), .ref (am 17 0), .ref (am 18 0), .ref (am 19 0), .ref (am 20 0), .ref (am 21 0), .ref (am 22 0), .ref (am 23 0), .ref (am 24 0), .ref (am 25 0), .ref (am 26 0), .ref (am 27 0), .ref (am 28 0), .ref (am 29 0), vI (((m 0 0 30).toNat : Nat) : Int), vI (m 0 0 31), vI (m 0 0 32), vI (((m 0 0 33).toNat : Nat) : Int), vI (m 0 0 34), .ref (am 35 0), .ref (am 36 0), .ref (am 37 0)]) rfl rfl (by simp) rfl dX8_star_2 (x_hn (fun h2 e3 => ?_))
  have f4 : h2 (am 0 0) = some (eO 8 [vI 0, .ref (am 1 0), vI (m 0 0 2), .ref (am 3 0), .ref (am 4 0), .ref (am 5 0), .ref (am 6 0), .ref (am 7 0), .ref (am 8 0), .ref (am 9 0), .ref (am 10 0), .ref (am 11 0), .ref (am 12 0), .ref (am 13 0), vI (m 0 0 14), .ref (am 15 0), .ref (am 16 0), .ref (am 17 0), .ref (am 18 0), .ref (am 19 0), .ref (am 20 0), .ref (am 21 0), .ref (am 22 0), .ref (am 23 0), .ref (am 24 0), .ref (am 25 0), .ref (am 26 0), .ref (am 27 0), .ref (am 28 0), .ref (am 29 0), vI (((m 0 0 30).toNat : Nat) : Int), vI (m 0 0 31), vI (m 0 0 32), vI (((m 0 0 33).toNat : Nat) : Int), vI (m 0 0 34), .ref (am 35 0), .ref (am 36 0), .ref (am 37 0)]) := by rw [e3]; exact hu_s
  refine x_aload_n C dX8_star_5 0 rfl ?_
  refine x_iload_n C dX8_star_6 1 rfl ?_
  have cp6 : MP D am h (cu m 0 0 ((fu (m 0 0) 0 0))) h2 := by rw [e3]; exact (MP.up (MP.rf hR) (lm0 (by decide)) ((fu (m 0 0) 0 0)) rfl)
  refine x_callV C (n := 1) (qc := (RX8, TX8, 38)) (As := [vI u]) (rest := []) (c_X8_isWork (cp6.1) (hM1) (by omega)) gX8_star_X8_isWork (by decide +kernel) f4 rfl rfl rfl rfl (Nat.le_of_ble_eq_true rfl) ⟨by decide, by decide⟩ ⟨(by decide), (by decide)⟩ dX8_star_7 (fun rv7 h8 hp9 => ?_)
  obtain ⟨rfl, e10⟩ := hp9
  obtain rfl := e10.symm
  refine x_topv (show bI (0 ≤ u ∧ u ≤ ((cu m 0 0 ((fu (m 0 0) 0 0)))) 0 0 14 - 1) = bI (0 ≤ u ∧ u ≤ m 0 0 14 - 1) from by rfl) ?_
  have hbr5 := bI_cs ((0 ≤ u ∧ u ≤ m 0 0 14 - 1))
  refine x_if_eq (tgt := 20) C dX8_star_10 (by decide) (by omega) (fun c11 => ?_) (fun c11 => ?_)
  · skip
    refine x_aload_n C dX8_star_20 0 rfl ?_
    refine x_iconst C dX8_star_21 1 (by decide) ?_
    have cp12 : MP D am h (cu m 0 0 ((fu (m 0 0) 0 0))) h2 := by rw [e3]; exact (MP.up (MP.rf hR) (lm0 (by decide)) ((fu (m 0 0) 0 0)) rfl)
    refine x_callV C (n := 1) (qc := (RX8, TX8, 38)) (As := [vI 1]) (rest := []) (c_X8_fails (cp12.1)) gX8_star_X8_fails (by decide +kernel) f4 rfl rfl rfl rfl (Nat.le_of_ble_eq_true rfl) ⟨by decide, by decide⟩ ⟨(by decide), (by decide)⟩ dX8_star_22 (fun rv13 h14 hp15 => ?_)
    obtain ⟨rfl, cp17⟩ := hp15
    have cp18 : MP D am h ((cu ((cu m 0 0 ((fu (m 0 0) 0 0)))) 0 0 ((fu (((cu m 0 0 ((fu (m 0 0) 0 0)))) 0 0) 0 1)))) h14 := MP.trans cp12 cp17
    refine x_iret C G dX8_star_25 ?_ (by decide) (by decide)
    first
      | exact ⟨_, _, rfl, cp18, Or.inl (⟨rfl, by omega, (by repeat (first | exact SM.rf | refine SM.th ?_ | refine SM.o2 ?_ | refine SM.o14 ?_ | refine SM.sr ?_ | refine SM.ly (by assumption) (by assumption) ?_ | refine SM.bm ?_ | refine SM.st ?_ | refine SM.mv ?_ | refine SM.up (by decide) ?_))⟩)⟩
      | exact ⟨_, _, rfl, cp18, Or.inr (Or.inl (⟨rfl, by omega, (by repeat (first | exact SM.rf | refine SM.th ?_ | refine SM.o2 ?_ | refine SM.o14 ?_ | refine SM.sr ?_ | refine SM.ly (by assumption) (by assumption) ?_ | refine SM.bm ?_ | refine SM.st ?_ | refine SM.mv ?_ | refine SM.up (by decide) ?_))⟩))⟩
      | exact ⟨_, _, rfl, cp18, Or.inr (Or.inr (Or.inl (⟨rfl, by omega, (by repeat (first | exact SM.rf | refine SM.th ?_ | refine SM.o2 ?_ | refine SM.o14 ?_ | refine SM.sr ?_ | refine SM.ly (by assumption) (by assumption) ?_ | refine SM.bm ?_ | refine SM.st ?_ | refine SM.mv ?_ | refine SM.up (by decide) ?_))⟩)))⟩
      | exact ⟨_, _, rfl, cp18, Or.inr (Or.inr (Or.inr (⟨rfl, by omega, by first | rfl | omega, (by repeat (first | exact SM.rf | refine SM.th ?_ | refine SM.o2 ?_ | refine SM.o14 ?_ | refine SM.sr ?_ | refine SM.ly (by assumption) (by assumption) ?_ | refine SM.bm ?_ | refine SM.st ?_ | refine SM.mv ?_ | refine SM.up (by decide) ?_))⟩)))⟩
  · skip
    refine x_iload_n C dX8_star_13 2 rfl ?_
    refine x_callS C (n := 1) (As := [vI p]) (rest := []) (c_X8_isPerson (by omega)) gX8_star_X8_isPerson (by decide +kernel) rfl rfl rfl (Nat.le_of_ble_eq_true rfl) ⟨by decide, by decide⟩ ⟨(by decide), (by decide)⟩ dX8_star_14 (fun rv20 h21 hp22 => ?_)
    obtain ⟨rfl, e23⟩ := hp22
    obtain rfl := e23.symm
    have hbr19 := bI_cs ((0 ≤ p ∧ p ≤ 5))
    refine x_if_ne (tgt := 26) C dX8_star_17 (by decide) (by omega) (fun c24 => ?_) (fun c24 => ?_)
    · skip
      refine x_iload_n C dX8_star_26 3 rfl ?_
      refine x_iconst C dX8_star_27 1 (by decide) ?_
      refine x_iconst C dX8_star_28 5 (by decide) ?_
      refine x_callS C (n := 3) (As := [vI n, vI 1, vI 5]) (rest := []) (c_X8_in (by omega) (by omega) (by omega)) gX8_star_X8_in (by decide +kernel) rfl rfl rfl (Nat.le_of_ble_eq_true rfl) ⟨by decide, by decide⟩ ⟨(by decide), (by decide)⟩ dX8_star_29 (fun rv26 h27 hp28 => ?_)
      obtain ⟨rfl, e29⟩ := hp28
      obtain rfl := e29.symm
      have hbr25 := bI_cs ((1 ≤ n ∧ n ≤ 5))
      refine x_if_ne (tgt := 41) C dX8_star_32 (by decide) (by omega) (fun c30 => ?_) (fun c30 => ?_)
      · skip
        have hb9 := hbst u.toNat (by omega)
        have ha9 := hau u.toNat (by omega)
        refine x_aload_n C dX8_star_41 0 rfl ?_
        refine x_get C (v := .ref (am 18 0)) f4 (T := TX8) rfl kX8_star_1 18 (by decide) kX8_star_2 rfl dX8_star_42 ?_
        refine x_iload_n C dX8_star_45 1 rfl ?_
        have f31 : h (am 18 0) = some (eI D 20 (m 18 0)) := hR.1 18 0 (lm0 (by decide))
        have f32 : h2 (am 18 0) = some (eI D 20 (m 18 0)) := by rw [e3, hu_n (hR.ne (lm0 (by decide)) (lm0 (by decide)) (fun zz9 => absurd zz9.1 (by decide)))]; exact f31
        refine x_iald C f32 ⟨by omega, by omega⟩ (by decide) dX8_star_46 ?_
        refine x_topv (show (m 18 0) (Int.toNat u) = m 18 0 u.toNat from by rfl) ?_
        refine x_iconst C dX8_star_47 (-1) (by decide) ?_
        refine x_icmp_eq (tgt := 61) C dX8_star_48 (by decide) (by omega) (by omega) (fun c33 => ?_) (fun c33 => ?_)
        · skip
          refine x_aload_n C dX8_star_61 0 rfl ?_
          refine x_iconst C dX8_star_62 3 (by decide) ?_
          have cp34 : MP D am h (cu m 0 0 ((fu (m 0 0) 0 0))) h2 := by rw [e3]; exact (MP.up (MP.rf hR) (lm0 (by decide)) ((fu (m 0 0) 0 0)) rfl)
          refine x_callV C (n := 1) (qc := (RX8, TX8, 38)) (As := [vI 3]) (rest := []) (c_X8_fails (cp34.1)) gX8_star_X8_fails (by decide +kernel) f4 rfl rfl rfl rfl (Nat.le_of_ble_eq_true rfl) ⟨by decide, by decide⟩ ⟨(by decide), (by decide)⟩ dX8_star_63 (fun rv35 h36 hp37 => ?_)
          obtain ⟨rfl, cp39⟩ := hp37
          have cp40 : MP D am h ((cu ((cu m 0 0 ((fu (m 0 0) 0 0)))) 0 0 ((fu (((cu m 0 0 ((fu (m 0 0) 0 0)))) 0 0) 0 3)))) h36 := MP.trans cp34 cp39
          refine x_iret C G dX8_star_66 ?_ (by decide) (by decide)
          first
            | exact ⟨_, _, rfl, cp40, Or.inl (⟨rfl, by omega, (by repeat (first | exact SM.rf | refine SM.th ?_ | refine SM.o2 ?_ | refine SM.o14 ?_ | refine SM.sr ?_ | refine SM.ly (by assumption) (by assumption) ?_ | refine SM.bm ?_ | refine SM.st ?_ | refine SM.mv ?_ | refine SM.up (by decide) ?_))⟩)⟩
            | exact ⟨_, _, rfl, cp40, Or.inr (Or.inl (⟨rfl, by omega, (by repeat (first | exact SM.rf | refine SM.th ?_ | refine SM.o2 ?_ | refine SM.o14 ?_ | refine SM.sr ?_ | refine SM.ly (by assumption) (by assumption) ?_ | refine SM.bm ?_ | refine SM.st ?_ | refine SM.mv ?_ | refine SM.up (by decide) ?_))⟩))⟩
            | exact ⟨_, _, rfl, cp40, Or.inr (Or.inr (Or.inl (⟨rfl, by omega, (by repeat (first | exact SM.rf | refine SM.th ?_ | refine SM.o2 ?_ | refine SM.o14 ?_ | refine SM.sr ?_ | refine SM.ly (by assumption) (by assumption) ?_ | refine SM.bm ?_ | refine SM.st ?_ | refine SM.mv ?_ | refine SM.up (by decide) ?_))⟩)))⟩
            | exact ⟨_, _, rfl, cp40, Or.inr (Or.inr (Or.inr (⟨rfl, by omega, by first | rfl | omega, (by repeat (first | exact SM.rf | refine SM.th ?_ | refine SM.o2 ?_ | refine SM.o14 ?_ | refine SM.sr ?_ | refine SM.ly (by assumption) (by assumption) ?_ | refine SM.bm ?_ | refine SM.st ?_ | refine SM.mv ?_ | refine SM.up (by decide) ?_))⟩)))⟩
        · skip
          refine x_aload_n C dX8_star_51 0 rfl ?_
          refine x_get C (v := .ref (am 15 0)) f4 (T := TX8) rfl kX8_star_1 15 (by decide) kX8_star_3 rfl dX8_star_52 ?_
          refine x_iload_n C dX8_star_55 1 rfl ?_
          have f41 : h (am 15 0) = some (eI D 20 (m 15 0)) := hR.1 15 0 (lm0 (by decide))
          have f42 : h2 (am 15 0) = some (eI D 20 (m 15 0)) := by rw [e3, hu_n (hR.ne (lm0 (by decide)) (lm0 (by decide)) (fun zz9 => absurd zz9.1 (by decide)))]; exact f41
          refine x_iald C f42 ⟨by omega, by omega⟩ (by decide) dX8_star_56 ?_
          refine x_topv (show (m 15 0) (Int.toNat u) = m 15 0 u.toNat from by rfl) ?_
          refine x_iload_n C dX8_star_57 2 rfl ?_
          refine x_icmp_ne (tgt := 67) C dX8_star_58 (by decide) (by omega) (by omega) (fun c43 => ?_) (fun c43 => ?_)
          · skip
            refine x_aload_n C dX8_star_67 0 rfl ?_
            refine x_get C (v := .ref (am 21 0)) f4 (T := TX8) rfl kX8_star_1 21 (by decide) kX8_star_4 rfl dX8_star_68 ?_
            refine x_bipush C dX8_star_71 6 (by decide) ?_
            refine x_iload_n C dX8_star_73 1 rfl ?_
            refine x_imul C dX8_star_74 ?_
            refine x_iload_n C dX8_star_75 2 rfl ?_
            refine x_iadd C dX8_star_76 ?_
            have f44 : h (am 21 0) = some (eI D 120 (m 21 0)) := hR.1 21 0 (lm0 (by decide))
            have f45 : h2 (am 21 0) = some (eI D 120 (m 21 0)) := by rw [e3, hu_n (hR.ne (lm0 (by decide)) (lm0 (by decide)) (fun zz9 => absurd zz9.1 (by decide)))]; exact f44
            refine x_iald C f45 ⟨by omega, by omega⟩ (by decide) dX8_star_77 ?_
            refine x_istore C (ls' := [(0, .ref (am 0 0)), (1, vI u), (2, vI p), (3, vI n), (4, vI ((m 21 0) (Int.toNat ((6 * u) + p))))]) dX8_star_78 (by decide) rfl ?_
            refine x_aload_n C dX8_star_80 0 rfl ?_
            refine x_get C (v := .ref (am 21 0)) f4 (T := TX8) rfl kX8_star_1 21 (by decide) kX8_star_4 rfl dX8_star_81 ?_
            refine x_bipush C dX8_star_84 6 (by decide) ?_
            refine x_iload_n C dX8_star_86 1 rfl ?_
            refine x_imul C dX8_star_87 ?_
            refine x_iload_n C dX8_star_88 2 rfl ?_
            refine x_iadd C dX8_star_89 ?_
            refine x_iload_n C dX8_star_90 3 rfl ?_
            refine x_iast C f45 ⟨by omega, by omega⟩ (by decide) dX8_star_91 (x_hn (fun h46 e47 => ?_))
            have f48 : h46 (am 21 0) = some (eI D 120 (fu (m 21 0) (Int.toNat ((6 * u) + p)) n)) := by rw [e47]; exact hu_s
            refine x_iload C dX8_star_92 4 rfl ?_
            refine x_iret C G dX8_star_94 ?_ (by decide) (by decide)
            have cp49 : MP D am h (cu (cu m 0 0 ((fu (m 0 0) 0 0))) 21 0 (fu (m 21 0) (Int.toNat ((6 * u) + p)) n)) h46 := by rw [e47, e3]; exact (MP.up (MP.up (MP.rf hR) (lm0 (by decide)) ((fu (m 0 0) 0 0)) rfl) (lm0 (by decide)) (fu (m 21 0) (Int.toNat ((6 * u) + p)) n) rfl)
            first
              | exact ⟨_, _, rfl, cp49, Or.inl (⟨rfl, by omega, (by repeat (first | exact SM.rf | refine SM.th ?_ | refine SM.o2 ?_ | refine SM.o14 ?_ | refine SM.sr ?_ | refine SM.ly (by assumption) (by assumption) ?_ | refine SM.bm ?_ | refine SM.st ?_ | refine SM.mv ?_ | refine SM.up (by decide) ?_))⟩)⟩
              | exact ⟨_, _, rfl, cp49, Or.inr (Or.inl (⟨rfl, by omega, (by repeat (first | exact SM.rf | refine SM.th ?_ | refine SM.o2 ?_ | refine SM.o14 ?_ | refine SM.sr ?_ | refine SM.ly (by assumption) (by assumption) ?_ | refine SM.bm ?_ | refine SM.st ?_ | refine SM.mv ?_ | refine SM.up (by decide) ?_))⟩))⟩
              | exact ⟨_, _, rfl, cp49, Or.inr (Or.inr (Or.inl (⟨rfl, by omega, (by repeat (first | exact SM.rf | refine SM.th ?_ | refine SM.o2 ?_ | refine SM.o14 ?_ | refine SM.sr ?_ | refine SM.ly (by assumption) (by assumption) ?_ | refine SM.bm ?_ | refine SM.st ?_ | refine SM.mv ?_ | refine SM.up (by decide) ?_))⟩)))⟩
              | exact ⟨_, _, rfl, cp49, Or.inr (Or.inr (Or.inr (⟨rfl, by omega, by first | rfl | omega, (by repeat (first | exact SM.rf | refine SM.th ?_ | refine SM.o2 ?_ | refine SM.o14 ?_ | refine SM.sr ?_ | refine SM.ly (by assumption) (by assumption) ?_ | refine SM.bm ?_ | refine SM.st ?_ | refine SM.mv ?_ | refine SM.up (by decide) ?_))⟩)))⟩
          · skip
            refine x_aload_n C dX8_star_61 0 rfl ?_
            refine x_iconst C dX8_star_62 3 (by decide) ?_
            have cp50 : MP D am h (cu m 0 0 ((fu (m 0 0) 0 0))) h2 := by rw [e3]; exact (MP.up (MP.rf hR) (lm0 (by decide)) ((fu (m 0 0) 0 0)) rfl)
            refine x_callV C (n := 1) (qc := (RX8, TX8, 38)) (As := [vI 3]) (rest := []) (c_X8_fails (cp50.1)) gX8_star_X8_fails (by decide +kernel) f4 rfl rfl rfl rfl (Nat.le_of_ble_eq_true rfl) ⟨by decide, by decide⟩ ⟨(by decide), (by decide)⟩ dX8_star_63 (fun rv51 h52 hp53 => ?_)
            obtain ⟨rfl, cp55⟩ := hp53
            have cp56 : MP D am h ((cu ((cu m 0 0 ((fu (m 0 0) 0 0)))) 0 0 ((fu (((cu m 0 0 ((fu (m 0 0) 0 0)))) 0 0) 0 3)))) h52 := MP.trans cp50 cp55
            refine x_iret C G dX8_star_66 ?_ (by decide) (by decide)
            first
              | exact ⟨_, _, rfl, cp56, Or.inl (⟨rfl, by omega, (by repeat (first | exact SM.rf | refine SM.th ?_ | refine SM.o2 ?_ | refine SM.o14 ?_ | refine SM.sr ?_ | refine SM.ly (by assumption) (by assumption) ?_ | refine SM.bm ?_ | refine SM.st ?_ | refine SM.mv ?_ | refine SM.up (by decide) ?_))⟩)⟩
              | exact ⟨_, _, rfl, cp56, Or.inr (Or.inl (⟨rfl, by omega, (by repeat (first | exact SM.rf | refine SM.th ?_ | refine SM.o2 ?_ | refine SM.o14 ?_ | refine SM.sr ?_ | refine SM.ly (by assumption) (by assumption) ?_ | refine SM.bm ?_ | refine SM.st ?_ | refine SM.mv ?_ | refine SM.up (by decide) ?_))⟩))⟩
              | exact ⟨_, _, rfl, cp56, Or.inr (Or.inr (Or.inl (⟨rfl, by omega, (by repeat (first | exact SM.rf | refine SM.th ?_ | refine SM.o2 ?_ | refine SM.o14 ?_ | refine SM.sr ?_ | refine SM.ly (by assumption) (by assumption) ?_ | refine SM.bm ?_ | refine SM.st ?_ | refine SM.mv ?_ | refine SM.up (by decide) ?_))⟩)))⟩
              | exact ⟨_, _, rfl, cp56, Or.inr (Or.inr (Or.inr (⟨rfl, by omega, by first | rfl | omega, (by repeat (first | exact SM.rf | refine SM.th ?_ | refine SM.o2 ?_ | refine SM.o14 ?_ | refine SM.sr ?_ | refine SM.ly (by assumption) (by assumption) ?_ | refine SM.bm ?_ | refine SM.st ?_ | refine SM.mv ?_ | refine SM.up (by decide) ?_))⟩)))⟩
      · skip
        refine x_aload_n C dX8_star_35 0 rfl ?_
        refine x_iconst C dX8_star_36 2 (by decide) ?_
        have cp57 : MP D am h (cu m 0 0 ((fu (m 0 0) 0 0))) h2 := by rw [e3]; exact (MP.up (MP.rf hR) (lm0 (by decide)) ((fu (m 0 0) 0 0)) rfl)
        refine x_callV C (n := 1) (qc := (RX8, TX8, 38)) (As := [vI 2]) (rest := []) (c_X8_fails (cp57.1)) gX8_star_X8_fails (by decide +kernel) f4 rfl rfl rfl rfl (Nat.le_of_ble_eq_true rfl) ⟨by decide, by decide⟩ ⟨(by decide), (by decide)⟩ dX8_star_37 (fun rv58 h59 hp60 => ?_)
        obtain ⟨rfl, cp62⟩ := hp60
        have cp63 : MP D am h ((cu ((cu m 0 0 ((fu (m 0 0) 0 0)))) 0 0 ((fu (((cu m 0 0 ((fu (m 0 0) 0 0)))) 0 0) 0 2)))) h59 := MP.trans cp57 cp62
        refine x_iret C G dX8_star_40 ?_ (by decide) (by decide)
        first
          | exact ⟨_, _, rfl, cp63, Or.inl (⟨rfl, by omega, (by repeat (first | exact SM.rf | refine SM.th ?_ | refine SM.o2 ?_ | refine SM.o14 ?_ | refine SM.sr ?_ | refine SM.ly (by assumption) (by assumption) ?_ | refine SM.bm ?_ | refine SM.st ?_ | refine SM.mv ?_ | refine SM.up (by decide) ?_))⟩)⟩
          | exact ⟨_, _, rfl, cp63, Or.inr (Or.inl (⟨rfl, by omega, (by repeat (first | exact SM.rf | refine SM.th ?_ | refine SM.o2 ?_ | refine SM.o14 ?_ | refine SM.sr ?_ | refine SM.ly (by assumption) (by assumption) ?_ | refine SM.bm ?_ | refine SM.st ?_ | refine SM.mv ?_ | refine SM.up (by decide) ?_))⟩))⟩
          | exact ⟨_, _, rfl, cp63, Or.inr (Or.inr (Or.inl (⟨rfl, by omega, (by repeat (first | exact SM.rf | refine SM.th ?_ | refine SM.o2 ?_ | refine SM.o14 ?_ | refine SM.sr ?_ | refine SM.ly (by assumption) (by assumption) ?_ | refine SM.bm ?_ | refine SM.st ?_ | refine SM.mv ?_ | refine SM.up (by decide) ?_))⟩)))⟩
          | exact ⟨_, _, rfl, cp63, Or.inr (Or.inr (Or.inr (⟨rfl, by omega, by first | rfl | omega, (by repeat (first | exact SM.rf | refine SM.th ?_ | refine SM.o2 ?_ | refine SM.o14 ?_ | refine SM.sr ?_ | refine SM.ly (by assumption) (by assumption) ?_ | refine SM.bm ?_ | refine SM.st ?_ | refine SM.mv ?_ | refine SM.up (by decide) ?_))⟩)))⟩
    · skip
      refine x_aload_n C dX8_star_20 0 rfl ?_
      refine x_iconst C dX8_star_21 1 (by decide) ?_
      have cp64 : MP D am h (cu m 0 0 ((fu (m 0 0) 0 0))) h2 := by rw [e3]; exact (MP.up (MP.rf hR) (lm0 (by decide)) ((fu (m 0 0) 0 0)) rfl)
      refine x_callV C (n := 1) (qc := (RX8, TX8, 38)) (As := [vI 1]) (rest := []) (c_X8_fails (cp64.1)) gX8_star_X8_fails (by decide +kernel) f4 rfl rfl rfl rfl (Nat.le_of_ble_eq_true rfl) ⟨by decide, by decide⟩ ⟨(by decide), (by decide)⟩ dX8_star_22 (fun rv65 h66 hp67 => ?_)
      obtain ⟨rfl, cp69⟩ := hp67
      have cp70 : MP D am h ((cu ((cu m 0 0 ((fu (m 0 0) 0 0)))) 0 0 ((fu (((cu m 0 0 ((fu (m 0 0) 0 0)))) 0 0) 0 1)))) h66 := MP.trans cp64 cp69
      refine x_iret C G dX8_star_25 ?_ (by decide) (by decide)
      first
        | exact ⟨_, _, rfl, cp70, Or.inl (⟨rfl, by omega, (by repeat (first | exact SM.rf | refine SM.th ?_ | refine SM.o2 ?_ | refine SM.o14 ?_ | refine SM.sr ?_ | refine SM.ly (by assumption) (by assumption) ?_ | refine SM.bm ?_ | refine SM.st ?_ | refine SM.mv ?_ | refine SM.up (by decide) ?_))⟩)⟩
        | exact ⟨_, _, rfl, cp70, Or.inr (Or.inl (⟨rfl, by omega, (by repeat (first | exact SM.rf | refine SM.th ?_ | refine SM.o2 ?_ | refine SM.o14 ?_ | refine SM.sr ?_ | refine SM.ly (by assumption) (by assumption) ?_ | refine SM.bm ?_ | refine SM.st ?_ | refine SM.mv ?_ | refine SM.up (by decide) ?_))⟩))⟩
        | exact ⟨_, _, rfl, cp70, Or.inr (Or.inr (Or.inl (⟨rfl, by omega, (by repeat (first | exact SM.rf | refine SM.th ?_ | refine SM.o2 ?_ | refine SM.o14 ?_ | refine SM.sr ?_ | refine SM.ly (by assumption) (by assumption) ?_ | refine SM.bm ?_ | refine SM.st ?_ | refine SM.mv ?_ | refine SM.up (by decide) ?_))⟩)))⟩
        | exact ⟨_, _, rfl, cp70, Or.inr (Or.inr (Or.inr (⟨rfl, by omega, by first | rfl | omega, (by repeat (first | exact SM.rf | refine SM.th ?_ | refine SM.o2 ?_ | refine SM.o14 ?_ | refine SM.sr ?_ | refine SM.ly (by assumption) (by assumption) ?_ | refine SM.bm ?_ | refine SM.st ?_ | refine SM.mv ?_ | refine SM.up (by decide) ?_))⟩)))⟩

theorem kX8_opens_0 : Cond.fieldLink "LedgeLevelsModel" 13 "LedgeLevelsModel" "maker" "[I" ∈ wsX8_opens := by decide +kernel
theorem kX8_opens_1 : ∀ w ∈ wsX80, w ∈ wsX8_opens := by decide +kernel
theorem kX8_opens_2 : Cond.fieldLink "LedgeLevelsModel" 109 "LedgeLevelsModel" "levels" "I" ∈ wsX8_opens := by decide +kernel
theorem kX8_opens_3 : Cond.fieldLink "LedgeLevelsModel" 19 "LedgeLevelsModel" "begins" "[I" ∈ wsX8_opens := by decide +kernel
theorem kX8_opens_4 : Cond.fieldLink "LedgeLevelsModel" 22 "LedgeLevelsModel" "proofs" "[I" ∈ wsX8_opens := by decide +kernel
theorem kX8_opens_5 : Cond.fieldLink "LedgeLevelsModel" 25 "LedgeLevelsModel" "origin" "[I" ∈ wsX8_opens := by decide +kernel
set_option maxRecDepth 100000 in
set_option maxHeartbeats 1000000 in
theorem c_X8_opens {l : Launch} {D : va_G} {A : Nat → Prop} {h : vh} {am : AD} {m : CS} {p z o : Int}  (hR : RepM D am m h) (hL : 0 ≤ m 0 0 2 ∧ m 0 0 2 < 12) : MX l D A yX8_opens wsX8_opens { frames := 0, cells := 0, slots := 0, locals := 0 } [.ref (am 0 0), vI p, vI z, vI o] h (fun rv h' => rv = some (vI (m 0 0 2)) ∧ MP D am h (opN m p z o) h') := by
  refine MX.of (cc := cX8_opens) (maxL := 4) (ret := (some .int)) [(0, .ref (am 0 0)), (1, vI p), (2, vI z), (3, vI o)] (by decide +kernel) rfl rfl (Nat.le_of_ble_eq_true rfl) ?_
  intro κ C hkl G
  subst hkl
  have C : CX κ "LedgeLevelsModel" "opens" cX8_opens wsX8_opens { frames := 0, cells := 0, slots := 0, locals := 0 } D A 4 := C
  have hiz : nq (D.1 20) (D.1 21) := cx_iz C
  refine x_aload_n C dX8_opens_0 0 rfl ?_
  have f1 : h (am 0 0) = some (eO 8 [vI (m 0 0 0), .ref (am 1 0), vI (m 0 0 2), .ref (am 3 0), .ref (am 4 0), .ref (am 5 0), .ref (am 6 0), .ref (am 7 0), .ref (am 8 0), .ref (am 9 0), .ref (am 10 0), .ref (am 11 0), .ref (am 12 0), .ref (am 13 0), vI (m 0 0 14), .ref (am 15 0), .ref (am 16 0), .ref (am 17 0), .ref (am 18 0), .ref (am 19 0), .ref (am 20 0), .ref (am 21 0), .ref (am 22 0), .ref (am 23 0), .ref (am 24 0), .ref (am 25 0), .ref (am 26 0), .ref (am 27 0), .ref (am 28 0), .ref (am 29 0), vI (((m 0 0 30).toNat : Nat) : Int), vI (m 0 0 31), vI (m 0 0 32), vI (((m 0 0 33).toNat : Nat) : Int), vI (m 0 0 34), .ref (am 35 0), .ref (am 36 0), .ref (am 37 0)]) := hR.1 0 0 (lm0 (by decide))
  refine x_get C (v := .ref (am 3 0)) f1 (T := TX8) rfl kX8_opens_1 3 (by decide) kX8_opens_0 rfl dX8_opens_1 ?_
  refine x_aload_n C dX8_opens_4 0 rfl ?_
  refine x_get C (v := vI (m 0 0 2)) f1 (T := TX8) rfl kX8_opens_1 2 (by decide) kX8_opens_2 rfl dX8_opens_5 ?_
  refine x_iload_n C dX8_opens_8 1 rfl ?_
  have f2 : h (am 3 0) = some (eI D 12 (m 3 0)) := hR.1 3 0 (lm0 (by decide))
  refine x_iast C f2 ⟨by omega, by omega⟩ (by decide) dX8_opens_9 (x_hn (fun h3 e4 => ?_))
  have f5 : h3 (am 3 0) = some (eI D 12 (fu (m 3 0) (Int.toNat (m 0 0 2)) p)) := by rw [e4]; exact hu_s
  refine x_aload_n C dX8_opens_10 0 rfl ?_
  have f6 : h3 (am 0 0) = some (eO 8 [vI (m 0 0 0), .ref (am 1 0), vI (m 0 0 2), .ref (am 3 0), .ref (am 4 0), .ref (am 5 0), .ref (am 6 0), .ref (am 7 0), .ref (am 8 0), .ref (am 9 0), .ref (am 10 0), .ref (am 11 0), .ref (am 12 0), .ref (am 13 0), vI (m 0 0 14), .ref (am 15 0), .ref (am 16 0), .ref (am 17 0), .ref (am 18 0), .ref (am 19 0), .ref (am 20 0), .ref (am 21 0), .ref (am 22 0), .ref (am 23 0), .ref (am 24 0), .ref (am 25 0), .ref (am 26 0), .ref (am 27 0), .ref (am 28 0), .ref (am 29 0), vI (((m 0 0 30).toNat : Nat) : Int), vI (m 0 0 31), vI (m 0 0 32), vI (((m 0 0 33).toNat : Nat) : Int), vI (m 0 0 34), .ref (am 35 0), .ref (am 36 0), .ref (am 37 0)]) := by rw [e4, hu_n (hR.ne (lm0 (by decide)) (lm0 (by decide)) (fun zz9 => absurd zz9.1 (by decide)))]; exact f1
  refine x_get C (v := .ref (am 5 0)) f6 (T := TX8) rfl kX8_opens_1 5 (by decide) kX8_opens_3 rfl dX8_opens_11 ?_
  refine x_aload_n C dX8_opens_14 0 rfl ?_
  refine x_get C (v := vI (m 0 0 2)) f6 (T := TX8) rfl kX8_opens_1 2 (by decide) kX8_opens_2 rfl dX8_opens_15 ?_
  refine x_iload_n C dX8_opens_18 2 rfl ?_
  have f7 : h (am 5 0) = some (eI D 12 (m 5 0)) := hR.1 5 0 (lm0 (by decide))
  have f8 : h3 (am 5 0) = some (eI D 12 (m 5 0)) := by rw [e4, hu_n (hR.ne (lm0 (by decide)) (lm0 (by decide)) (fun zz9 => absurd zz9.1 (by decide)))]; exact f7
  refine x_iast C f8 ⟨by omega, by omega⟩ (by decide) dX8_opens_19 (x_hn (fun h9 e10 => ?_))
  have f11 : h9 (am 5 0) = some (eI D 12 (fu (m 5 0) (Int.toNat (m 0 0 2)) z)) := by rw [e10]; exact hu_s
  refine x_aload_n C dX8_opens_20 0 rfl ?_
  have f12 : h9 (am 0 0) = some (eO 8 [vI (m 0 0 0), .ref (am 1 0), vI (m 0 0 2), .ref (am 3 0), .ref (am 4 0), .ref (am 5 0), .ref (am 6 0), .ref (am 7 0), .ref (am 8 0), .ref (am 9 0), .ref (am 10 0), .ref (am 11 0), .ref (am 12 0), .ref (am 13 0), vI (m 0 0 14), .ref (am 15 0), .ref (am 16 0), .ref (am 17 0), .ref (am 18 0), .ref (am 19 0), .ref (am 20 0), .ref (am 21 0), .ref (am 22 0), .ref (am 23 0), .ref (am 24 0), .ref (am 25 0), .ref (am 26 0), .ref (am 27 0), .ref (am 28 0), .ref (am 29 0), vI (((m 0 0 30).toNat : Nat) : Int), vI (m 0 0 31), vI (m 0 0 32), vI (((m 0 0 33).toNat : Nat) : Int), vI (m 0 0 34), .ref (am 35 0), .ref (am 36 0), .ref (am 37 0)]) := by rw [e10, hu_n (hR.ne (lm0 (by decide)) (lm0 (by decide)) (fun zz9 => absurd zz9.1 (by decide)))]; exact f6
  refine x_get C (v := .ref (am 6 0)) f12 (T := TX8) rfl kX8_opens_1 6 (by decide) kX8_opens_4 rfl dX8_opens_21 ?_
  refine x_aload_n C dX8_opens_24 0 rfl ?_
  refine x_get C (v := vI (m 0 0 2)) f12 (T := TX8) rfl kX8_opens_1 2 (by decide) kX8_opens_2 rfl dX8_opens_25 ?_
  refine x_bipush C dX8_opens_28 (-2) (by decide) ?_
  have f13 : h (am 6 0) = some (eI D 12 (m 6 0)) := hR.1 6 0 (lm0 (by decide))
  have f14 : h3 (am 6 0) = some (eI D 12 (m 6 0)) := by rw [e4, hu_n (hR.ne (lm0 (by decide)) (lm0 (by decide)) (fun zz9 => absurd zz9.1 (by decide)))]; exact f13
  have f15 : h9 (am 6 0) = some (eI D 12 (m 6 0)) := by rw [e10, hu_n (hR.ne (lm0 (by decide)) (lm0 (by decide)) (fun zz9 => absurd zz9.1 (by decide)))]; exact f14
  refine x_iast C f15 ⟨by omega, by omega⟩ (by decide) dX8_opens_30 (x_hn (fun h16 e17 => ?_))
  have f18 : h16 (am 6 0) = some (eI D 12 (fu (m 6 0) (Int.toNat (m 0 0 2)) ((-2)))) := by rw [e17]; exact hu_s
  refine x_aload_n C dX8_opens_31 0 rfl ?_
  have f19 : h16 (am 0 0) = some (eO 8 [vI (m 0 0 0), .ref (am 1 0), vI (m 0 0 2), .ref (am 3 0), .ref (am 4 0), .ref (am 5 0), .ref (am 6 0), .ref (am 7 0), .ref (am 8 0), .ref (am 9 0), .ref (am 10 0), .ref (am 11 0), .ref (am 12 0), .ref (am 13 0), vI (m 0 0 14), .ref (am 15 0), .ref (am 16 0), .ref (am 17 0), .ref (am 18 0), .ref (am 19 0), .ref (am 20 0), .ref (am 21 0), .ref (am 22 0), .ref (am 23 0), .ref (am 24 0), .ref (am 25 0), .ref (am 26 0), .ref (am 27 0), .ref (am 28 0), .ref (am 29 0), vI (((m 0 0 30).toNat : Nat) : Int), vI (m 0 0 31), vI (m 0 0 32), vI (((m 0 0 33).toNat : Nat) : Int), vI (m 0 0 34), .ref (am 35 0), .ref (am 36 0), .ref (am 37 0)]) := by rw [e17, hu_n (hR.ne (lm0 (by decide)) (lm0 (by decide)) (fun zz9 => absurd zz9.1 (by decide)))]; exact f12
  refine x_get C (v := .ref (am 7 0)) f19 (T := TX8) rfl kX8_opens_1 7 (by decide) kX8_opens_5 rfl dX8_opens_32 ?_
  refine x_aload_n C dX8_opens_35 0 rfl ?_
  refine x_get C (v := vI (m 0 0 2)) f19 (T := TX8) rfl kX8_opens_1 2 (by decide) kX8_opens_2 rfl dX8_opens_36 ?_
  refine x_iload_n C dX8_opens_39 3 rfl ?_
  have f20 : h (am 7 0) = some (eI D 12 (m 7 0)) := hR.1 7 0 (lm0 (by decide))
  have f21 : h3 (am 7 0) = some (eI D 12 (m 7 0)) := by rw [e4, hu_n (hR.ne (lm0 (by decide)) (lm0 (by decide)) (fun zz9 => absurd zz9.1 (by decide)))]; exact f20
  have f22 : h9 (am 7 0) = some (eI D 12 (m 7 0)) := by rw [e10, hu_n (hR.ne (lm0 (by decide)) (lm0 (by decide)) (fun zz9 => absurd zz9.1 (by decide)))]; exact f21
  have f23 : h16 (am 7 0) = some (eI D 12 (m 7 0)) := by rw [e17, hu_n (hR.ne (lm0 (by decide)) (lm0 (by decide)) (fun zz9 => absurd zz9.1 (by decide)))]; exact f22
  refine x_iast C f23 ⟨by omega, by omega⟩ (by decide) dX8_opens_40 (x_hn (fun h24 e25 => ?_))
  have f26 : h24 (am 7 0) = some (eI D 12 (fu (m 7 0) (Int.toNat (m 0 0 2)) o)) := by rw [e25]; exact hu_s
  refine x_aload_n C dX8_opens_41 0 rfl ?_
  refine x_dup C dX8_opens_42 rfl ?_
  have f27 : h24 (am 0 0) = some (eO 8 [vI (m 0 0 0), .ref (am 1 0), vI (m 0 0 2), .ref (am 3 0), .ref (am 4 0), .ref (am 5 0), .ref (am 6 0), .ref (am 7 0), .ref (am 8 0), .ref (am 9 0), .ref (am 10 0), .ref (am 11 0), .ref (am 12 0), .ref (am 13 0), vI (m 0 0 14), .ref (am 15 0), .ref (am 16 0), .ref (am 17 0), .ref (am 18 0), .ref (am 19 0), .ref (am 20 0), .ref (am 21 0), .ref (am 22 0), .ref (am 23 0), .ref (am 24 0), .ref (am 25 0), .ref (am 26 0), .ref (am 27 0), .ref (am 28 0), .ref (am 29 0), vI (((m 0 0 30).toNat : Nat) : Int), vI (m 0 0 31), vI (m 0 0 32), vI (((m 0 0 33).toNat : Nat) : Int), vI (m 0 0 34), .ref (am 35 0), .ref (am 36 0), .ref (am 37 0)]) := by rw [e25, hu_n (hR.ne (lm0 (by decide)) (lm0 (by decide)) (fun zz9 => absurd zz9.1 (by decide)))]; exact f19
  refine x_get C (v := vI (m 0 0 2)) f27 (T := TX8) rfl kX8_opens_1 2 (by decide) kX8_opens_2 rfl dX8_opens_43 ?_
  refine x_iconst C dX8_opens_46 1 (by decide) ?_
  refine x_iadd C dX8_opens_47 ?_
  refine x_put C f27 (T := TX8) rfl tyX8_ok nmX8 kX8_opens_1 2 (by decide) kX8_opens_2 rfl (fs' := [vI (m 0 0 0), .ref (am 1 0), vI ((m 0 0 2) + 1), .ref (am 3 0), .ref (am 4 0), .ref (am 5 0), .ref (am 6 0), .ref (am 7 0), .ref (am 8 0), .ref (am 9 0), .ref (am 10 0), .ref (am 11 0), .ref (am 12 0), .ref (am 13 0), vI (m 0 0 14), .ref (am 15 0), .ref (am 16 0), .ref (am 17 0), .ref (am 18 0), .ref (am 19 0), .ref (am 20 0), .ref (am 21 0), .ref (am 22 0), .ref (am 23 0), .ref (am 24 0), .ref (am 25 0), .ref (am 26 0), .ref (am 27 0), .ref (am 28 0), .ref (am 29 0), vI (((m 0 0 30).toNat : Nat) : Int), vI (m 0 0 31), vI (m 0 0 32), vI (((m 0 0 33).toNat : Nat) : Int), vI (m 0 0 34), .ref (am 35 0), .ref (am 36 0), .ref (am 37 0)]) rfl rfl (by simp) rfl dX8_opens_48 (x_hn (fun h28 e29 => ?_))
  have f30 : h28 (am 0 0) = some (eO 8 [vI (m 0 0 0), .ref (am 1 0), vI ((m 0 0 2) + 1), .ref (am 3 0), .ref (am 4 0), .ref (am 5 0), .ref (am 6 0), .ref (am 7 0), .ref (am 8 0), .ref (am 9 0), .ref (am 10 0), .ref (am 11 0), .ref (am 12 0), .ref (am 13 0), vI (m 0 0 14), .ref (am 15 0), .ref (am 16 0), .ref (am 17 0), .ref (am 18 0), .ref (am 19 0), .ref (am 20 0), .ref (am 21 0), .ref (am 22 0), .ref (am 23 0), .ref (am 24 0), .ref (am 25 0), .ref (am 26 0), .ref (am 27 0), .ref (am 28 0), .ref (am 29 0), vI (((m 0 0 30).toNat : Nat) : Int), vI (m 0 0 31), vI (m 0 0 32), vI (((m 0 0 33).toNat : Nat) : Int), vI (m 0 0 34), .ref (am 35 0), .ref (am 36 0), .ref (am 37 0)]) := by rw [e29]; exact hu_s
  refine x_aload_n C dX8_opens_51 0 rfl ?_
  refine x_get C (v := vI ((m 0 0 2) + 1)) f30 (T := TX8) rfl kX8_opens_1 2 (by decide) kX8_opens_2 rfl dX8_opens_52 ?_
  refine x_iconst C dX8_opens_55 1 (by decide) ?_
  refine x_isub C dX8_opens_56 ?_
  refine x_topv (show ((m 0 0 2) + 1) - 1 = m 0 0 2 from by omega) ?_
  refine x_iret C G dX8_opens_57 ?_ (by decide) (by decide)
  have cp31 : MP D am h (cu (cu (cu (cu (cu m 3 0 (fu (m 3 0) (Int.toNat (m 0 0 2)) p)) 5 0 (fu (m 5 0) (Int.toNat (m 0 0 2)) z)) 6 0 (fu (m 6 0) (Int.toNat (m 0 0 2)) ((-2)))) 7 0 (fu (m 7 0) (Int.toNat (m 0 0 2)) o)) 0 0 ((fu (m 0 0) 2 ((m 0 0 2) + 1)))) h28 := by rw [e29, e25, e17, e10, e4]; exact (MP.up (MP.up (MP.up (MP.up (MP.up (MP.rf hR) (lm0 (by decide)) (fu (m 3 0) (Int.toNat (m 0 0 2)) p) rfl) (lm0 (by decide)) (fu (m 5 0) (Int.toNat (m 0 0 2)) z) rfl) (lm0 (by decide)) (fu (m 6 0) (Int.toNat (m 0 0 2)) ((-2))) rfl) (lm0 (by decide)) (fu (m 7 0) (Int.toNat (m 0 0 2)) o) rfl) (lm0 (by decide)) ((fu (m 0 0) 2 ((m 0 0 2) + 1))) rfl)
  exact ⟨rfl, cp31⟩

theorem kX8_begin_0 : Cond.fieldLink "LedgeLevelsModel" 101 "LedgeLevelsModel" "thrown" "I" ∈ wsX8_begin := by decide +kernel
theorem kX8_begin_1 : ∀ w ∈ wsX80, w ∈ wsX8_begin := by decide +kernel
theorem kX8_begin_2 : Cond.fieldLink "LedgeLevelsModel" 109 "LedgeLevelsModel" "levels" "I" ∈ wsX8_begin := by decide +kernel
theorem kX8_begin_3 : Cond.fieldLink "LedgeLevelsModel" 16 "LedgeLevelsModel" "grid" "[I" ∈ wsX8_begin := by decide +kernel
set_option maxRecDepth 100000 in
set_option maxHeartbeats 4000000 in
theorem c_X8_begin {l : Launch} {D : va_G} {A : Nat → Prop} {h : vh} {am : AD} {m : CS} {p : Int}  (hR : RepM D am m h) (hM1 : Mk1 m) (hi_p : -2147483648 ≤ p ∧ p ≤ 2147483647) : MX l D A yX8_begin wsX8_begin { frames := 2, cells := 0, slots := 0, locals := 42 } [.ref (am 0 0), vI p] h (fun rv h' => ∃ (r : Int) (m1 : CS), rv = some (vI r) ∧ MP D am h (m1) h' ∧ ((m1 0 0 0 = 1 ∧ (¬ (0 ≤ p ∧ p < 6)) ∧ SM m m1) ∨ (m1 0 0 0 = 2 ∧ ((0 ≤ p ∧ p < 6) ∧ m 0 0 2 = 12) ∧ SM m m1) ∨ (m1 0 0 0 = 0 ∧ ((0 ≤ p ∧ p < 6) ∧ m 0 0 2 < 12) ∧ r = m 0 0 2 ∧ SM (opN (cu m 4 0 (rowG (m 4 0) (96 * (m 0 0 2).toNat) (fun j => if j < 84 then 0 else 1) 96)) p 72 (-1)) m1))) := by
  refine MX.of (cc := cX8_begin) (maxL := 3) (ret := (some .int)) [(0, .ref (am 0 0)), (1, vI p)] (by decide +kernel) rfl rfl (Nat.le_of_ble_eq_true rfl) ?_
  intro κ C hkl G
  subst hkl
  have C : CX κ "LedgeLevelsModel" "begin" cX8_begin wsX8_begin { frames := 2, cells := 0, slots := 0, locals := 42 } D A 3 := C
  have hiz : nq (D.1 20) (D.1 21) := cx_iz C
  obtain ⟨hM1a, hM1b⟩ := id hM1
  refine x_aload_n C dX8_begin_0 0 rfl ?_
  refine x_iconst C dX8_begin_1 0 (by decide) ?_
  have f1 : h (am 0 0) = some (eO 8 [vI (m 0 0 0), .ref (am 1 0), vI (m 0 0 2), .ref (am 3 0), .ref (am 4 0), .ref (am 5 0), .ref (am 6 0), .ref (am 7 0), .ref (am 8 0), .ref (am 9 0), .ref (am 10 0), .ref (am 11 0), .ref (am 12 0), .ref (am 13 0), vI (m 0 0 14), .ref (am 15 0), .ref (am 16 0), .ref (am 17 0), .ref (am 18 0), .ref (am 19 0), .ref (am 20 0), .ref (am 21 0), .ref (am 22 0), .ref (am 23 0), .ref (am 24 0), .ref (am 25 0), .ref (am 26 0), .ref (am 27 0), .ref (am 28 0), .ref (am 29 0), vI (((m 0 0 30).toNat : Nat) : Int), vI (m 0 0 31), vI (m 0 0 32), vI (((m 0 0 33).toNat : Nat) : Int), vI (m 0 0 34), .ref (am 35 0), .ref (am 36 0), .ref (am 37 0)]) := hR.1 0 0 (lm0 (by decide))
  refine x_put C f1 (T := TX8) rfl tyX8_ok nmX8 kX8_begin_1 0 (by decide) kX8_begin_0 rfl (fs' := [vI 0, .ref (am 1 0), vI (m 0 0 2), .ref (am 3 0), .ref (am 4 0), .ref (am 5 0), .ref (am 6 0), .ref (am 7 0), .ref (am 8 0), .ref (am 9 0), .ref (am 10 0), .ref (am 11 0), .ref (am 12 0), .ref (am 13 0), vI (m 0 0 14), .ref (am 15 0), .ref (am 16 0), .ref (am 17 0), .ref (am 18 0), .ref (am 19 0), .ref (am 20 0), .ref (am 21 0), .ref (am 22 0), .ref (am 23 0), .ref (am 24 0), .ref (am 25 0), .ref (am 26 0), .ref (am 27 0), .ref (am 28 0), .ref (am 29 0), vI (((m 0 0 30).toNat : Nat) : Int), vI (m 0 0 31), vI (m 0 0 32), vI (((m 0 0 33).toNat : Nat) : Int), vI (m 0 0 34), .ref (am 35 0), .ref (am 36 0), .ref (am 37 0)]) rfl rfl (by simp) rfl dX8_begin_2 (x_hn (fun h2 e3 => ?_))
  have f4 : h2 (am 0 0) = some (eO 8 [vI 0, .ref (am 1 0), vI (m 0 0 2), .ref (am 3 0), .ref (am 4 0), .ref (am 5 0), .ref (am 6 0), .ref (am 7 0), .ref (am 8 0), .ref (am 9 0), .ref (am 10 0), .ref (am 11 0), .ref (am 12 0), .ref (am 13 0), vI (m 0 0 14), .ref (am 15 0), .ref (am 16 0), .ref (am 17 0), .ref (am 18 0), .ref (am 19 0), .ref (am 20 0), .ref (am 21 0), .ref (am 22 0), .ref (am 23 0), .ref (am 24 0), .ref (am 25 0), .ref (am 26 0), .ref (am 27 0), .ref (am 28 0), .ref (am 29 0), vI (((m 0 0 30).toNat : Nat) : Int), vI (m 0 0 31), vI (m 0 0 32), vI (((m 0 0 33).toNat : Nat) : Int), vI (m 0 0 34), .ref (am 35 0), .ref (am 36 0), .ref (am 37 0)]) := by rw [e3]; exact hu_s
  refine x_iload_n C dX8_begin_5 1 rfl ?_
  refine x_callS C (n := 1) (As := [vI p]) (rest := []) (c_X8_isPerson (by omega)) gX8_begin_X8_isPerson (by decide +kernel) rfl rfl rfl (Nat.le_of_ble_eq_true rfl) ⟨by decide, by decide⟩ ⟨(by decide), (by decide)⟩ dX8_begin_6 (fun rv6 h7 hp8 => ?_)
  obtain ⟨rfl, e9⟩ := hp8
  obtain rfl := e9.symm
  have hbr5 := bI_cs ((0 ≤ p ∧ p ≤ 5))
  refine x_if_ne (tgt := 18) C dX8_begin_9 (by decide) (by omega) (fun c10 => ?_) (fun c10 => ?_)
  · skip
    refine x_aload_n C dX8_begin_18 0 rfl ?_
    refine x_get C (v := vI (m 0 0 2)) f4 (T := TX8) rfl kX8_begin_1 2 (by decide) kX8_begin_2 rfl dX8_begin_19 ?_
    refine x_bipush C dX8_begin_22 12 (by decide) ?_
    refine x_icmp_ne (tgt := 33) C dX8_begin_24 (by decide) (by omega) (by omega) (fun c11 => ?_) (fun c11 => ?_)
    · skip
      refine x_iconst C dX8_begin_33 0 (by decide) ?_
      refine x_istore_n C (ls' := [(0, .ref (am 0 0)), (1, vI p), (2, vI 0)]) dX8_begin_34 (by decide) rfl ?_
      have LP : ∀ (N : Nat) (n : Nat) (h12 : vh)   (hn : n ≤ 96) (hN : 96 - n < N) (hp9 : 0 ≤ p ∧ p < 6) (hl9 : m 0 0 2 < 12) (hcp : MP D am h (cu (cu m 0 0 (fu (m 0 0) 0 0)) 4 0 (rowG (m 4 0) (96 * (m 0 0 2).toNat) (fun j => if j < 84 then 0 else 1) n)) h12), X κ 0 0 h12 [(0, .ref (am 0 0)), (1, vI p), (2, vI ((n : Nat) : Int))] 35 [] := by
        intro N
        induction N with
        | zero => intro n h12 hn hN hp9 hl9 hcp; exfalso; omega
        | succ N ihLP =>
          intro n h12 hn hN hp9 hl9 hcp
          refine x_iload_n C dX8_begin_35 2 rfl ?_
          refine x_bipush C dX8_begin_36 96 (by decide) ?_
          refine x_icmp_ge (tgt := 72) C dX8_begin_38 (by decide) (by omega) (by omega) (fun c13 => ?_) (fun c13 => ?_)
          · skip
            have hL9 : 0 ≤ m 0 0 2 ∧ m 0 0 2 < 12 := ⟨by omega, hl9⟩
            have hn96 : n = 96 := by omega
            refine x_aload_n C dX8_begin_72 0 rfl ?_
            refine x_iload_n C dX8_begin_73 1 rfl ?_
            refine x_bipush C dX8_begin_74 72 (by decide) ?_
            refine x_iconst C dX8_begin_76 (-1) (by decide) ?_
            have f14 : h12 (am 0 0) = some (eO 8 [vI (((cu (cu m 0 0 (fu (m 0 0) 0 0)) 4 0 (rowG (m 4 0) (96 * (m 0 0 2).toNat) (fun j => if j < 84 then 0 else 1) n)) 0 0) 0), .ref (am 1 0), vI (((cu (cu m 0 0 (fu (m 0 0) 0 0)) 4 0 (rowG (m 4 0) (96 * (m 0 0 2).toNat) (fun j => if j < 84 then 0 else 1) n)) 0 0) 2), .ref (am 3 0), .ref (am 4 0), .ref (am 5 0), .ref (am 6 0), .ref (am 7 0), .ref (am 8 0), .ref (am 9 0), .ref (am 10 0), .ref (am 11 0), .ref (am 12 0), .ref (am 13 0), vI (((cu (cu m 0 0 (fu (m 0 0) 0 0)) 4 0 (rowG (m 4 0) (96 * (m 0 0 2).toNat) (fun j => if j < 84 then 0 else 1) n)) 0 0) 14), .ref (am 15 0), .ref (am 16 0), .ref (am 17 0), .ref (am 18 0), .ref (am 19 0), .ref (am 20 0), .ref (am 21 0), .ref (am 22 0), .ref (am 23 0), .ref (am 24 0), .ref (am 25 0), .ref (am 26 0), .ref (am 27 0), .ref (am 28 0), .ref (am 29 0), vI (((((cu (cu m 0 0 (fu (m 0 0) 0 0)) 4 0 (rowG (m 4 0) (96 * (m 0 0 2).toNat) (fun j => if j < 84 then 0 else 1) n)) 0 0) 30).toNat : Nat) : Int), vI (((cu (cu m 0 0 (fu (m 0 0) 0 0)) 4 0 (rowG (m 4 0) (96 * (m 0 0 2).toNat) (fun j => if j < 84 then 0 else 1) n)) 0 0) 31), vI (((cu (cu m 0 0 (fu (m 0 0) 0 0)) 4 0 (rowG (m 4 0) (96 * (m 0 0 2).toNat) (fun j => if j < 84 then 0 else 1) n)) 0 0) 32), vI (((((cu (cu m 0 0 (fu (m 0 0) 0 0)) 4 0 (rowG (m 4 0) (96 * (m 0 0 2).toNat) (fun j => if j < 84 then 0 else 1) n)) 0 0) 33).toNat : Nat) : Int), vI (((cu (cu m 0 0 (fu (m 0 0) 0 0)) 4 0 (rowG (m 4 0) (96 * (m 0 0 2).toNat) (fun j => if j < 84 then 0 else 1) n)) 0 0) 34), .ref (am 35 0), .ref (am 36 0), .ref (am 37 0)]) := hcp.1.1 0 0 (lm0 (by decide))
            refine x_callV C (n := 3) (qc := (RX8, TX8, 38)) (As := [vI p, vI 72, vI (-1)]) (rest := []) (c_X8_opens (hcp.1) (hL9)) gX8_begin_X8_opens (by decide +kernel) f14 rfl rfl rfl rfl (Nat.le_of_ble_eq_true rfl) ⟨by decide, by decide⟩ ⟨(by decide), (by decide)⟩ dX8_begin_77 (fun rv15 h16 hp17 => ?_)
            obtain ⟨rfl, cp19⟩ := hp17
            have cp20 : MP D am h (opN ((cu (cu m 0 0 (fu (m 0 0) 0 0)) 4 0 (rowG (m 4 0) (96 * (m 0 0 2).toNat) (fun j => if j < 84 then 0 else 1) n))) p 72 ((-1))) h16 := MP.trans hcp cp19
            refine x_iret C G dX8_begin_80 ?_ (by decide) (by decide)
            exact ⟨_, _, rfl, cp20, Or.inr (Or.inr ⟨rfl, by omega, rfl, by rw [hn96]; exact SM.op (SM.up9 (by decide) rfl (SM.th SM.rf))⟩)⟩
          · skip
            refine x_aload_n C dX8_begin_41 0 rfl ?_
            have f21 : h12 (am 0 0) = some (eO 8 [vI (((cu (cu m 0 0 (fu (m 0 0) 0 0)) 4 0 (rowG (m 4 0) (96 * (m 0 0 2).toNat) (fun j => if j < 84 then 0 else 1) n)) 0 0) 0), .ref (am 1 0), vI (((cu (cu m 0 0 (fu (m 0 0) 0 0)) 4 0 (rowG (m 4 0) (96 * (m 0 0 2).toNat) (fun j => if j < 84 then 0 else 1) n)) 0 0) 2), .ref (am 3 0), .ref (am 4 0), .ref (am 5 0), .ref (am 6 0), .ref (am 7 0), .ref (am 8 0), .ref (am 9 0), .ref (am 10 0), .ref (am 11 0), .ref (am 12 0), .ref (am 13 0), vI (((cu (cu m 0 0 (fu (m 0 0) 0 0)) 4 0 (rowG (m 4 0) (96 * (m 0 0 2).toNat) (fun j => if j < 84 then 0 else 1) n)) 0 0) 14), .ref (am 15 0), .ref (am 16 0), .ref (am 17 0), .ref (am 18 0), .ref (am 19 0), .ref (am 20 0), .ref (am 21 0), .ref (am 22 0), .ref (am 23 0), .ref (am 24 0), .ref (am 25 0), .ref (am 26 0), .ref (am 27 0), .ref (am 28 0), .ref (am 29 0), vI (((((cu (cu m 0 0 (fu (m 0 0) 0 0)) 4 0 (rowG (m 4 0) (96 * (m 0 0 2).toNat) (fun j => if j < 84 then 0 else 1) n)) 0 0) 30).toNat : Nat) : Int), vI (((cu (cu m 0 0 (fu (m 0 0) 0 0)) 4 0 (rowG (m 4 0) (96 * (m 0 0 2).toNat) (fun j => if j < 84 then 0 else 1) n)) 0 0) 31), vI (((cu (cu m 0 0 (fu (m 0 0) 0 0)) 4 0 (rowG (m 4 0) (96 * (m 0 0 2).toNat) (fun j => if j < 84 then 0 else 1) n)) 0 0) 32), vI (((((cu (cu m 0 0 (fu (m 0 0) 0 0)) 4 0 (rowG (m 4 0) (96 * (m 0 0 2).toNat) (fun j => if j < 84 then 0 else 1) n)) 0 0) 33).toNat : Nat) : Int), vI (((cu (cu m 0 0 (fu (m 0 0) 0 0)) 4 0 (rowG (m 4 0) (96 * (m 0 0 2).toNat) (fun j => if j < 84 then 0 else 1) n)) 0 0) 34), .ref (am 35 0), .ref (am 36 0), .ref (am 37 0)]) := hcp.1.1 0 0 (lm0 (by decide))
            refine x_get C (v := .ref (am 4 0)) f21 (T := TX8) rfl kX8_begin_1 4 (by decide) kX8_begin_3 rfl dX8_begin_42 ?_
            refine x_bipush C dX8_begin_45 96 (by decide) ?_
            refine x_aload_n C dX8_begin_47 0 rfl ?_
            refine x_get C (v := vI (((cu (cu m 0 0 (fu (m 0 0) 0 0)) 4 0 (rowG (m 4 0) (96 * (m 0 0 2).toNat) (fun j => if j < 84 then 0 else 1) n)) 0 0) 2)) f21 (T := TX8) rfl kX8_begin_1 2 (by decide) kX8_begin_2 rfl dX8_begin_48 ?_
            refine x_topv (show ((cu (cu m 0 0 (fu (m 0 0) 0 0)) 4 0 (rowG (m 4 0) (96 * (m 0 0 2).toNat) (fun j => if j < 84 then 0 else 1) n)) 0 0) 2 = m 0 0 2 from by rfl) ?_
            refine x_imul C dX8_begin_51 ?_
            refine x_iload_n C dX8_begin_52 2 rfl ?_
            refine x_iadd C dX8_begin_53 ?_
            refine x_iload_n C dX8_begin_54 2 rfl ?_
            refine x_bipush C dX8_begin_55 84 (by decide) ?_
            refine x_icmp_ge (tgt := 64) C dX8_begin_57 (by decide) (by omega) (by omega) (fun c22 => ?_) (fun c22 => ?_)
            · skip
              refine x_iconst C dX8_begin_64 1 (by decide) ?_
              have f23 : h12 (am 4 0) = some (eI D 1152 (((cu (cu m 0 0 (fu (m 0 0) 0 0)) 4 0 (rowG (m 4 0) (96 * (m 0 0 2).toNat) (fun j => if j < 84 then 0 else 1) n)) 4 0))) := hcp.1.1 4 0 (lm0 (by decide))
              refine x_iast C f23 ⟨by omega, by omega⟩ (by decide) dX8_begin_65 (x_hn (fun h24 e25 => ?_))
              have f26 : h24 (am 4 0) = some (eI D 1152 (fu (((cu (cu m 0 0 (fu (m 0 0) 0 0)) 4 0 (rowG (m 4 0) (96 * (m 0 0 2).toNat) (fun j => if j < 84 then 0 else 1) n)) 4 0)) (Int.toNat ((96 * (m 0 0 2)) + (((n : Nat) : Int)))) 1)) := by rw [e25]; exact hu_s
              refine x_iinc C (x := ((n : Nat) : Int)) (ls' := [(0, .ref (am 0 0)), (1, vI p), (2, vI ((((n : Nat) : Int)) + 1))]) dX8_begin_66 2 rfl (by decide) rfl ?_
              refine x_goto (tgt := 35) C dX8_begin_69 (by decide) ?_
              have cp27 : MP D am h (cu (cu (cu m 0 0 (fu (m 0 0) 0 0)) 4 0 (rowG (m 4 0) (96 * (m 0 0 2).toNat) (fun j => if j < 84 then 0 else 1) n)) 4 0 (fu (((cu (cu m 0 0 (fu (m 0 0) 0 0)) 4 0 (rowG (m 4 0) (96 * (m 0 0 2).toNat) (fun j => if j < 84 then 0 else 1) n)) 4 0)) (Int.toNat ((96 * (m 0 0 2)) + (((n : Nat) : Int)))) 1)) h24 := by rw [e25]; exact (MP.up hcp (lm0 (by decide)) (fu (((cu (cu m 0 0 (fu (m 0 0) 0 0)) 4 0 (rowG (m 4 0) (96 * (m 0 0 2).toNat) (fun j => if j < 84 then 0 else 1) n)) 4 0)) (Int.toNat ((96 * (m 0 0 2)) + (((n : Nat) : Int)))) 1) rfl)
              exact ihLP (n + 1) h24 (by omega) (by omega) (by omega) (by omega) (by have q9 := cp27; rw [cu_u] at q9; (try rw [cu_s] at q9); have q8 := rowG_s (g := m 4 0) (b := 96 * (m 0 0 2).toNat) (f := (fun j => if j < 84 then 0 else 1)) (n := n); (first | rw [show Int.toNat (96 * m 0 0 2 + ((n : Nat) : Int)) = 96 * (m 0 0 2).toNat + n by omega] at q9 | skip); (rw [← q8]; first | (rw [if_pos (show n < 84 by omega)]; exact q9) | (rw [if_neg (show ¬ n < 84 by omega)]; exact q9)))
            · skip
              refine x_iconst C dX8_begin_60 0 (by decide) ?_
              refine x_goto (tgt := 65) C dX8_begin_61 (by decide) ?_
              have f28 : h12 (am 4 0) = some (eI D 1152 (((cu (cu m 0 0 (fu (m 0 0) 0 0)) 4 0 (rowG (m 4 0) (96 * (m 0 0 2).toNat) (fun j => if j < 84 then 0 else 1) n)) 4 0))) := hcp.1.1 4 0 (lm0 (by decide))
              refine x_iast C f28 ⟨by omega, by omega⟩ (by decide) dX8_begin_65 (x_hn (fun h29 e30 => ?_))
              have f31 : h29 (am 4 0) = some (eI D 1152 (fu (((cu (cu m 0 0 (fu (m 0 0) 0 0)) 4 0 (rowG (m 4 0) (96 * (m 0 0 2).toNat) (fun j => if j < 84 then 0 else 1) n)) 4 0)) (Int.toNat ((96 * (m 0 0 2)) + (((n : Nat) : Int)))) 0)) := by rw [e30]; exact hu_s
              refine x_iinc C (x := ((n : Nat) : Int)) (ls' := [(0, .ref (am 0 0)), (1, vI p), (2, vI ((((n : Nat) : Int)) + 1))]) dX8_begin_66 2 rfl (by decide) rfl ?_
              refine x_goto (tgt := 35) C dX8_begin_69 (by decide) ?_
              have cp32 : MP D am h (cu (cu (cu m 0 0 (fu (m 0 0) 0 0)) 4 0 (rowG (m 4 0) (96 * (m 0 0 2).toNat) (fun j => if j < 84 then 0 else 1) n)) 4 0 (fu (((cu (cu m 0 0 (fu (m 0 0) 0 0)) 4 0 (rowG (m 4 0) (96 * (m 0 0 2).toNat) (fun j => if j < 84 then 0 else 1) n)) 4 0)) (Int.toNat ((96 * (m 0 0 2)) + (((n : Nat) : Int)))) 0)) h29 := by rw [e30]; exact (MP.up hcp (lm0 (by decide)) (fu (((cu (cu m 0 0 (fu (m 0 0) 0 0)) 4 0 (rowG (m 4 0) (96 * (m 0 0 2).toNat) (fun j => if j < 84 then 0 else 1) n)) 4 0)) (Int.toNat ((96 * (m 0 0 2)) + (((n : Nat) : Int)))) 0) rfl)
              exact ihLP (n + 1) h29 (by omega) (by omega) (by omega) (by omega) (by have q9 := cp32; rw [cu_u] at q9; (try rw [cu_s] at q9); have q8 := rowG_s (g := m 4 0) (b := 96 * (m 0 0 2).toNat) (f := (fun j => if j < 84 then 0 else 1)) (n := n); (first | rw [show Int.toNat (96 * m 0 0 2 + ((n : Nat) : Int)) = 96 * (m 0 0 2).toNat + n by omega] at q9 | skip); (rw [← q8]; first | (rw [if_pos (show n < 84 by omega)]; exact q9) | (rw [if_neg (show ¬ n < 84 by omega)]; exact q9)))
      have cp33 : MP D am h (cu m 0 0 ((fu (m 0 0) 0 0))) h2 := by rw [e3]; exact (MP.up (MP.rf hR) (lm0 (by decide)) ((fu (m 0 0) 0 0)) rfl)
      exact LP (97) 0 h2 (by omega) (by omega) (by omega) (by omega) (by rw [rowG_0, cu_id (m := cu m 0 0 (fu (m 0 0) 0 0)) (k := 4) (f := m 4 0) rfl]; exact cp33)
    · skip
      refine x_aload_n C dX8_begin_27 0 rfl ?_
      refine x_iconst C dX8_begin_28 2 (by decide) ?_
      have cp34 : MP D am h (cu m 0 0 ((fu (m 0 0) 0 0))) h2 := by rw [e3]; exact (MP.up (MP.rf hR) (lm0 (by decide)) ((fu (m 0 0) 0 0)) rfl)
      refine x_callV C (n := 1) (qc := (RX8, TX8, 38)) (As := [vI 2]) (rest := []) (c_X8_fails (cp34.1)) gX8_begin_X8_fails (by decide +kernel) f4 rfl rfl rfl rfl (Nat.le_of_ble_eq_true rfl) ⟨by decide, by decide⟩ ⟨(by decide), (by decide)⟩ dX8_begin_29 (fun rv35 h36 hp37 => ?_)
      obtain ⟨rfl, cp39⟩ := hp37
      have cp40 : MP D am h ((cu ((cu m 0 0 ((fu (m 0 0) 0 0)))) 0 0 ((fu (((cu m 0 0 ((fu (m 0 0) 0 0)))) 0 0) 0 2)))) h36 := MP.trans cp34 cp39
      refine x_iret C G dX8_begin_32 ?_ (by decide) (by decide)
      first
        | exact ⟨_, _, rfl, cp40, Or.inl (⟨rfl, by omega, (by repeat (first | exact SM.rf | refine SM.th ?_ | refine SM.o2 ?_ | refine SM.o14 ?_ | refine SM.sr ?_ | refine SM.ly (by assumption) (by assumption) ?_ | refine SM.bm ?_ | refine SM.st ?_ | refine SM.mv ?_ | refine SM.up (by decide) ?_))⟩)⟩
        | exact ⟨_, _, rfl, cp40, Or.inr (Or.inl (⟨rfl, by omega, (by repeat (first | exact SM.rf | refine SM.th ?_ | refine SM.o2 ?_ | refine SM.o14 ?_ | refine SM.sr ?_ | refine SM.ly (by assumption) (by assumption) ?_ | refine SM.bm ?_ | refine SM.st ?_ | refine SM.mv ?_ | refine SM.up (by decide) ?_))⟩))⟩
        | exact ⟨_, _, rfl, cp40, Or.inr (Or.inr (⟨rfl, by omega, by first | rfl | omega, (by repeat (first | exact SM.rf | refine SM.th ?_ | refine SM.o2 ?_ | refine SM.o14 ?_ | refine SM.sr ?_ | refine SM.ly (by assumption) (by assumption) ?_ | refine SM.bm ?_ | refine SM.st ?_ | refine SM.mv ?_ | refine SM.up (by decide) ?_))⟩))⟩
  · skip
    refine x_aload_n C dX8_begin_12 0 rfl ?_
    refine x_iconst C dX8_begin_13 1 (by decide) ?_
    have cp41 : MP D am h (cu m 0 0 ((fu (m 0 0) 0 0))) h2 := by rw [e3]; exact (MP.up (MP.rf hR) (lm0 (by decide)) ((fu (m 0 0) 0 0)) rfl)
    refine x_callV C (n := 1) (qc := (RX8, TX8, 38)) (As := [vI 1]) (rest := []) (c_X8_fails (cp41.1)) gX8_begin_X8_fails (by decide +kernel) f4 rfl rfl rfl rfl (Nat.le_of_ble_eq_true rfl) ⟨by decide, by decide⟩ ⟨(by decide), (by decide)⟩ dX8_begin_14 (fun rv42 h43 hp44 => ?_)
    obtain ⟨rfl, cp46⟩ := hp44
    have cp47 : MP D am h ((cu ((cu m 0 0 ((fu (m 0 0) 0 0)))) 0 0 ((fu (((cu m 0 0 ((fu (m 0 0) 0 0)))) 0 0) 0 1)))) h43 := MP.trans cp41 cp46
    refine x_iret C G dX8_begin_17 ?_ (by decide) (by decide)
    first
      | exact ⟨_, _, rfl, cp47, Or.inl (⟨rfl, by omega, (by repeat (first | exact SM.rf | refine SM.th ?_ | refine SM.o2 ?_ | refine SM.o14 ?_ | refine SM.sr ?_ | refine SM.ly (by assumption) (by assumption) ?_ | refine SM.bm ?_ | refine SM.st ?_ | refine SM.mv ?_ | refine SM.up (by decide) ?_))⟩)⟩
      | exact ⟨_, _, rfl, cp47, Or.inr (Or.inl (⟨rfl, by omega, (by repeat (first | exact SM.rf | refine SM.th ?_ | refine SM.o2 ?_ | refine SM.o14 ?_ | refine SM.sr ?_ | refine SM.ly (by assumption) (by assumption) ?_ | refine SM.bm ?_ | refine SM.st ?_ | refine SM.mv ?_ | refine SM.up (by decide) ?_))⟩))⟩
      | exact ⟨_, _, rfl, cp47, Or.inr (Or.inr (⟨rfl, by omega, by first | rfl | omega, (by repeat (first | exact SM.rf | refine SM.th ?_ | refine SM.o2 ?_ | refine SM.o14 ?_ | refine SM.sr ?_ | refine SM.ly (by assumption) (by assumption) ?_ | refine SM.bm ?_ | refine SM.st ?_ | refine SM.mv ?_ | refine SM.up (by decide) ?_))⟩))⟩

theorem kX8_copy_0 : Cond.fieldLink "LedgeLevelsModel" 101 "LedgeLevelsModel" "thrown" "I" ∈ wsX8_copy := by decide +kernel
theorem kX8_copy_1 : ∀ w ∈ wsX80, w ∈ wsX8_copy := by decide +kernel
theorem kX8_copy_2 : Cond.fieldLink "LedgeLevelsModel" 55 "LedgeLevelsModel" "best" "[I" ∈ wsX8_copy := by decide +kernel
theorem kX8_copy_3 : Cond.fieldLink "LedgeLevelsModel" 109 "LedgeLevelsModel" "levels" "I" ∈ wsX8_copy := by decide +kernel
theorem kX8_copy_4 : Cond.fieldLink "LedgeLevelsModel" 52 "LedgeLevelsModel" "from" "[I" ∈ wsX8_copy := by decide +kernel
theorem kX8_copy_5 : Cond.fieldLink "LedgeLevelsModel" 16 "LedgeLevelsModel" "grid" "[I" ∈ wsX8_copy := by decide +kernel
theorem kX8_copy_6 : Cond.fieldLink "LedgeLevelsModel" 49 "LedgeLevelsModel" "shape" "[I" ∈ wsX8_copy := by decide +kernel
set_option maxRecDepth 100000 in
set_option maxHeartbeats 4000000 in
theorem c_X8_copy {l : Launch} {D : va_G} {A : Nat → Prop} {h : vh} {am : AD} {m : CS} {u p : Int}  (hR : RepM D am m h) (hM1 : Mk1 m) (hi_u : -2147483648 ≤ u ∧ u ≤ 2147483647) (hi_p : -2147483648 ≤ p ∧ p ≤ 2147483647) (hbst : ∀ j : Nat, (j : Int) < m 0 0 14 → -1 ≤ m 18 0 j ∧ m 18 0 j ≤ 7000) : MX l D A yX8_copy wsX8_copy { frames := 2, cells := 0, slots := 0, locals := 43 } [.ref (am 0 0), vI u, vI p] h (fun rv h' => ∃ (r : Int) (m1 : CS), rv = some (vI r) ∧ MP D am h (m1) h' ∧ ((m1 0 0 0 = 1 ∧ (¬ (0 ≤ u ∧ u < m 0 0 14) ∨ ¬ (0 ≤ p ∧ p < 6)) ∧ SM m m1) ∨ (m1 0 0 0 = 2 ∧ ((0 ≤ u ∧ u < m 0 0 14) ∧ (0 ≤ p ∧ p < 6) ∧ (m 18 0 u.toNat = -1 ∨ m 0 0 2 = 12)) ∧ SM m m1) ∨ (m1 0 0 0 = 0 ∧ ((0 ≤ u ∧ u < m 0 0 14) ∧ (0 ≤ p ∧ p < 6) ∧ m 18 0 u.toNat ≠ -1 ∧ m 0 0 2 < 12) ∧ r = m 0 0 2 ∧ SM (opN (cu m 4 0 (rowG (m 4 0) (96 * (m 0 0 2).toNat) (fun j => m 16 0 (96 * u.toNat + j)) 96)) p (m 17 0 u.toNat) u) m1))) := by
  refine MX.of (cc := cX8_copy) (maxL := 4) (ret := (some .int)) [(0, .ref (am 0 0)), (1, vI u), (2, vI p)] (by decide +kernel) rfl rfl (Nat.le_of_ble_eq_true rfl) ?_
  intro κ C hkl G
  subst hkl
  have C : CX κ "LedgeLevelsModel" "copy" cX8_copy wsX8_copy { frames := 2, cells := 0, slots := 0, locals := 43 } D A 4 := C
  have hiz : nq (D.1 20) (D.1 21) := cx_iz C
  obtain ⟨hM1a, hM1b⟩ := id hM1
  refine x_aload_n C dX8_copy_0 0 rfl ?_
  refine x_iconst C dX8_copy_1 0 (by decide) ?_
  have f1 : h (am 0 0) = some (eO 8 [vI (m 0 0 0), .ref (am 1 0), vI (m 0 0 2), .ref (am 3 0), .ref (am 4 0), .ref (am 5 0), .ref (am 6 0), .ref (am 7 0), .ref (am 8 0), .ref (am 9 0), .ref (am 10 0), .ref (am 11 0), .ref (am 12 0), .ref (am 13 0), vI (m 0 0 14), .ref (am 15 0), .ref (am 16 0), .ref (am 17 0), .ref (am 18 0), .ref (am 19 0), .ref (am 20 0), .ref (am 21 0), .ref (am 22 0), .ref (am 23 0), .ref (am 24 0), .ref (am 25 0), .ref (am 26 0), .ref (am 27 0), .ref (am 28 0), .ref (am 29 0), vI (((m 0 0 30).toNat : Nat) : Int), vI (m 0 0 31), vI (m 0 0 32), vI (((m 0 0 33).toNat : Nat) : Int), vI (m 0 0 34), .ref (am 35 0), .ref (am 36 0), .ref (am 37 0)]) := hR.1 0 0 (lm0 (by decide))
  refine x_put C f1 (T := TX8) rfl tyX8_ok nmX8 kX8_copy_1 0 (by decide) kX8_copy_0 rfl (fs' := [vI 0, .ref (am 1 0), vI (m 0 0 2), .ref (am 3 0), .ref (am 4 0), .ref (am 5 0), .ref (am 6 0), .ref (am 7 0), .ref (am 8 0), .ref (am 9 0), .ref (am 10 0), .ref (am 11 0), .ref (am 12 0), .ref (am 13 0), vI (m 0 0 14), .ref (am 15 0), .ref (am 16 0), .ref (am 17 0), .ref (am 18 0), .ref (am 19 0), .ref (am 20 0), .ref (am 21 0), .ref (am 22 0), .ref (am 23 0), .ref (am 24 0), .ref (am 25 0), .ref (am 26 0), .ref (am 27 0), .ref (am 28 0), .ref (am 29 0), vI (((m 0 0 30).toNat : Nat) : Int), vI (m 0 0 31), vI (m 0 0 32), vI (((m 0 0 33).toNat : Nat) : Int), vI (m 0 0 34), .ref (am 35 0), .ref (am 36 0), .ref (am 37 0)]) rfl rfl (by simp) rfl dX8_copy_2 (x_hn (fun h2 e3 => ?_))
  have f4 : h2 (am 0 0) = some (eO 8 [vI 0, .ref (am 1 0), vI (m 0 0 2), .ref (am 3 0), .ref (am 4 0), .ref (am 5 0), .ref (am 6 0), .ref (am 7 0), .ref (am 8 0), .ref (am 9 0), .ref (am 10 0), .ref (am 11 0), .ref (am 12 0), .ref (am 13 0), vI (m 0 0 14), .ref (am 15 0), .ref (am 16 0), .ref (am 17 0), .ref (am 18 0), .ref (am 19 0), .ref (am 20 0), .ref (am 21 0), .ref (am 22 0), .ref (am 23 0), .ref (am 24 0), .ref (am 25 0), .ref (am 26 0), .ref (am 27 0), .ref (am 28 0), .ref (am 29 0), vI (((m 0 0 30).toNat : Nat) : Int), vI (m 0 0 31), vI (m 0 0 32), vI (((m 0 0 33).toNat : Nat) : Int), vI (m 0 0 34), .ref (am 35 0), .ref (am 36 0), .ref (am 37 0)]) := by rw [e3]; exact hu_s
  refine x_aload_n C dX8_copy_5 0 rfl ?_
  refine x_iload_n C dX8_copy_6 1 rfl ?_
  have cp6 : MP D am h (cu m 0 0 ((fu (m 0 0) 0 0))) h2 := by rw [e3]; exact (MP.up (MP.rf hR) (lm0 (by decide)) ((fu (m 0 0) 0 0)) rfl)
  refine x_callV C (n := 1) (qc := (RX8, TX8, 38)) (As := [vI u]) (rest := []) (c_X8_isWork (cp6.1) (hM1) (by omega)) gX8_copy_X8_isWork (by decide +kernel) f4 rfl rfl rfl rfl (Nat.le_of_ble_eq_true rfl) ⟨by decide, by decide⟩ ⟨(by decide), (by decide)⟩ dX8_copy_7 (fun rv7 h8 hp9 => ?_)
  obtain ⟨rfl, e10⟩ := hp9
  obtain rfl := e10.symm
  refine x_topv (show bI (0 ≤ u ∧ u ≤ ((cu m 0 0 ((fu (m 0 0) 0 0)))) 0 0 14 - 1) = bI (0 ≤ u ∧ u ≤ m 0 0 14 - 1) from by rfl) ?_
  have hbr5 := bI_cs ((0 ≤ u ∧ u ≤ m 0 0 14 - 1))
  refine x_if_eq (tgt := 20) C dX8_copy_10 (by decide) (by omega) (fun c11 => ?_) (fun c11 => ?_)
  · skip
    refine x_aload_n C dX8_copy_20 0 rfl ?_
    refine x_iconst C dX8_copy_21 1 (by decide) ?_
    have cp12 : MP D am h (cu m 0 0 ((fu (m 0 0) 0 0))) h2 := by rw [e3]; exact (MP.up (MP.rf hR) (lm0 (by decide)) ((fu (m 0 0) 0 0)) rfl)
    refine x_callV C (n := 1) (qc := (RX8, TX8, 38)) (As := [vI 1]) (rest := []) (c_X8_fails (cp12.1)) gX8_copy_X8_fails (by decide +kernel) f4 rfl rfl rfl rfl (Nat.le_of_ble_eq_true rfl) ⟨by decide, by decide⟩ ⟨(by decide), (by decide)⟩ dX8_copy_22 (fun rv13 h14 hp15 => ?_)
    obtain ⟨rfl, cp17⟩ := hp15
    have cp18 : MP D am h ((cu ((cu m 0 0 ((fu (m 0 0) 0 0)))) 0 0 ((fu (((cu m 0 0 ((fu (m 0 0) 0 0)))) 0 0) 0 1)))) h14 := MP.trans cp12 cp17
    refine x_iret C G dX8_copy_25 ?_ (by decide) (by decide)
    first
      | exact ⟨_, _, rfl, cp18, Or.inl (⟨rfl, by omega, (by repeat (first | exact SM.rf | refine SM.th ?_ | refine SM.o2 ?_ | refine SM.o14 ?_ | refine SM.sr ?_ | refine SM.ly (by assumption) (by assumption) ?_ | refine SM.bm ?_ | refine SM.st ?_ | refine SM.mv ?_ | refine SM.up (by decide) ?_))⟩)⟩
      | exact ⟨_, _, rfl, cp18, Or.inr (Or.inl (⟨rfl, by omega, (by repeat (first | exact SM.rf | refine SM.th ?_ | refine SM.o2 ?_ | refine SM.o14 ?_ | refine SM.sr ?_ | refine SM.ly (by assumption) (by assumption) ?_ | refine SM.bm ?_ | refine SM.st ?_ | refine SM.mv ?_ | refine SM.up (by decide) ?_))⟩))⟩
      | exact ⟨_, _, rfl, cp18, Or.inr (Or.inr (⟨rfl, by omega, by first | rfl | omega, (by repeat (first | exact SM.rf | refine SM.th ?_ | refine SM.o2 ?_ | refine SM.o14 ?_ | refine SM.sr ?_ | refine SM.ly (by assumption) (by assumption) ?_ | refine SM.bm ?_ | refine SM.st ?_ | refine SM.mv ?_ | refine SM.up (by decide) ?_))⟩))⟩
  · skip
    refine x_iload_n C dX8_copy_13 2 rfl ?_
    refine x_callS C (n := 1) (As := [vI p]) (rest := []) (c_X8_isPerson (by omega)) gX8_copy_X8_isPerson (by decide +kernel) rfl rfl rfl (Nat.le_of_ble_eq_true rfl) ⟨by decide, by decide⟩ ⟨(by decide), (by decide)⟩ dX8_copy_14 (fun rv20 h21 hp22 => ?_)
    obtain ⟨rfl, e23⟩ := hp22
    obtain rfl := e23.symm
    have hbr19 := bI_cs ((0 ≤ p ∧ p ≤ 5))
    refine x_if_ne (tgt := 26) C dX8_copy_17 (by decide) (by omega) (fun c24 => ?_) (fun c24 => ?_)
    · skip
      have hb9 := hbst u.toNat (by omega)
      refine x_aload_n C dX8_copy_26 0 rfl ?_
      refine x_get C (v := .ref (am 18 0)) f4 (T := TX8) rfl kX8_copy_1 18 (by decide) kX8_copy_2 rfl dX8_copy_27 ?_
      refine x_iload_n C dX8_copy_30 1 rfl ?_
      have f25 : h (am 18 0) = some (eI D 20 (m 18 0)) := hR.1 18 0 (lm0 (by decide))
      have f26 : h2 (am 18 0) = some (eI D 20 (m 18 0)) := by rw [e3, hu_n (hR.ne (lm0 (by decide)) (lm0 (by decide)) (fun zz9 => absurd zz9.1 (by decide)))]; exact f25
      refine x_iald C f26 ⟨by omega, by omega⟩ (by decide) dX8_copy_31 ?_
      refine x_topv (show (m 18 0) (Int.toNat u) = m 18 0 u.toNat from by rfl) ?_
      refine x_iconst C dX8_copy_32 (-1) (by decide) ?_
      refine x_icmp_eq (tgt := 45) C dX8_copy_33 (by decide) (by omega) (by omega) (fun c27 => ?_) (fun c27 => ?_)
      · skip
        refine x_aload_n C dX8_copy_45 0 rfl ?_
        refine x_iconst C dX8_copy_46 2 (by decide) ?_
        have cp28 : MP D am h (cu m 0 0 ((fu (m 0 0) 0 0))) h2 := by rw [e3]; exact (MP.up (MP.rf hR) (lm0 (by decide)) ((fu (m 0 0) 0 0)) rfl)
        refine x_callV C (n := 1) (qc := (RX8, TX8, 38)) (As := [vI 2]) (rest := []) (c_X8_fails (cp28.1)) gX8_copy_X8_fails (by decide +kernel) f4 rfl rfl rfl rfl (Nat.le_of_ble_eq_true rfl) ⟨by decide, by decide⟩ ⟨(by decide), (by decide)⟩ dX8_copy_47 (fun rv29 h30 hp31 => ?_)
        obtain ⟨rfl, cp33⟩ := hp31
        have cp34 : MP D am h ((cu ((cu m 0 0 ((fu (m 0 0) 0 0)))) 0 0 ((fu (((cu m 0 0 ((fu (m 0 0) 0 0)))) 0 0) 0 2)))) h30 := MP.trans cp28 cp33
        refine x_iret C G dX8_copy_50 ?_ (by decide) (by decide)
        first
          | exact ⟨_, _, rfl, cp34, Or.inl (⟨rfl, by omega, (by repeat (first | exact SM.rf | refine SM.th ?_ | refine SM.o2 ?_ | refine SM.o14 ?_ | refine SM.sr ?_ | refine SM.ly (by assumption) (by assumption) ?_ | refine SM.bm ?_ | refine SM.st ?_ | refine SM.mv ?_ | refine SM.up (by decide) ?_))⟩)⟩
          | exact ⟨_, _, rfl, cp34, Or.inr (Or.inl (⟨rfl, by omega, (by repeat (first | exact SM.rf | refine SM.th ?_ | refine SM.o2 ?_ | refine SM.o14 ?_ | refine SM.sr ?_ | refine SM.ly (by assumption) (by assumption) ?_ | refine SM.bm ?_ | refine SM.st ?_ | refine SM.mv ?_ | refine SM.up (by decide) ?_))⟩))⟩
          | exact ⟨_, _, rfl, cp34, Or.inr (Or.inr (⟨rfl, by omega, by first | rfl | omega, (by repeat (first | exact SM.rf | refine SM.th ?_ | refine SM.o2 ?_ | refine SM.o14 ?_ | refine SM.sr ?_ | refine SM.ly (by assumption) (by assumption) ?_ | refine SM.bm ?_ | refine SM.st ?_ | refine SM.mv ?_ | refine SM.up (by decide) ?_))⟩))⟩
      · skip
        refine x_aload_n C dX8_copy_36 0 rfl ?_
        refine x_get C (v := vI (m 0 0 2)) f4 (T := TX8) rfl kX8_copy_1 2 (by decide) kX8_copy_3 rfl dX8_copy_37 ?_
        refine x_topv (show m 0 0 2 = m 0 0 2 from by rfl) ?_
        refine x_bipush C dX8_copy_40 12 (by decide) ?_
        refine x_icmp_ne (tgt := 51) C dX8_copy_42 (by decide) (by omega) (by omega) (fun c35 => ?_) (fun c35 => ?_)
        · skip
          refine x_iconst C dX8_copy_51 0 (by decide) ?_
          refine x_istore_n C (ls' := [(0, .ref (am 0 0)), (1, vI u), (2, vI p), (3, vI 0)]) dX8_copy_52 (by decide) rfl ?_
          have LP : ∀ (N : Nat) (n : Nat) (h36 : vh)   (hn : n ≤ 96) (hN : 96 - n < N) (hp9 : (0 ≤ u ∧ u < m 0 0 14) ∧ (0 ≤ p ∧ p < 6)) (hl9 : m 0 0 2 < 12) (hq9 : m 18 0 u.toNat ≠ -1) (hcp : MP D am h (cu (cu m 0 0 (fu (m 0 0) 0 0)) 4 0 (rowG (m 4 0) (96 * (m 0 0 2).toNat) (fun j => m 16 0 (96 * u.toNat + j)) n)) h36), X κ 0 0 h36 [(0, .ref (am 0 0)), (1, vI u), (2, vI p), (3, vI ((n : Nat) : Int))] 53 [] := by
            intro N
            induction N with
            | zero => intro n h36 hn hN hp9 hl9 hq9 hcp; exfalso; omega
            | succ N ihLP =>
              intro n h36 hn hN hp9 hl9 hq9 hcp
              refine x_iload_n C dX8_copy_53 3 rfl ?_
              refine x_bipush C dX8_copy_54 96 (by decide) ?_
              refine x_icmp_ge (tgt := 90) C dX8_copy_56 (by decide) (by omega) (by omega) (fun c37 => ?_) (fun c37 => ?_)
              · skip
                have hL9 : 0 ≤ m 0 0 2 ∧ m 0 0 2 < 12 := ⟨by omega, hl9⟩
                have hn96 : n = 96 := by omega
                refine x_aload_n C dX8_copy_90 0 rfl ?_
                refine x_iload_n C dX8_copy_91 2 rfl ?_
                refine x_aload_n C dX8_copy_92 0 rfl ?_
                have f38 : h36 (am 0 0) = some (eO 8 [vI (((cu (cu m 0 0 (fu (m 0 0) 0 0)) 4 0 (rowG (m 4 0) (96 * (m 0 0 2).toNat) (fun j => m 16 0 (96 * u.toNat + j)) n)) 0 0) 0), .ref (am 1 0), vI (((cu (cu m 0 0 (fu (m 0 0) 0 0)) 4 0 (rowG (m 4 0) (96 * (m 0 0 2).toNat) (fun j => m 16 0 (96 * u.toNat + j)) n)) 0 0) 2), .ref (am 3 0), .ref (am 4 0), .ref (am 5 0), .ref (am 6 0), .ref (am 7 0), .ref (am 8 0), .ref (am 9 0), .ref (am 10 0), .ref (am 11 0), .ref (am 12 0), .ref (am 13 0), vI (((cu (cu m 0 0 (fu (m 0 0) 0 0)) 4 0 (rowG (m 4 0) (96 * (m 0 0 2).toNat) (fun j => m 16 0 (96 * u.toNat + j)) n)) 0 0) 14), .ref (am 15 0), .ref (am 16 0), .ref (am 17 0), .ref (am 18 0), .ref (am 19 0), .ref (am 20 0), .ref (am 21 0), .ref (am 22 0), .ref (am 23 0), .ref (am 24 0), .ref (am 25 0), .ref (am 26 0), .ref (am 27 0), .ref (am 28 0), .ref (am 29 0), vI (((((cu (cu m 0 0 (fu (m 0 0) 0 0)) 4 0 (rowG (m 4 0) (96 * (m 0 0 2).toNat) (fun j => m 16 0 (96 * u.toNat + j)) n)) 0 0) 30).toNat : Nat) : Int), vI (((cu (cu m 0 0 (fu (m 0 0) 0 0)) 4 0 (rowG (m 4 0) (96 * (m 0 0 2).toNat) (fun j => m 16 0 (96 * u.toNat + j)) n)) 0 0) 31), vI (((cu (cu m 0 0 (fu (m 0 0) 0 0)) 4 0 (rowG (m 4 0) (96 * (m 0 0 2).toNat) (fun j => m 16 0 (96 * u.toNat + j)) n)) 0 0) 32), vI (((((cu (cu m 0 0 (fu (m 0 0) 0 0)) 4 0 (rowG (m 4 0) (96 * (m 0 0 2).toNat) (fun j => m 16 0 (96 * u.toNat + j)) n)) 0 0) 33).toNat : Nat) : Int), vI (((cu (cu m 0 0 (fu (m 0 0) 0 0)) 4 0 (rowG (m 4 0) (96 * (m 0 0 2).toNat) (fun j => m 16 0 (96 * u.toNat + j)) n)) 0 0) 34), .ref (am 35 0), .ref (am 36 0), .ref (am 37 0)]) := hcp.1.1 0 0 (lm0 (by decide))
                refine x_get C (v := .ref (am 17 0)) f38 (T := TX8) rfl kX8_copy_1 17 (by decide) kX8_copy_4 rfl dX8_copy_93 ?_
                refine x_iload_n C dX8_copy_96 1 rfl ?_
                have f39 : h36 (am 17 0) = some (eI D 20 (((cu (cu m 0 0 (fu (m 0 0) 0 0)) 4 0 (rowG (m 4 0) (96 * (m 0 0 2).toNat) (fun j => m 16 0 (96 * u.toNat + j)) n)) 17 0))) := hcp.1.1 17 0 (lm0 (by decide))
                refine x_iald C f39 ⟨by omega, by omega⟩ (by decide) dX8_copy_97 ?_
                refine x_topv (show (((cu (cu m 0 0 (fu (m 0 0) 0 0)) 4 0 (rowG (m 4 0) (96 * (m 0 0 2).toNat) (fun j => m 16 0 (96 * u.toNat + j)) n)) 17 0)) (Int.toNat u) = m 17 0 u.toNat from by rfl) ?_
                refine x_iload_n C dX8_copy_98 1 rfl ?_
                refine x_callV C (n := 3) (qc := (RX8, TX8, 38)) (As := [vI p, vI (m 17 0 u.toNat), vI u]) (rest := []) (c_X8_opens (hcp.1) (hL9)) gX8_copy_X8_opens (by decide +kernel) f38 rfl rfl rfl rfl (Nat.le_of_ble_eq_true rfl) ⟨by decide, by decide⟩ ⟨(by decide), (by decide)⟩ dX8_copy_99 (fun rv40 h41 hp42 => ?_)
                obtain ⟨rfl, cp44⟩ := hp42
                have cp45 : MP D am h (opN ((cu (cu m 0 0 (fu (m 0 0) 0 0)) 4 0 (rowG (m 4 0) (96 * (m 0 0 2).toNat) (fun j => m 16 0 (96 * u.toNat + j)) n))) p (m 17 0 u.toNat) u) h41 := MP.trans hcp cp44
                refine x_iret C G dX8_copy_102 ?_ (by decide) (by decide)
                exact ⟨_, _, rfl, cp45, Or.inr (Or.inr ⟨rfl, by omega, rfl, by rw [hn96]; exact SM.op (SM.up9 (by decide) rfl (SM.th SM.rf))⟩)⟩
              · skip
                refine x_aload_n C dX8_copy_59 0 rfl ?_
                have f46 : h36 (am 0 0) = some (eO 8 [vI (((cu (cu m 0 0 (fu (m 0 0) 0 0)) 4 0 (rowG (m 4 0) (96 * (m 0 0 2).toNat) (fun j => m 16 0 (96 * u.toNat + j)) n)) 0 0) 0), .ref (am 1 0), vI (((cu (cu m 0 0 (fu (m 0 0) 0 0)) 4 0 (rowG (m 4 0) (96 * (m 0 0 2).toNat) (fun j => m 16 0 (96 * u.toNat + j)) n)) 0 0) 2), .ref (am 3 0), .ref (am 4 0), .ref (am 5 0), .ref (am 6 0), .ref (am 7 0), .ref (am 8 0), .ref (am 9 0), .ref (am 10 0), .ref (am 11 0), .ref (am 12 0), .ref (am 13 0), vI (((cu (cu m 0 0 (fu (m 0 0) 0 0)) 4 0 (rowG (m 4 0) (96 * (m 0 0 2).toNat) (fun j => m 16 0 (96 * u.toNat + j)) n)) 0 0) 14), .ref (am 15 0), .ref (am 16 0), .ref (am 17 0), .ref (am 18 0), .ref (am 19 0), .ref (am 20 0), .ref (am 21 0), .ref (am 22 0), .ref (am 23 0), .ref (am 24 0), .ref (am 25 0), .ref (am 26 0), .ref (am 27 0), .ref (am 28 0), .ref (am 29 0), vI (((((cu (cu m 0 0 (fu (m 0 0) 0 0)) 4 0 (rowG (m 4 0) (96 * (m 0 0 2).toNat) (fun j => m 16 0 (96 * u.toNat + j)) n)) 0 0) 30).toNat : Nat) : Int), vI (((cu (cu m 0 0 (fu (m 0 0) 0 0)) 4 0 (rowG (m 4 0) (96 * (m 0 0 2).toNat) (fun j => m 16 0 (96 * u.toNat + j)) n)) 0 0) 31), vI (((cu (cu m 0 0 (fu (m 0 0) 0 0)) 4 0 (rowG (m 4 0) (96 * (m 0 0 2).toNat) (fun j => m 16 0 (96 * u.toNat + j)) n)) 0 0) 32), vI (((((cu (cu m 0 0 (fu (m 0 0) 0 0)) 4 0 (rowG (m 4 0) (96 * (m 0 0 2).toNat) (fun j => m 16 0 (96 * u.toNat + j)) n)) 0 0) 33).toNat : Nat) : Int), vI (((cu (cu m 0 0 (fu (m 0 0) 0 0)) 4 0 (rowG (m 4 0) (96 * (m 0 0 2).toNat) (fun j => m 16 0 (96 * u.toNat + j)) n)) 0 0) 34), .ref (am 35 0), .ref (am 36 0), .ref (am 37 0)]) := hcp.1.1 0 0 (lm0 (by decide))
                refine x_get C (v := .ref (am 4 0)) f46 (T := TX8) rfl kX8_copy_1 4 (by decide) kX8_copy_5 rfl dX8_copy_60 ?_
                refine x_bipush C dX8_copy_63 96 (by decide) ?_
                refine x_aload_n C dX8_copy_65 0 rfl ?_
                refine x_get C (v := vI (((cu (cu m 0 0 (fu (m 0 0) 0 0)) 4 0 (rowG (m 4 0) (96 * (m 0 0 2).toNat) (fun j => m 16 0 (96 * u.toNat + j)) n)) 0 0) 2)) f46 (T := TX8) rfl kX8_copy_1 2 (by decide) kX8_copy_3 rfl dX8_copy_66 ?_
                refine x_topv (show ((cu (cu m 0 0 (fu (m 0 0) 0 0)) 4 0 (rowG (m 4 0) (96 * (m 0 0 2).toNat) (fun j => m 16 0 (96 * u.toNat + j)) n)) 0 0) 2 = m 0 0 2 from by rfl) ?_
                refine x_imul C dX8_copy_69 ?_
                refine x_iload_n C dX8_copy_70 3 rfl ?_
                refine x_iadd C dX8_copy_71 ?_
                refine x_aload_n C dX8_copy_72 0 rfl ?_
                refine x_get C (v := .ref (am 16 0)) f46 (T := TX8) rfl kX8_copy_1 16 (by decide) kX8_copy_6 rfl dX8_copy_73 ?_
                refine x_bipush C dX8_copy_76 96 (by decide) ?_
                refine x_iload_n C dX8_copy_78 1 rfl ?_
                refine x_imul C dX8_copy_79 ?_
                refine x_iload_n C dX8_copy_80 3 rfl ?_
                refine x_iadd C dX8_copy_81 ?_
                have f47 : h36 (am 16 0) = some (eI D 1920 (((cu (cu m 0 0 (fu (m 0 0) 0 0)) 4 0 (rowG (m 4 0) (96 * (m 0 0 2).toNat) (fun j => m 16 0 (96 * u.toNat + j)) n)) 16 0))) := hcp.1.1 16 0 (lm0 (by decide))
                refine x_iald C f47 ⟨by omega, by omega⟩ (by decide) dX8_copy_82 ?_
                have f48 : h36 (am 4 0) = some (eI D 1152 (((cu (cu m 0 0 (fu (m 0 0) 0 0)) 4 0 (rowG (m 4 0) (96 * (m 0 0 2).toNat) (fun j => m 16 0 (96 * u.toNat + j)) n)) 4 0))) := hcp.1.1 4 0 (lm0 (by decide))
                refine x_iast C f48 ⟨by omega, by omega⟩ (by decide) dX8_copy_83 (x_hn (fun h49 e50 => ?_))
                have f51 : h49 (am 4 0) = some (eI D 1152 (fu (((cu (cu m 0 0 (fu (m 0 0) 0 0)) 4 0 (rowG (m 4 0) (96 * (m 0 0 2).toNat) (fun j => m 16 0 (96 * u.toNat + j)) n)) 4 0)) (Int.toNat ((96 * (m 0 0 2)) + (((n : Nat) : Int)))) ((((cu (cu m 0 0 (fu (m 0 0) 0 0)) 4 0 (rowG (m 4 0) (96 * (m 0 0 2).toNat) (fun j => m 16 0 (96 * u.toNat + j)) n)) 16 0)) (Int.toNat ((96 * u) + (((n : Nat) : Int))))))) := by rw [e50]; exact hu_s
                refine x_iinc C (x := ((n : Nat) : Int)) (ls' := [(0, .ref (am 0 0)), (1, vI u), (2, vI p), (3, vI ((((n : Nat) : Int)) + 1))]) dX8_copy_84 3 rfl (by decide) rfl ?_
                refine x_goto (tgt := 53) C dX8_copy_87 (by decide) ?_
                have cp52 : MP D am h (cu (cu (cu m 0 0 (fu (m 0 0) 0 0)) 4 0 (rowG (m 4 0) (96 * (m 0 0 2).toNat) (fun j => m 16 0 (96 * u.toNat + j)) n)) 4 0 (fu (((cu (cu m 0 0 (fu (m 0 0) 0 0)) 4 0 (rowG (m 4 0) (96 * (m 0 0 2).toNat) (fun j => m 16 0 (96 * u.toNat + j)) n)) 4 0)) (Int.toNat ((96 * (m 0 0 2)) + (((n : Nat) : Int)))) ((((cu (cu m 0 0 (fu (m 0 0) 0 0)) 4 0 (rowG (m 4 0) (96 * (m 0 0 2).toNat) (fun j => m 16 0 (96 * u.toNat + j)) n)) 16 0)) (Int.toNat ((96 * u) + (((n : Nat) : Int))))))) h49 := by rw [e50]; exact (MP.up hcp (lm0 (by decide)) (fu (((cu (cu m 0 0 (fu (m 0 0) 0 0)) 4 0 (rowG (m 4 0) (96 * (m 0 0 2).toNat) (fun j => m 16 0 (96 * u.toNat + j)) n)) 4 0)) (Int.toNat ((96 * (m 0 0 2)) + (((n : Nat) : Int)))) ((((cu (cu m 0 0 (fu (m 0 0) 0 0)) 4 0 (rowG (m 4 0) (96 * (m 0 0 2).toNat) (fun j => m 16 0 (96 * u.toNat + j)) n)) 16 0)) (Int.toNat ((96 * u) + (((n : Nat) : Int)))))) rfl)
                exact ihLP (n + 1) h49 (by omega) (by omega) (by omega) (by omega) (by omega) (by have q9 := cp52; rw [cu_u] at q9; (try rw [cu_s] at q9); have q8 := rowG_s (g := m 4 0) (b := 96 * (m 0 0 2).toNat) (f := (fun j => m 16 0 (96 * u.toNat + j))) (n := n); (first | rw [show Int.toNat (96 * m 0 0 2 + ((n : Nat) : Int)) = 96 * (m 0 0 2).toNat + n by omega] at q9 | skip); (rw [← q8]; rw [show Int.toNat (96 * u + ((n : Nat) : Int)) = 96 * u.toNat + n by omega] at q9; exact q9))
          have cp53 : MP D am h (cu m 0 0 ((fu (m 0 0) 0 0))) h2 := by rw [e3]; exact (MP.up (MP.rf hR) (lm0 (by decide)) ((fu (m 0 0) 0 0)) rfl)
          exact LP (97) 0 h2 (by omega) (by omega) (by omega) (by omega) (by omega) (by rw [rowG_0, cu_id (m := cu m 0 0 (fu (m 0 0) 0 0)) (k := 4) (f := m 4 0) rfl]; exact cp53)
        · skip
          refine x_aload_n C dX8_copy_45 0 rfl ?_
          refine x_iconst C dX8_copy_46 2 (by decide) ?_
          have cp54 : MP D am h (cu m 0 0 ((fu (m 0 0) 0 0))) h2 := by rw [e3]; exact (MP.up (MP.rf hR) (lm0 (by decide)) ((fu (m 0 0) 0 0)) rfl)
          refine x_callV C (n := 1) (qc := (RX8, TX8, 38)) (As := [vI 2]) (rest := []) (c_X8_fails (cp54.1)) gX8_copy_X8_fails (by decide +kernel) f4 rfl rfl rfl rfl (Nat.le_of_ble_eq_true rfl) ⟨by decide, by decide⟩ ⟨(by decide), (by decide)⟩ dX8_copy_47 (fun rv55 h56 hp57 => ?_)
          obtain ⟨rfl, cp59⟩ := hp57
          have cp60 : MP D am h ((cu ((cu m 0 0 ((fu (m 0 0) 0 0)))) 0 0 ((fu (((cu m 0 0 ((fu (m 0 0) 0 0)))) 0 0) 0 2)))) h56 := MP.trans cp54 cp59
          refine x_iret C G dX8_copy_50 ?_ (by decide) (by decide)
          first
            | exact ⟨_, _, rfl, cp60, Or.inl (⟨rfl, by omega, (by repeat (first | exact SM.rf | refine SM.th ?_ | refine SM.o2 ?_ | refine SM.o14 ?_ | refine SM.sr ?_ | refine SM.ly (by assumption) (by assumption) ?_ | refine SM.bm ?_ | refine SM.st ?_ | refine SM.mv ?_ | refine SM.up (by decide) ?_))⟩)⟩
            | exact ⟨_, _, rfl, cp60, Or.inr (Or.inl (⟨rfl, by omega, (by repeat (first | exact SM.rf | refine SM.th ?_ | refine SM.o2 ?_ | refine SM.o14 ?_ | refine SM.sr ?_ | refine SM.ly (by assumption) (by assumption) ?_ | refine SM.bm ?_ | refine SM.st ?_ | refine SM.mv ?_ | refine SM.up (by decide) ?_))⟩))⟩
            | exact ⟨_, _, rfl, cp60, Or.inr (Or.inr (⟨rfl, by omega, by first | rfl | omega, (by repeat (first | exact SM.rf | refine SM.th ?_ | refine SM.o2 ?_ | refine SM.o14 ?_ | refine SM.sr ?_ | refine SM.ly (by assumption) (by assumption) ?_ | refine SM.bm ?_ | refine SM.st ?_ | refine SM.mv ?_ | refine SM.up (by decide) ?_))⟩))⟩
    · skip
      refine x_aload_n C dX8_copy_20 0 rfl ?_
      refine x_iconst C dX8_copy_21 1 (by decide) ?_
      have cp61 : MP D am h (cu m 0 0 ((fu (m 0 0) 0 0))) h2 := by rw [e3]; exact (MP.up (MP.rf hR) (lm0 (by decide)) ((fu (m 0 0) 0 0)) rfl)
      refine x_callV C (n := 1) (qc := (RX8, TX8, 38)) (As := [vI 1]) (rest := []) (c_X8_fails (cp61.1)) gX8_copy_X8_fails (by decide +kernel) f4 rfl rfl rfl rfl (Nat.le_of_ble_eq_true rfl) ⟨by decide, by decide⟩ ⟨(by decide), (by decide)⟩ dX8_copy_22 (fun rv62 h63 hp64 => ?_)
      obtain ⟨rfl, cp66⟩ := hp64
      have cp67 : MP D am h ((cu ((cu m 0 0 ((fu (m 0 0) 0 0)))) 0 0 ((fu (((cu m 0 0 ((fu (m 0 0) 0 0)))) 0 0) 0 1)))) h63 := MP.trans cp61 cp66
      refine x_iret C G dX8_copy_25 ?_ (by decide) (by decide)
      first
        | exact ⟨_, _, rfl, cp67, Or.inl (⟨rfl, by omega, (by repeat (first | exact SM.rf | refine SM.th ?_ | refine SM.o2 ?_ | refine SM.o14 ?_ | refine SM.sr ?_ | refine SM.ly (by assumption) (by assumption) ?_ | refine SM.bm ?_ | refine SM.st ?_ | refine SM.mv ?_ | refine SM.up (by decide) ?_))⟩)⟩
        | exact ⟨_, _, rfl, cp67, Or.inr (Or.inl (⟨rfl, by omega, (by repeat (first | exact SM.rf | refine SM.th ?_ | refine SM.o2 ?_ | refine SM.o14 ?_ | refine SM.sr ?_ | refine SM.ly (by assumption) (by assumption) ?_ | refine SM.bm ?_ | refine SM.st ?_ | refine SM.mv ?_ | refine SM.up (by decide) ?_))⟩))⟩
        | exact ⟨_, _, rfl, cp67, Or.inr (Or.inr (⟨rfl, by omega, by first | rfl | omega, (by repeat (first | exact SM.rf | refine SM.th ?_ | refine SM.o2 ?_ | refine SM.o14 ?_ | refine SM.sr ?_ | refine SM.ly (by assumption) (by assumption) ?_ | refine SM.bm ?_ | refine SM.st ?_ | refine SM.mv ?_ | refine SM.up (by decide) ?_))⟩))⟩

/-- a work is offered -/
def ofN (m : CS) (u : Nat) : CS := cu (cu (cu (cu (cu (cu (cu m 16 0 (rowG (m 16 0) (96 * (m 0 0 14).toNat) (fun j => m 4 0 (96 * u + j)) 96)) 15 0 (fu (m 15 0) (m 0 0 14).toNat (m 3 0 u))) 17 0 (fu (m 17 0) (m 0 0 14).toNat (m 5 0 u))) 18 0 (fu (m 18 0) (m 0 0 14).toNat (m 6 0 u))) 19 0 (fu (m 19 0) (m 0 0 14).toNat (m 7 0 u))) 20 0 (fu (m 20 0) (m 0 0 14).toNat (-1))) 0 0 (fu (m 0 0) 14 (m 0 0 14 + 1))

theorem kX8_offer_0 : Cond.fieldLink "LedgeLevelsModel" 101 "LedgeLevelsModel" "thrown" "I" ∈ wsX8_offer := by decide +kernel
theorem kX8_offer_1 : ∀ w ∈ wsX80, w ∈ wsX8_offer := by decide +kernel
theorem kX8_offer_2 : Cond.fieldLink "LedgeLevelsModel" 22 "LedgeLevelsModel" "proofs" "[I" ∈ wsX8_offer := by decide +kernel
theorem kX8_offer_3 : Cond.fieldLink "LedgeLevelsModel" 112 "LedgeLevelsModel" "works" "I" ∈ wsX8_offer := by decide +kernel
theorem kX8_offer_4 : Cond.fieldLink "LedgeLevelsModel" 46 "LedgeLevelsModel" "author" "[I" ∈ wsX8_offer := by decide +kernel
theorem kX8_offer_5 : Cond.fieldLink "LedgeLevelsModel" 13 "LedgeLevelsModel" "maker" "[I" ∈ wsX8_offer := by decide +kernel
theorem kX8_offer_6 : Cond.fieldLink "LedgeLevelsModel" 52 "LedgeLevelsModel" "from" "[I" ∈ wsX8_offer := by decide +kernel
theorem kX8_offer_7 : Cond.fieldLink "LedgeLevelsModel" 19 "LedgeLevelsModel" "begins" "[I" ∈ wsX8_offer := by decide +kernel
theorem kX8_offer_8 : Cond.fieldLink "LedgeLevelsModel" 55 "LedgeLevelsModel" "best" "[I" ∈ wsX8_offer := by decide +kernel
theorem kX8_offer_9 : Cond.fieldLink "LedgeLevelsModel" 58 "LedgeLevelsModel" "parent" "[I" ∈ wsX8_offer := by decide +kernel
theorem kX8_offer_10 : Cond.fieldLink "LedgeLevelsModel" 25 "LedgeLevelsModel" "origin" "[I" ∈ wsX8_offer := by decide +kernel
theorem kX8_offer_11 : Cond.fieldLink "LedgeLevelsModel" 61 "LedgeLevelsModel" "record" "[I" ∈ wsX8_offer := by decide +kernel
theorem kX8_offer_12 : Cond.fieldLink "LedgeLevelsModel" 49 "LedgeLevelsModel" "shape" "[I" ∈ wsX8_offer := by decide +kernel
theorem kX8_offer_13 : Cond.fieldLink "LedgeLevelsModel" 16 "LedgeLevelsModel" "grid" "[I" ∈ wsX8_offer := by decide +kernel
set_option maxRecDepth 100000 in
set_option maxHeartbeats 4000000 in
theorem c_X8_offer {l : Launch} {D : va_G} {A : Nat → Prop} {h : vh} {am : AD} {m : CS} {u : Int}  (hR : RepM D am m h) (hM1 : Mk1 m) (hi_u : -2147483648 ≤ u ∧ u ≤ 2147483647) (hpf : ∀ j : Nat, (j : Int) < m 0 0 2 → -2 ≤ m 6 0 j ∧ m 6 0 j ≤ 7000) : MX l D A yX8_offer wsX8_offer { frames := 2, cells := 0, slots := 0, locals := 43 } [.ref (am 0 0), vI u] h (fun rv h' => ∃ (r : Int) (m1 : CS), rv = some (vI r) ∧ MP D am h (m1) h' ∧ ((m1 0 0 0 = 1 ∧ (¬ (0 ≤ u ∧ u < m 0 0 2)) ∧ SM m m1) ∨ (m1 0 0 0 = 2 ∧ ((0 ≤ u ∧ u < m 0 0 2) ∧ (m 6 0 u.toNat < 0 ∨ m 0 0 14 = 20)) ∧ SM m m1) ∨ (m1 0 0 0 = 0 ∧ ((0 ≤ u ∧ u < m 0 0 2) ∧ 0 ≤ m 6 0 u.toNat ∧ m 0 0 14 < 20) ∧ r = m 0 0 14 ∧ SM (ofN m u.toNat) m1))) := by
  refine MX.of (cc := cX8_offer) (maxL := 3) (ret := (some .int)) [(0, .ref (am 0 0)), (1, vI u)] (by decide +kernel) rfl rfl (Nat.le_of_ble_eq_true rfl) ?_
  intro κ C hkl G
  subst hkl
  have C : CX κ "LedgeLevelsModel" "offer" cX8_offer wsX8_offer { frames := 2, cells := 0, slots := 0, locals := 43 } D A 3 := C
  have hiz : nq (D.1 20) (D.1 21) := cx_iz C
  obtain ⟨hM1a, hM1b⟩ := id hM1
  refine x_aload_n C dX8_offer_0 0 rfl ?_
  refine x_iconst C dX8_offer_1 0 (by decide) ?_
  have f1 : h (am 0 0) = some (eO 8 [vI (m 0 0 0), .ref (am 1 0), vI (m 0 0 2), .ref (am 3 0), .ref (am 4 0), .ref (am 5 0), .ref (am 6 0), .ref (am 7 0), .ref (am 8 0), .ref (am 9 0), .ref (am 10 0), .ref (am 11 0), .ref (am 12 0), .ref (am 13 0), vI (m 0 0 14), .ref (am 15 0), .ref (am 16 0), .ref (am 17 0), .ref (am 18 0), .ref (am 19 0), .ref (am 20 0), .ref (am 21 0), .ref (am 22 0), .ref (am 23 0), .ref (am 24 0), .ref (am 25 0), .ref (am 26 0), .ref (am 27 0), .ref (am 28 0), .ref (am 29 0), vI (((m 0 0 30).toNat : Nat) : Int), vI (m 0 0 31), vI (m 0 0 32), vI (((m 0 0 33).toNat : Nat) : Int), vI (m 0 0 34), .ref (am 35 0), .ref (am 36 0), .ref (am 37 0)]) := hR.1 0 0 (lm0 (by decide))
  refine x_put C f1 (T := TX8) rfl tyX8_ok nmX8 kX8_offer_1 0 (by decide) kX8_offer_0 rfl (fs' := [vI 0, .ref (am 1 0), vI (m 0 0 2), .ref (am 3 0), .ref (am 4 0), .ref (am 5 0), .ref (am 6 0), .ref (am 7 0), .ref (am 8 0), .ref (am 9 0), .ref (am 10 0), .ref (am 11 0), .ref (am 12 0), .ref (am 13 0), vI (m 0 0 14), .ref (am 15 0), .ref (am 16 0), .ref (am 17 0), .ref (am 18 0), .ref (am 19 0), .ref (am 20 0), .ref (am 21 0), .ref (am 22 0), .ref (am 23 0), .ref (am 24 0), .ref (am 25 0), .ref (am 26 0), .ref (am 27 0), .ref (am 28 0), .ref (am 29 0), vI (((m 0 0 30).toNat : Nat) : Int), vI (m 0 0 31), vI (m 0 0 32), vI (((m 0 0 33).toNat : Nat) : Int), vI (m 0 0 34), .ref (am 35 0), .ref (am 36 0), .ref (am 37 0)]) rfl rfl (by simp) rfl dX8_offer_2 (x_hn (fun h2 e3 => ?_))
  have f4 : h2 (am 0 0) = some (eO 8 [vI 0, .ref (am 1 0), vI (m 0 0 2), .ref (am 3 0), .ref (am 4 0), .ref (am 5 0), .ref (am 6 0), .ref (am 7 0), .ref (am 8 0), .ref (am 9 0), .ref (am 10 0), .ref (am 11 0), .ref (am 12 0), .ref (am 13 0), vI (m 0 0 14), .ref (am 15 0), .ref (am 16 0), .ref (am 17 0), .ref (am 18 0), .ref (am 19 0), .ref (am 20 0), .ref (am 21 0), .ref (am 22 0), .ref (am 23 0), .ref (am 24 0), .ref (am 25 0), .ref (am 26 0), .ref (am 27 0), .ref (am 28 0), .ref (am 29 0), vI (((m 0 0 30).toNat : Nat) : Int), vI (m 0 0 31), vI (m 0 0 32), vI (((m 0 0 33).toNat : Nat) : Int), vI (m 0 0 34), .ref (am 35 0), .ref (am 36 0), .ref (am 37 0)]) := by rw [e3]; exact hu_s
  refine x_aload_n C dX8_offer_5 0 rfl ?_
  refine x_iload_n C dX8_offer_6 1 rfl ?_
  have cp6 : MP D am h (cu m 0 0 ((fu (m 0 0) 0 0))) h2 := by rw [e3]; exact (MP.up (MP.rf hR) (lm0 (by decide)) ((fu (m 0 0) 0 0)) rfl)
  refine x_callV C (n := 1) (qc := (RX8, TX8, 38)) (As := [vI u]) (rest := []) (c_X8_isLevel (cp6.1) (hM1) (by omega)) gX8_offer_X8_isLevel (by decide +kernel) f4 rfl rfl rfl rfl (Nat.le_of_ble_eq_true rfl) ⟨by decide, by decide⟩ ⟨(by decide), (by decide)⟩ dX8_offer_7 (fun rv7 h8 hp9 => ?_)
  obtain ⟨rfl, e10⟩ := hp9
  obtain rfl := e10.symm
  refine x_topv (show bI (0 ≤ u ∧ u ≤ ((cu m 0 0 ((fu (m 0 0) 0 0)))) 0 0 2 - 1) = bI (0 ≤ u ∧ u ≤ m 0 0 2 - 1) from by rfl) ?_
  have hbr5 := bI_cs ((0 ≤ u ∧ u ≤ m 0 0 2 - 1))
  refine x_if_ne (tgt := 19) C dX8_offer_10 (by decide) (by omega) (fun c11 => ?_) (fun c11 => ?_)
  · skip
    have hb9 := hpf u.toNat (by omega)
    refine x_aload_n C dX8_offer_19 0 rfl ?_
    refine x_get C (v := .ref (am 6 0)) f4 (T := TX8) rfl kX8_offer_1 6 (by decide) kX8_offer_2 rfl dX8_offer_20 ?_
    refine x_iload_n C dX8_offer_23 1 rfl ?_
    have f12 : h (am 6 0) = some (eI D 12 (m 6 0)) := hR.1 6 0 (lm0 (by decide))
    have f13 : h2 (am 6 0) = some (eI D 12 (m 6 0)) := by rw [e3, hu_n (hR.ne (lm0 (by decide)) (lm0 (by decide)) (fun zz9 => absurd zz9.1 (by decide)))]; exact f12
    refine x_iald C f13 ⟨by omega, by omega⟩ (by decide) dX8_offer_24 ?_
    refine x_topv (show (m 6 0) (Int.toNat u) = m 6 0 u.toNat from by rfl) ?_
    refine x_if_lt (tgt := 37) C dX8_offer_25 (by decide) (by omega) (fun c14 => ?_) (fun c14 => ?_)
    · skip
      refine x_aload_n C dX8_offer_37 0 rfl ?_
      refine x_iconst C dX8_offer_38 2 (by decide) ?_
      have cp15 : MP D am h (cu m 0 0 ((fu (m 0 0) 0 0))) h2 := by rw [e3]; exact (MP.up (MP.rf hR) (lm0 (by decide)) ((fu (m 0 0) 0 0)) rfl)
      refine x_callV C (n := 1) (qc := (RX8, TX8, 38)) (As := [vI 2]) (rest := []) (c_X8_fails (cp15.1)) gX8_offer_X8_fails (by decide +kernel) f4 rfl rfl rfl rfl (Nat.le_of_ble_eq_true rfl) ⟨by decide, by decide⟩ ⟨(by decide), (by decide)⟩ dX8_offer_39 (fun rv16 h17 hp18 => ?_)
      obtain ⟨rfl, cp20⟩ := hp18
      have cp21 : MP D am h ((cu ((cu m 0 0 ((fu (m 0 0) 0 0)))) 0 0 ((fu (((cu m 0 0 ((fu (m 0 0) 0 0)))) 0 0) 0 2)))) h17 := MP.trans cp15 cp20
      refine x_iret C G dX8_offer_42 ?_ (by decide) (by decide)
      first
        | exact ⟨_, _, rfl, cp21, Or.inl (⟨rfl, by omega, (by repeat (first | exact SM.rf | refine SM.th ?_ | refine SM.o2 ?_ | refine SM.o14 ?_ | refine SM.sr ?_ | refine SM.ly (by assumption) (by assumption) ?_ | refine SM.bm ?_ | refine SM.st ?_ | refine SM.mv ?_ | refine SM.up (by decide) ?_))⟩)⟩
        | exact ⟨_, _, rfl, cp21, Or.inr (Or.inl (⟨rfl, by omega, (by repeat (first | exact SM.rf | refine SM.th ?_ | refine SM.o2 ?_ | refine SM.o14 ?_ | refine SM.sr ?_ | refine SM.ly (by assumption) (by assumption) ?_ | refine SM.bm ?_ | refine SM.st ?_ | refine SM.mv ?_ | refine SM.up (by decide) ?_))⟩))⟩
        | exact ⟨_, _, rfl, cp21, Or.inr (Or.inr (⟨rfl, by omega, by first | rfl | omega, (by repeat (first | exact SM.rf | refine SM.th ?_ | refine SM.o2 ?_ | refine SM.o14 ?_ | refine SM.sr ?_ | refine SM.ly (by assumption) (by assumption) ?_ | refine SM.bm ?_ | refine SM.st ?_ | refine SM.mv ?_ | refine SM.up (by decide) ?_))⟩))⟩
    · skip
      refine x_aload_n C dX8_offer_28 0 rfl ?_
      refine x_get C (v := vI (m 0 0 14)) f4 (T := TX8) rfl kX8_offer_1 14 (by decide) kX8_offer_3 rfl dX8_offer_29 ?_
      refine x_topv (show m 0 0 14 = m 0 0 14 from by rfl) ?_
      refine x_bipush C dX8_offer_32 20 (by decide) ?_
      refine x_icmp_ne (tgt := 43) C dX8_offer_34 (by decide) (by omega) (by omega) (fun c22 => ?_) (fun c22 => ?_)
      · skip
        refine x_iconst C dX8_offer_43 0 (by decide) ?_
        refine x_istore_n C (ls' := [(0, .ref (am 0 0)), (1, vI u), (2, vI 0)]) dX8_offer_44 (by decide) rfl ?_
        have LP : ∀ (N : Nat) (n : Nat) (h23 : vh)   (hn : n ≤ 96) (hN : 96 - n < N) (hp9 : 0 ≤ u ∧ u < m 0 0 2) (hl9 : m 0 0 14 < 20) (hq9 : 0 ≤ m 6 0 u.toNat) (hcp : MP D am h (cu (cu m 0 0 (fu (m 0 0) 0 0)) 16 0 (rowG (m 16 0) (96 * (m 0 0 14).toNat) (fun j => m 4 0 (96 * u.toNat + j)) n)) h23), X κ 0 0 h23 [(0, .ref (am 0 0)), (1, vI u), (2, vI ((n : Nat) : Int))] 45 [] := by
          intro N
          induction N with
          | zero => intro n h23 hn hN hp9 hl9 hq9 hcp; exfalso; omega
          | succ N ihLP =>
            intro n h23 hn hN hp9 hl9 hq9 hcp
            refine x_iload_n C dX8_offer_45 2 rfl ?_
            refine x_bipush C dX8_offer_46 96 (by decide) ?_
            refine x_icmp_ge (tgt := 82) C dX8_offer_48 (by decide) (by omega) (by omega) (fun c24 => ?_) (fun c24 => ?_)
            · skip
              have hn96 : n = 96 := by omega
              refine x_aload_n C dX8_offer_82 0 rfl ?_
              have f25 : h23 (am 0 0) = some (eO 8 [vI (((cu (cu m 0 0 (fu (m 0 0) 0 0)) 16 0 (rowG (m 16 0) (96 * (m 0 0 14).toNat) (fun j => m 4 0 (96 * u.toNat + j)) n)) 0 0) 0), .ref (am 1 0), vI (((cu (cu m 0 0 (fu (m 0 0) 0 0)) 16 0 (rowG (m 16 0) (96 * (m 0 0 14).toNat) (fun j => m 4 0 (96 * u.toNat + j)) n)) 0 0) 2), .ref (am 3 0), .ref (am 4 0), .ref (am 5 0), .ref (am 6 0), .ref (am 7 0), .ref (am 8 0), .ref (am 9 0), .ref (am 10 0), .ref (am 11 0), .ref (am 12 0), .ref (am 13 0), vI (((cu (cu m 0 0 (fu (m 0 0) 0 0)) 16 0 (rowG (m 16 0) (96 * (m 0 0 14).toNat) (fun j => m 4 0 (96 * u.toNat + j)) n)) 0 0) 14), .ref (am 15 0), .ref (am 16 0), .ref (am 17 0), .ref (am 18 0), .ref (am 19 0), .ref (am 20 0), .ref (am 21 0), .ref (am 22 0), .ref (am 23 0), .ref (am 24 0), .ref (am 25 0), .ref (am 26 0), .ref (am 27 0), .ref (am 28 0), .ref (am 29 0), vI (((((cu (cu m 0 0 (fu (m 0 0) 0 0)) 16 0 (rowG (m 16 0) (96 * (m 0 0 14).toNat) (fun j => m 4 0 (96 * u.toNat + j)) n)) 0 0) 30).toNat : Nat) : Int), vI (((cu (cu m 0 0 (fu (m 0 0) 0 0)) 16 0 (rowG (m 16 0) (96 * (m 0 0 14).toNat) (fun j => m 4 0 (96 * u.toNat + j)) n)) 0 0) 31), vI (((cu (cu m 0 0 (fu (m 0 0) 0 0)) 16 0 (rowG (m 16 0) (96 * (m 0 0 14).toNat) (fun j => m 4 0 (96 * u.toNat + j)) n)) 0 0) 32), vI (((((cu (cu m 0 0 (fu (m 0 0) 0 0)) 16 0 (rowG (m 16 0) (96 * (m 0 0 14).toNat) (fun j => m 4 0 (96 * u.toNat + j)) n)) 0 0) 33).toNat : Nat) : Int), vI (((cu (cu m 0 0 (fu (m 0 0) 0 0)) 16 0 (rowG (m 16 0) (96 * (m 0 0 14).toNat) (fun j => m 4 0 (96 * u.toNat + j)) n)) 0 0) 34), .ref (am 35 0), .ref (am 36 0), .ref (am 37 0)]) := hcp.1.1 0 0 (lm0 (by decide))
              refine x_get C (v := .ref (am 15 0)) f25 (T := TX8) rfl kX8_offer_1 15 (by decide) kX8_offer_4 rfl dX8_offer_83 ?_
              refine x_aload_n C dX8_offer_86 0 rfl ?_
              refine x_get C (v := vI (((cu (cu m 0 0 (fu (m 0 0) 0 0)) 16 0 (rowG (m 16 0) (96 * (m 0 0 14).toNat) (fun j => m 4 0 (96 * u.toNat + j)) n)) 0 0) 14)) f25 (T := TX8) rfl kX8_offer_1 14 (by decide) kX8_offer_3 rfl dX8_offer_87 ?_
              refine x_topv (show ((cu (cu m 0 0 (fu (m 0 0) 0 0)) 16 0 (rowG (m 16 0) (96 * (m 0 0 14).toNat) (fun j => m 4 0 (96 * u.toNat + j)) n)) 0 0) 14 = m 0 0 14 from by rfl) ?_
              refine x_aload_n C dX8_offer_90 0 rfl ?_
              refine x_get C (v := .ref (am 3 0)) f25 (T := TX8) rfl kX8_offer_1 3 (by decide) kX8_offer_5 rfl dX8_offer_91 ?_
              refine x_iload_n C dX8_offer_94 1 rfl ?_
              have f26 : h23 (am 3 0) = some (eI D 12 (((cu (cu m 0 0 (fu (m 0 0) 0 0)) 16 0 (rowG (m 16 0) (96 * (m 0 0 14).toNat) (fun j => m 4 0 (96 * u.toNat + j)) n)) 3 0))) := hcp.1.1 3 0 (lm0 (by decide))
              refine x_iald C f26 ⟨by omega, by omega⟩ (by decide) dX8_offer_95 ?_
              have f27 : h23 (am 15 0) = some (eI D 20 (((cu (cu m 0 0 (fu (m 0 0) 0 0)) 16 0 (rowG (m 16 0) (96 * (m 0 0 14).toNat) (fun j => m 4 0 (96 * u.toNat + j)) n)) 15 0))) := hcp.1.1 15 0 (lm0 (by decide))
              refine x_iast C f27 ⟨by omega, by omega⟩ (by decide) dX8_offer_96 (x_hn (fun h28 e29 => ?_))
              have f30 : h28 (am 15 0) = some (eI D 20 (fu (((cu (cu m 0 0 (fu (m 0 0) 0 0)) 16 0 (rowG (m 16 0) (96 * (m 0 0 14).toNat) (fun j => m 4 0 (96 * u.toNat + j)) n)) 15 0)) (Int.toNat (m 0 0 14)) ((((cu (cu m 0 0 (fu (m 0 0) 0 0)) 16 0 (rowG (m 16 0) (96 * (m 0 0 14).toNat) (fun j => m 4 0 (96 * u.toNat + j)) n)) 3 0)) (Int.toNat u)))) := by rw [e29]; exact hu_s
              refine x_aload_n C dX8_offer_97 0 rfl ?_
              have f31 : h28 (am 0 0) = some (eO 8 [vI (((cu (cu m 0 0 (fu (m 0 0) 0 0)) 16 0 (rowG (m 16 0) (96 * (m 0 0 14).toNat) (fun j => m 4 0 (96 * u.toNat + j)) n)) 0 0) 0), .ref (am 1 0), vI (((cu (cu m 0 0 (fu (m 0 0) 0 0)) 16 0 (rowG (m 16 0) (96 * (m 0 0 14).toNat) (fun j => m 4 0 (96 * u.toNat + j)) n)) 0 0) 2), .ref (am 3 0), .ref (am 4 0), .ref (am 5 0), .ref (am 6 0), .ref (am 7 0), .ref (am 8 0), .ref (am 9 0), .ref (am 10 0), .ref (am 11 0), .ref (am 12 0), .ref (am 13 0), vI (((cu (cu m 0 0 (fu (m 0 0) 0 0)) 16 0 (rowG (m 16 0) (96 * (m 0 0 14).toNat) (fun j => m 4 0 (96 * u.toNat + j)) n)) 0 0) 14), .ref (am 15 0), .ref (am 16 0), .ref (am 17 0), .ref (am 18 0), .ref (am 19 0), .ref (am 20 0), .ref (am 21 0), .ref (am 22 0), .ref (am 23 0), .ref (am 24 0), .ref (am 25 0), .ref (am 26 0), .ref (am 27 0), .ref (am 28 0), .ref (am 29 0), vI (((((cu (cu m 0 0 (fu (m 0 0) 0 0)) 16 0 (rowG (m 16 0) (96 * (m 0 0 14).toNat) (fun j => m 4 0 (96 * u.toNat + j)) n)) 0 0) 30).toNat : Nat) : Int), vI (((cu (cu m 0 0 (fu (m 0 0) 0 0)) 16 0 (rowG (m 16 0) (96 * (m 0 0 14).toNat) (fun j => m 4 0 (96 * u.toNat + j)) n)) 0 0) 31), vI (((cu (cu m 0 0 (fu (m 0 0) 0 0)) 16 0 (rowG (m 16 0) (96 * (m 0 0 14).toNat) (fun j => m 4 0 (96 * u.toNat + j)) n)) 0 0) 32), vI (((((cu (cu m 0 0 (fu (m 0 0) 0 0)) 16 0 (rowG (m 16 0) (96 * (m 0 0 14).toNat) (fun j => m 4 0 (96 * u.toNat + j)) n)) 0 0) 33).toNat : Nat) : Int), vI (((cu (cu m 0 0 (fu (m 0 0) 0 0)) 16 0 (rowG (m 16 0) (96 * (m 0 0 14).toNat) (fun j => m 4 0 (96 * u.toNat + j)) n)) 0 0) 34), .ref (am 35 0), .ref (am 36 0), .ref (am 37 0)]) := by rw [e29, hu_n (hcp.1.ne (lm0 (by decide)) (lm0 (by decide)) (fun zz9 => absurd zz9.1 (by decide)))]; exact f25
              refine x_get C (v := .ref (am 17 0)) f31 (T := TX8) rfl kX8_offer_1 17 (by decide) kX8_offer_6 rfl dX8_offer_98 ?_
              refine x_aload_n C dX8_offer_101 0 rfl ?_
              refine x_get C (v := vI (((cu (cu m 0 0 (fu (m 0 0) 0 0)) 16 0 (rowG (m 16 0) (96 * (m 0 0 14).toNat) (fun j => m 4 0 (96 * u.toNat + j)) n)) 0 0) 14)) f31 (T := TX8) rfl kX8_offer_1 14 (by decide) kX8_offer_3 rfl dX8_offer_102 ?_
              refine x_topv (show ((cu (cu m 0 0 (fu (m 0 0) 0 0)) 16 0 (rowG (m 16 0) (96 * (m 0 0 14).toNat) (fun j => m 4 0 (96 * u.toNat + j)) n)) 0 0) 14 = m 0 0 14 from by rfl) ?_
              refine x_aload_n C dX8_offer_105 0 rfl ?_
              refine x_get C (v := .ref (am 5 0)) f31 (T := TX8) rfl kX8_offer_1 5 (by decide) kX8_offer_7 rfl dX8_offer_106 ?_
              refine x_iload_n C dX8_offer_109 1 rfl ?_
              have f32 : h23 (am 5 0) = some (eI D 12 (((cu (cu m 0 0 (fu (m 0 0) 0 0)) 16 0 (rowG (m 16 0) (96 * (m 0 0 14).toNat) (fun j => m 4 0 (96 * u.toNat + j)) n)) 5 0))) := hcp.1.1 5 0 (lm0 (by decide))
              have f33 : h28 (am 5 0) = some (eI D 12 (((cu (cu m 0 0 (fu (m 0 0) 0 0)) 16 0 (rowG (m 16 0) (96 * (m 0 0 14).toNat) (fun j => m 4 0 (96 * u.toNat + j)) n)) 5 0))) := by rw [e29, hu_n (hcp.1.ne (lm0 (by decide)) (lm0 (by decide)) (fun zz9 => absurd zz9.1 (by decide)))]; exact f32
              refine x_iald C f33 ⟨by omega, by omega⟩ (by decide) dX8_offer_110 ?_
              have f34 : h23 (am 17 0) = some (eI D 20 (((cu (cu m 0 0 (fu (m 0 0) 0 0)) 16 0 (rowG (m 16 0) (96 * (m 0 0 14).toNat) (fun j => m 4 0 (96 * u.toNat + j)) n)) 17 0))) := hcp.1.1 17 0 (lm0 (by decide))
              have f35 : h28 (am 17 0) = some (eI D 20 (((cu (cu m 0 0 (fu (m 0 0) 0 0)) 16 0 (rowG (m 16 0) (96 * (m 0 0 14).toNat) (fun j => m 4 0 (96 * u.toNat + j)) n)) 17 0))) := by rw [e29, hu_n (hcp.1.ne (lm0 (by decide)) (lm0 (by decide)) (fun zz9 => absurd zz9.1 (by decide)))]; exact f34
              refine x_iast C f35 ⟨by omega, by omega⟩ (by decide) dX8_offer_111 (x_hn (fun h36 e37 => ?_))
              have f38 : h36 (am 17 0) = some (eI D 20 (fu (((cu (cu m 0 0 (fu (m 0 0) 0 0)) 16 0 (rowG (m 16 0) (96 * (m 0 0 14).toNat) (fun j => m 4 0 (96 * u.toNat + j)) n)) 17 0)) (Int.toNat (m 0 0 14)) ((((cu (cu m 0 0 (fu (m 0 0) 0 0)) 16 0 (rowG (m 16 0) (96 * (m 0 0 14).toNat) (fun j => m 4 0 (96 * u.toNat + j)) n)) 5 0)) (Int.toNat u)))) := by rw [e37]; exact hu_s
              refine x_aload_n C dX8_offer_112 0 rfl ?_
              have f39 : h36 (am 0 0) = some (eO 8 [vI (((cu (cu m 0 0 (fu (m 0 0) 0 0)) 16 0 (rowG (m 16 0) (96 * (m 0 0 14).toNat) (fun j => m 4 0 (96 * u.toNat + j)) n)) 0 0) 0), .ref (am 1 0), vI (((cu (cu m 0 0 (fu (m 0 0) 0 0)) 16 0 (rowG (m 16 0) (96 * (m 0 0 14).toNat) (fun j => m 4 0 (96 * u.toNat + j)) n)) 0 0) 2), .ref (am 3 0), .ref (am 4 0), .ref (am 5 0), .ref (am 6 0), .ref (am 7 0), .ref (am 8 0), .ref (am 9 0), .ref (am 10 0), .ref (am 11 0), .ref (am 12 0), .ref (am 13 0), vI (((cu (cu m 0 0 (fu (m 0 0) 0 0)) 16 0 (rowG (m 16 0) (96 * (m 0 0 14).toNat) (fun j => m 4 0 (96 * u.toNat + j)) n)) 0 0) 14), .ref (am 15 0), .ref (am 16 0), .ref (am 17 0), .ref (am 18 0), .ref (am 19 0), .ref (am 20 0), .ref (am 21 0), .ref (am 22 0), .ref (am 23 0), .ref (am 24 0), .ref (am 25 0), .ref (am 26 0), .ref (am 27 0), .ref (am 28 0), .ref (am 29 0), vI (((((cu (cu m 0 0 (fu (m 0 0) 0 0)) 16 0 (rowG (m 16 0) (96 * (m 0 0 14).toNat) (fun j => m 4 0 (96 * u.toNat + j)) n)) 0 0) 30).toNat : Nat) : Int), vI (((cu (cu m 0 0 (fu (m 0 0) 0 0)) 16 0 (rowG (m 16 0) (96 * (m 0 0 14).toNat) (fun j => m 4 0 (96 * u.toNat + j)) n)) 0 0) 31), vI (((cu (cu m 0 0 (fu (m 0 0) 0 0)) 16 0 (rowG (m 16 0) (96 * (m 0 0 14).toNat) (fun j => m 4 0 (96 * u.toNat + j)) n)) 0 0) 32), vI (((((cu (cu m 0 0 (fu (m 0 0) 0 0)) 16 0 (rowG (m 16 0) (96 * (m 0 0 14).toNat) (fun j => m 4 0 (96 * u.toNat + j)) n)) 0 0) 33).toNat : Nat) : Int), vI (((cu (cu m 0 0 (fu (m 0 0) 0 0)) 16 0 (rowG (m 16 0) (96 * (m 0 0 14).toNat) (fun j => m 4 0 (96 * u.toNat + j)) n)) 0 0) 34), .ref (am 35 0), .ref (am 36 0), .ref (am 37 0)]) := by rw [e37, hu_n (hcp.1.ne (lm0 (by decide)) (lm0 (by decide)) (fun zz9 => absurd zz9.1 (by decide)))]; exact f31
              refine x_get C (v := .ref (am 18 0)) f39 (T := TX8) rfl kX8_offer_1 18 (by decide) kX8_offer_8 rfl dX8_offer_113 ?_
              refine x_aload_n C dX8_offer_116 0 rfl ?_
              refine x_get C (v := vI (((cu (cu m 0 0 (fu (m 0 0) 0 0)) 16 0 (rowG (m 16 0) (96 * (m 0 0 14).toNat) (fun j => m 4 0 (96 * u.toNat + j)) n)) 0 0) 14)) f39 (T := TX8) rfl kX8_offer_1 14 (by decide) kX8_offer_3 rfl dX8_offer_117 ?_
              refine x_topv (show ((cu (cu m 0 0 (fu (m 0 0) 0 0)) 16 0 (rowG (m 16 0) (96 * (m 0 0 14).toNat) (fun j => m 4 0 (96 * u.toNat + j)) n)) 0 0) 14 = m 0 0 14 from by rfl) ?_
              refine x_aload_n C dX8_offer_120 0 rfl ?_
              refine x_get C (v := .ref (am 6 0)) f39 (T := TX8) rfl kX8_offer_1 6 (by decide) kX8_offer_2 rfl dX8_offer_121 ?_
              refine x_iload_n C dX8_offer_124 1 rfl ?_
              have f40 : h23 (am 6 0) = some (eI D 12 (((cu (cu m 0 0 (fu (m 0 0) 0 0)) 16 0 (rowG (m 16 0) (96 * (m 0 0 14).toNat) (fun j => m 4 0 (96 * u.toNat + j)) n)) 6 0))) := hcp.1.1 6 0 (lm0 (by decide))
              have f41 : h28 (am 6 0) = some (eI D 12 (((cu (cu m 0 0 (fu (m 0 0) 0 0)) 16 0 (rowG (m 16 0) (96 * (m 0 0 14).toNat) (fun j => m 4 0 (96 * u.toNat + j)) n)) 6 0))) := by rw [e29, hu_n (hcp.1.ne (lm0 (by decide)) (lm0 (by decide)) (fun zz9 => absurd zz9.1 (by decide)))]; exact f40
              have f42 : h36 (am 6 0) = some (eI D 12 (((cu (cu m 0 0 (fu (m 0 0) 0 0)) 16 0 (rowG (m 16 0) (96 * (m 0 0 14).toNat) (fun j => m 4 0 (96 * u.toNat + j)) n)) 6 0))) := by rw [e37, hu_n (hcp.1.ne (lm0 (by decide)) (lm0 (by decide)) (fun zz9 => absurd zz9.1 (by decide)))]; exact f41
              refine x_iald C f42 ⟨by omega, by omega⟩ (by decide) dX8_offer_125 ?_
              have f43 : h23 (am 18 0) = some (eI D 20 (((cu (cu m 0 0 (fu (m 0 0) 0 0)) 16 0 (rowG (m 16 0) (96 * (m 0 0 14).toNat) (fun j => m 4 0 (96 * u.toNat + j)) n)) 18 0))) := hcp.1.1 18 0 (lm0 (by decide))
              have f44 : h28 (am 18 0) = some (eI D 20 (((cu (cu m 0 0 (fu (m 0 0) 0 0)) 16 0 (rowG (m 16 0) (96 * (m 0 0 14).toNat) (fun j => m 4 0 (96 * u.toNat + j)) n)) 18 0))) := by rw [e29, hu_n (hcp.1.ne (lm0 (by decide)) (lm0 (by decide)) (fun zz9 => absurd zz9.1 (by decide)))]; exact f43
              have f45 : h36 (am 18 0) = some (eI D 20 (((cu (cu m 0 0 (fu (m 0 0) 0 0)) 16 0 (rowG (m 16 0) (96 * (m 0 0 14).toNat) (fun j => m 4 0 (96 * u.toNat + j)) n)) 18 0))) := by rw [e37, hu_n (hcp.1.ne (lm0 (by decide)) (lm0 (by decide)) (fun zz9 => absurd zz9.1 (by decide)))]; exact f44
              refine x_iast C f45 ⟨by omega, by omega⟩ (by decide) dX8_offer_126 (x_hn (fun h46 e47 => ?_))
              have f48 : h46 (am 18 0) = some (eI D 20 (fu (((cu (cu m 0 0 (fu (m 0 0) 0 0)) 16 0 (rowG (m 16 0) (96 * (m 0 0 14).toNat) (fun j => m 4 0 (96 * u.toNat + j)) n)) 18 0)) (Int.toNat (m 0 0 14)) ((((cu (cu m 0 0 (fu (m 0 0) 0 0)) 16 0 (rowG (m 16 0) (96 * (m 0 0 14).toNat) (fun j => m 4 0 (96 * u.toNat + j)) n)) 6 0)) (Int.toNat u)))) := by rw [e47]; exact hu_s
              refine x_aload_n C dX8_offer_127 0 rfl ?_
              have f49 : h46 (am 0 0) = some (eO 8 [vI (((cu (cu m 0 0 (fu (m 0 0) 0 0)) 16 0 (rowG (m 16 0) (96 * (m 0 0 14).toNat) (fun j => m 4 0 (96 * u.toNat + j)) n)) 0 0) 0), .ref (am 1 0), vI (((cu (cu m 0 0 (fu (m 0 0) 0 0)) 16 0 (rowG (m 16 0) (96 * (m 0 0 14).toNat) (fun j => m 4 0 (96 * u.toNat + j)) n)) 0 0) 2), .ref (am 3 0), .ref (am 4 0), .ref (am 5 0), .ref (am 6 0), .ref (am 7 0), .ref (am 8 0), .ref (am 9 0), .ref (am 10 0), .ref (am 11 0), .ref (am 12 0), .ref (am 13 0), vI (((cu (cu m 0 0 (fu (m 0 0) 0 0)) 16 0 (rowG (m 16 0) (96 * (m 0 0 14).toNat) (fun j => m 4 0 (96 * u.toNat + j)) n)) 0 0) 14), .ref (am 15 0), .ref (am 16 0), .ref (am 17 0), .ref (am 18 0), .ref (am 19 0), .ref (am 20 0), .ref (am 21 0), .ref (am 22 0), .ref (am 23 0), .ref (am 24 0), .ref (am 25 0), .ref (am 26 0), .ref (am 27 0), .ref (am 28 0), .ref (am 29 0), vI (((((cu (cu m 0 0 (fu (m 0 0) 0 0)) 16 0 (rowG (m 16 0) (96 * (m 0 0 14).toNat) (fun j => m 4 0 (96 * u.toNat + j)) n)) 0 0) 30).toNat : Nat) : Int), vI (((cu (cu m 0 0 (fu (m 0 0) 0 0)) 16 0 (rowG (m 16 0) (96 * (m 0 0 14).toNat) (fun j => m 4 0 (96 * u.toNat + j)) n)) 0 0) 31), vI (((cu (cu m 0 0 (fu (m 0 0) 0 0)) 16 0 (rowG (m 16 0) (96 * (m 0 0 14).toNat) (fun j => m 4 0 (96 * u.toNat + j)) n)) 0 0) 32), vI (((((cu (cu m 0 0 (fu (m 0 0) 0 0)) 16 0 (rowG (m 16 0) (96 * (m 0 0 14).toNat) (fun j => m 4 0 (96 * u.toNat + j)) n)) 0 0) 33).toNat : Nat) : Int), vI (((cu (cu m 0 0 (fu (m 0 0) 0 0)) 16 0 (rowG (m 16 0) (96 * (m 0 0 14).toNat) (fun j => m 4 0 (96 * u.toNat + j)) n)) 0 0) 34), .ref (am 35 0), .ref (am 36 0), .ref (am 37 0)]) := by rw [e47, hu_n (hcp.1.ne (lm0 (by decide)) (lm0 (by decide)) (fun zz9 => absurd zz9.1 (by decide)))]; exact f39
              refine x_get C (v := .ref (am 19 0)) f49 (T := TX8) rfl kX8_offer_1 19 (by decide) kX8_offer_9 rfl dX8_offer_128 ?_
              refine x_aload_n C dX8_offer_131 0 rfl ?_
              refine x_get C (v := vI (((cu (cu m 0 0 (fu (m 0 0) 0 0)) 16 0 (rowG (m 16 0) (96 * (m 0 0 14).toNat) (fun j => m 4 0 (96 * u.toNat + j)) n)) 0 0) 14)) f49 (T := TX8) rfl kX8_offer_1 14 (by decide) kX8_offer_3 rfl dX8_offer_132 ?_
              refine x_topv (show ((cu (cu m 0 0 (fu (m 0 0) 0 0)) 16 0 (rowG (m 16 0) (96 * (m 0 0 14).toNat) (fun j => m 4 0 (96 * u.toNat + j)) n)) 0 0) 14 = m 0 0 14 from by rfl) ?_
              refine x_aload_n C dX8_offer_135 0 rfl ?_
              refine x_get C (v := .ref (am 7 0)) f49 (T := TX8) rfl kX8_offer_1 7 (by decide) kX8_offer_10 rfl dX8_offer_136 ?_
              refine x_iload_n C dX8_offer_139 1 rfl ?_
              have f50 : h23 (am 7 0) = some (eI D 12 (((cu (cu m 0 0 (fu (m 0 0) 0 0)) 16 0 (rowG (m 16 0) (96 * (m 0 0 14).toNat) (fun j => m 4 0 (96 * u.toNat + j)) n)) 7 0))) := hcp.1.1 7 0 (lm0 (by decide))
              have f51 : h28 (am 7 0) = some (eI D 12 (((cu (cu m 0 0 (fu (m 0 0) 0 0)) 16 0 (rowG (m 16 0) (96 * (m 0 0 14).toNat) (fun j => m 4 0 (96 * u.toNat + j)) n)) 7 0))) := by rw [e29, hu_n (hcp.1.ne (lm0 (by decide)) (lm0 (by decide)) (fun zz9 => absurd zz9.1 (by decide)))]; exact f50
              have f52 : h36 (am 7 0) = some (eI D 12 (((cu (cu m 0 0 (fu (m 0 0) 0 0)) 16 0 (rowG (m 16 0) (96 * (m 0 0 14).toNat) (fun j => m 4 0 (96 * u.toNat + j)) n)) 7 0))) := by rw [e37, hu_n (hcp.1.ne (lm0 (by decide)) (lm0 (by decide)) (fun zz9 => absurd zz9.1 (by decide)))]; exact f51
              have f53 : h46 (am 7 0) = some (eI D 12 (((cu (cu m 0 0 (fu (m 0 0) 0 0)) 16 0 (rowG (m 16 0) (96 * (m 0 0 14).toNat) (fun j => m 4 0 (96 * u.toNat + j)) n)) 7 0))) := by rw [e47, hu_n (hcp.1.ne (lm0 (by decide)) (lm0 (by decide)) (fun zz9 => absurd zz9.1 (by decide)))]; exact f52
              refine x_iald C f53 ⟨by omega, by omega⟩ (by decide) dX8_offer_140 ?_
              have f54 : h23 (am 19 0) = some (eI D 20 (((cu (cu m 0 0 (fu (m 0 0) 0 0)) 16 0 (rowG (m 16 0) (96 * (m 0 0 14).toNat) (fun j => m 4 0 (96 * u.toNat + j)) n)) 19 0))) := hcp.1.1 19 0 (lm0 (by decide))
              have f55 : h28 (am 19 0) = some (eI D 20 (((cu (cu m 0 0 (fu (m 0 0) 0 0)) 16 0 (rowG (m 16 0) (96 * (m 0 0 14).toNat) (fun j => m 4 0 (96 * u.toNat + j)) n)) 19 0))) := by rw [e29, hu_n (hcp.1.ne (lm0 (by decide)) (lm0 (by decide)) (fun zz9 => absurd zz9.1 (by decide)))]; exact f54
              have f56 : h36 (am 19 0) = some (eI D 20 (((cu (cu m 0 0 (fu (m 0 0) 0 0)) 16 0 (rowG (m 16 0) (96 * (m 0 0 14).toNat) (fun j => m 4 0 (96 * u.toNat + j)) n)) 19 0))) := by rw [e37, hu_n (hcp.1.ne (lm0 (by decide)) (lm0 (by decide)) (fun zz9 => absurd zz9.1 (by decide)))]; exact f55
              have f57 : h46 (am 19 0) = some (eI D 20 (((cu (cu m 0 0 (fu (m 0 0) 0 0)) 16 0 (rowG (m 16 0) (96 * (m 0 0 14).toNat) (fun j => m 4 0 (96 * u.toNat + j)) n)) 19 0))) := by rw [e47, hu_n (hcp.1.ne (lm0 (by decide)) (lm0 (by decide)) (fun zz9 => absurd zz9.1 (by decide)))]; exact f56
              refine x_iast C f57 ⟨by omega, by omega⟩ (by decide) dX8_offer_141 (x_hn (fun h58 e59 => ?_))
              have f60 : h58 (am 19 0) = some (eI D 20 (fu (((cu (cu m 0 0 (fu (m 0 0) 0 0)) 16 0 (rowG (m 16 0) (96 * (m 0 0 14).toNat) (fun j => m 4 0 (96 * u.toNat + j)) n)) 19 0)) (Int.toNat (m 0 0 14)) ((((cu (cu m 0 0 (fu (m 0 0) 0 0)) 16 0 (rowG (m 16 0) (96 * (m 0 0 14).toNat) (fun j => m 4 0 (96 * u.toNat + j)) n)) 7 0)) (Int.toNat u)))) := by rw [e59]; exact hu_s
              refine x_aload_n C dX8_offer_142 0 rfl ?_
              have f61 : h58 (am 0 0) = some (eO 8 [vI (((cu (cu m 0 0 (fu (m 0 0) 0 0)) 16 0 (rowG (m 16 0) (96 * (m 0 0 14).toNat) (fun j => m 4 0 (96 * u.toNat + j)) n)) 0 0) 0), .ref (am 1 0), vI (((cu (cu m 0 0 (fu (m 0 0) 0 0)) 16 0 (rowG (m 16 0) (96 * (m 0 0 14).toNat) (fun j => m 4 0 (96 * u.toNat + j)) n)) 0 0) 2), .ref (am 3 0), .ref (am 4 0), .ref (am 5 0), .ref (am 6 0), .ref (am 7 0), .ref (am 8 0), .ref (am 9 0), .ref (am 10 0), .ref (am 11 0), .ref (am 12 0), .ref (am 13 0), vI (((cu (cu m 0 0 (fu (m 0 0) 0 0)) 16 0 (rowG (m 16 0) (96 * (m 0 0 14).toNat) (fun j => m 4 0 (96 * u.toNat + j)) n)) 0 0) 14), .ref (am 15 0), .ref (am 16 0), .ref (am 17 0), .ref (am 18 0), .ref (am 19 0), .ref (am 20 0), .ref (am 21 0), .ref (am 22 0), .ref (am 23 0), .ref (am 24 0), .ref (am 25 0), .ref (am 26 0), .ref (am 27 0), .ref (am 28 0), .ref (am 29 0), vI (((((cu (cu m 0 0 (fu (m 0 0) 0 0)) 16 0 (rowG (m 16 0) (96 * (m 0 0 14).toNat) (fun j => m 4 0 (96 * u.toNat + j)) n)) 0 0) 30).toNat : Nat) : Int), vI (((cu (cu m 0 0 (fu (m 0 0) 0 0)) 16 0 (rowG (m 16 0) (96 * (m 0 0 14).toNat) (fun j => m 4 0 (96 * u.toNat + j)) n)) 0 0) 31), vI (((cu (cu m 0 0 (fu (m 0 0) 0 0)) 16 0 (rowG (m 16 0) (96 * (m 0 0 14).toNat) (fun j => m 4 0 (96 * u.toNat + j)) n)) 0 0) 32), vI (((((cu (cu m 0 0 (fu (m 0 0) 0 0)) 16 0 (rowG (m 16 0) (96 * (m 0 0 14).toNat) (fun j => m 4 0 (96 * u.toNat + j)) n)) 0 0) 33).toNat : Nat) : Int), vI (((cu (cu m 0 0 (fu (m 0 0) 0 0)) 16 0 (rowG (m 16 0) (96 * (m 0 0 14).toNat) (fun j => m 4 0 (96 * u.toNat + j)) n)) 0 0) 34), .ref (am 35 0), .ref (am 36 0), .ref (am 37 0)]) := by rw [e59, hu_n (hcp.1.ne (lm0 (by decide)) (lm0 (by decide)) (fun zz9 => absurd zz9.1 (by decide)))]; exact f49
              refine x_get C (v := .ref (am 20 0)) f61 (T := TX8) rfl kX8_offer_1 20 (by decide) kX8_offer_11 rfl dX8_offer_143 ?_
              refine x_aload_n C dX8_offer_146 0 rfl ?_
              refine x_get C (v := vI (((cu (cu m 0 0 (fu (m 0 0) 0 0)) 16 0 (rowG (m 16 0) (96 * (m 0 0 14).toNat) (fun j => m 4 0 (96 * u.toNat + j)) n)) 0 0) 14)) f61 (T := TX8) rfl kX8_offer_1 14 (by decide) kX8_offer_3 rfl dX8_offer_147 ?_
              refine x_topv (show ((cu (cu m 0 0 (fu (m 0 0) 0 0)) 16 0 (rowG (m 16 0) (96 * (m 0 0 14).toNat) (fun j => m 4 0 (96 * u.toNat + j)) n)) 0 0) 14 = m 0 0 14 from by rfl) ?_
              refine x_iconst C dX8_offer_150 (-1) (by decide) ?_
              have f62 : h23 (am 20 0) = some (eI D 20 (((cu (cu m 0 0 (fu (m 0 0) 0 0)) 16 0 (rowG (m 16 0) (96 * (m 0 0 14).toNat) (fun j => m 4 0 (96 * u.toNat + j)) n)) 20 0))) := hcp.1.1 20 0 (lm0 (by decide))
              have f63 : h28 (am 20 0) = some (eI D 20 (((cu (cu m 0 0 (fu (m 0 0) 0 0)) 16 0 (rowG (m 16 0) (96 * (m 0 0 14).toNat) (fun j => m 4 0 (96 * u.toNat + j)) n)) 20 0))) := by rw [e29, hu_n (hcp.1.ne (lm0 (by decide)) (lm0 (by decide)) (fun zz9 => absurd zz9.1 (by decide)))]; exact f62
              have f64 : h36 (am 20 0) = some (eI D 20 (((cu (cu m 0 0 (fu (m 0 0) 0 0)) 16 0 (rowG (m 16 0) (96 * (m 0 0 14).toNat) (fun j => m 4 0 (96 * u.toNat + j)) n)) 20 0))) := by rw [e37, hu_n (hcp.1.ne (lm0 (by decide)) (lm0 (by decide)) (fun zz9 => absurd zz9.1 (by decide)))]; exact f63
              have f65 : h46 (am 20 0) = some (eI D 20 (((cu (cu m 0 0 (fu (m 0 0) 0 0)) 16 0 (rowG (m 16 0) (96 * (m 0 0 14).toNat) (fun j => m 4 0 (96 * u.toNat + j)) n)) 20 0))) := by rw [e47, hu_n (hcp.1.ne (lm0 (by decide)) (lm0 (by decide)) (fun zz9 => absurd zz9.1 (by decide)))]; exact f64
              have f66 : h58 (am 20 0) = some (eI D 20 (((cu (cu m 0 0 (fu (m 0 0) 0 0)) 16 0 (rowG (m 16 0) (96 * (m 0 0 14).toNat) (fun j => m 4 0 (96 * u.toNat + j)) n)) 20 0))) := by rw [e59, hu_n (hcp.1.ne (lm0 (by decide)) (lm0 (by decide)) (fun zz9 => absurd zz9.1 (by decide)))]; exact f65
              refine x_iast C f66 ⟨by omega, by omega⟩ (by decide) dX8_offer_151 (x_hn (fun h67 e68 => ?_))
              have f69 : h67 (am 20 0) = some (eI D 20 (fu (((cu (cu m 0 0 (fu (m 0 0) 0 0)) 16 0 (rowG (m 16 0) (96 * (m 0 0 14).toNat) (fun j => m 4 0 (96 * u.toNat + j)) n)) 20 0)) (Int.toNat (m 0 0 14)) ((-1)))) := by rw [e68]; exact hu_s
              refine x_aload_n C dX8_offer_152 0 rfl ?_
              refine x_dup C dX8_offer_153 rfl ?_
              have f70 : h67 (am 0 0) = some (eO 8 [vI (((cu (cu m 0 0 (fu (m 0 0) 0 0)) 16 0 (rowG (m 16 0) (96 * (m 0 0 14).toNat) (fun j => m 4 0 (96 * u.toNat + j)) n)) 0 0) 0), .ref (am 1 0), vI (((cu (cu m 0 0 (fu (m 0 0) 0 0)) 16 0 (rowG (m 16 0) (96 * (m 0 0 14).toNat) (fun j => m 4 0 (96 * u.toNat + j)) n)) 0 0) 2), .ref (am 3 0), .ref (am 4 0), .ref (am 5 0), .ref (am 6 0), .ref (am 7 0), .ref (am 8 0), .ref (am 9 0), .ref (am 10 0), .ref (am 11 0), .ref (am 12 0), .ref (am 13 0), vI (((cu (cu m 0 0 (fu (m 0 0) 0 0)) 16 0 (rowG (m 16 0) (96 * (m 0 0 14).toNat) (fun j => m 4 0 (96 * u.toNat + j)) n)) 0 0) 14), .ref (am 15 0), .ref (am 16 0), .ref (am 17 0), .ref (am 18 0), .ref (am 19 0), .ref (am 20 0), .ref (am 21 0), .ref (am 22 0), .ref (am 23 0), .ref (am 24 0), .ref (am 25 0), .ref (am 26 0), .ref (am 27 0), .ref (am 28 0), .ref (am 29 0), vI (((((cu (cu m 0 0 (fu (m 0 0) 0 0)) 16 0 (rowG (m 16 0) (96 * (m 0 0 14).toNat) (fun j => m 4 0 (96 * u.toNat + j)) n)) 0 0) 30).toNat : Nat) : Int), vI (((cu (cu m 0 0 (fu (m 0 0) 0 0)) 16 0 (rowG (m 16 0) (96 * (m 0 0 14).toNat) (fun j => m 4 0 (96 * u.toNat + j)) n)) 0 0) 31), vI (((cu (cu m 0 0 (fu (m 0 0) 0 0)) 16 0 (rowG (m 16 0) (96 * (m 0 0 14).toNat) (fun j => m 4 0 (96 * u.toNat + j)) n)) 0 0) 32), vI (((((cu (cu m 0 0 (fu (m 0 0) 0 0)) 16 0 (rowG (m 16 0) (96 * (m 0 0 14).toNat) (fun j => m 4 0 (96 * u.toNat + j)) n)) 0 0) 33).toNat : Nat) : Int), vI (((cu (cu m 0 0 (fu (m 0 0) 0 0)) 16 0 (rowG (m 16 0) (96 * (m 0 0 14).toNat) (fun j => m 4 0 (96 * u.toNat + j)) n)) 0 0) 34), .ref (am 35 0), .ref (am 36 0), .ref (am 37 0)]) := by rw [e68, hu_n (hcp.1.ne (lm0 (by decide)) (lm0 (by decide)) (fun zz9 => absurd zz9.1 (by decide)))]; exact f61
              refine x_get C (v := vI (((cu (cu m 0 0 (fu (m 0 0) 0 0)) 16 0 (rowG (m 16 0) (96 * (m 0 0 14).toNat) (fun j => m 4 0 (96 * u.toNat + j)) n)) 0 0) 14)) f70 (T := TX8) rfl kX8_offer_1 14 (by decide) kX8_offer_3 rfl dX8_offer_154 ?_
              refine x_topv (show ((cu (cu m 0 0 (fu (m 0 0) 0 0)) 16 0 (rowG (m 16 0) (96 * (m 0 0 14).toNat) (fun j => m 4 0 (96 * u.toNat + j)) n)) 0 0) 14 = m 0 0 14 from by rfl) ?_
              refine x_iconst C dX8_offer_157 1 (by decide) ?_
              refine x_iadd C dX8_offer_158 ?_
              refine x_put C f70 (T := TX8) rfl tyX8_ok nmX8 kX8_offer_1 14 (by decide) kX8_offer_3 rfl (fs' := [vI (((cu (cu m 0 0 (fu (m 0 0) 0 0)) 16 0 (rowG (m 16 0) (96 * (m 0 0 14).toNat) (fun j => m 4 0 (96 * u.toNat + j)) n)) 0 0) 0), .ref (am 1 0), vI (((cu (cu m 0 0 (fu (m 0 0) 0 0)) 16 0 (rowG (m 16 0) (96 * (m 0 0 14).toNat) (fun j => m 4 0 (96 * u.toNat + j)) n)) 0 0) 2), .ref (am 3 0), .ref (am 4 0), .ref (am 5 0), .ref (am 6 0), .ref (am 7 0), .ref (am 8 0), .ref (am 9 0), .ref (am 10 0), .ref (am 11 0), .ref (am 12 0), .ref (am 13 0), vI ((m 0 0 14) + 1), .ref (am 15 0), .ref (am 16 0), .ref (am 17 0), .ref (am 18 0), .ref (am 19 0), .ref (am 20 0), .ref (am 21 0), .ref (am 22 0), .ref (am 23 0), .ref (am 24 0), .ref (am 25 0), .ref (am 26 0), .ref (am 27 0), .ref (am 28 0), .ref (am 29 0), vI (((((cu (cu m 0 0 (fu (m 0 0) 0 0)) 16 0 (rowG (m 16 0) (96 * (m 0 0 14).toNat) (fun j => m 4 0 (96 * u.toNat + j)) n)) 0 0) 30).toNat : Nat) : Int), vI (((cu (cu m 0 0 (fu (m 0 0) 0 0)) 16 0 (rowG (m 16 0) (96 * (m 0 0 14).toNat) (fun j => m 4 0 (96 * u.toNat + j)) n)) 0 0) 31), vI (((cu (cu m 0 0 (fu (m 0 0) 0 0)) 16 0 (rowG (m 16 0) (96 * (m 0 0 14).toNat) (fun j => m 4 0 (96 * u.toNat + j)) n)) 0 0) 32), vI (((((cu (cu m 0 0 (fu (m 0 0) 0 0)) 16 0 (rowG (m 16 0) (96 * (m 0 0 14).toNat) (fun j => m 4 0 (96 * u.toNat + j)) n)) 0 0) 33).toNat : Nat) : Int), vI (((cu (cu m 0 0 (fu (m 0 0) 0 0)) 16 0 (rowG (m 16 0) (96 * (m 0 0 14).toNat) (fun j => m 4 0 (96 * u.toNat + j)) n)) 0 0) 34), .ref (am 35 0), .ref (am 36 0), .ref (am 37 0)]) rfl rfl (by simp) rfl dX8_offer_159 (x_hn (fun h71 e72 => ?_))
              have f73 : h71 (am 0 0) = some (eO 8 [vI (((cu (cu m 0 0 (fu (m 0 0) 0 0)) 16 0 (rowG (m 16 0) (96 * (m 0 0 14).toNat) (fun j => m 4 0 (96 * u.toNat + j)) n)) 0 0) 0), .ref (am 1 0), vI (((cu (cu m 0 0 (fu (m 0 0) 0 0)) 16 0 (rowG (m 16 0) (96 * (m 0 0 14).toNat) (fun j => m 4 0 (96 * u.toNat + j)) n)) 0 0) 2), .ref (am 3 0), .ref (am 4 0), .ref (am 5 0), .ref (am 6 0), .ref (am 7 0), .ref (am 8 0), .ref (am 9 0), .ref (am 10 0), .ref (am 11 0), .ref (am 12 0), .ref (am 13 0), vI ((m 0 0 14) + 1), .ref (am 15 0), .ref (am 16 0), .ref (am 17 0), .ref (am 18 0), .ref (am 19 0), .ref (am 20 0), .ref (am 21 0), .ref (am 22 0), .ref (am 23 0), .ref (am 24 0), .ref (am 25 0), .ref (am 26 0), .ref (am 27 0), .ref (am 28 0), .ref (am 29 0), vI (((((cu (cu m 0 0 (fu (m 0 0) 0 0)) 16 0 (rowG (m 16 0) (96 * (m 0 0 14).toNat) (fun j => m 4 0 (96 * u.toNat + j)) n)) 0 0) 30).toNat : Nat) : Int), vI (((cu (cu m 0 0 (fu (m 0 0) 0 0)) 16 0 (rowG (m 16 0) (96 * (m 0 0 14).toNat) (fun j => m 4 0 (96 * u.toNat + j)) n)) 0 0) 31), vI (((cu (cu m 0 0 (fu (m 0 0) 0 0)) 16 0 (rowG (m 16 0) (96 * (m 0 0 14).toNat) (fun j => m 4 0 (96 * u.toNat + j)) n)) 0 0) 32), vI (((((cu (cu m 0 0 (fu (m 0 0) 0 0)) 16 0 (rowG (m 16 0) (96 * (m 0 0 14).toNat) (fun j => m 4 0 (96 * u.toNat + j)) n)) 0 0) 33).toNat : Nat) : Int), vI (((cu (cu m 0 0 (fu (m 0 0) 0 0)) 16 0 (rowG (m 16 0) (96 * (m 0 0 14).toNat) (fun j => m 4 0 (96 * u.toNat + j)) n)) 0 0) 34), .ref (am 35 0), .ref (am 36 0), .ref (am 37 0)]) := by rw [e72]; exact hu_s
              refine x_aload_n C dX8_offer_162 0 rfl ?_
              refine x_get C (v := vI ((m 0 0 14) + 1)) f73 (T := TX8) rfl kX8_offer_1 14 (by decide) kX8_offer_3 rfl dX8_offer_163 ?_
              refine x_iconst C dX8_offer_166 1 (by decide) ?_
              refine x_isub C dX8_offer_167 ?_
              refine x_topv (show ((m 0 0 14) + 1) - 1 = m 0 0 14 from by omega) ?_
              refine x_iret C G dX8_offer_168 ?_ (by decide) (by decide)
              have cp74 : MP D am h (cu (cu (cu (cu (cu (cu (cu (cu m 0 0 (fu (m 0 0) 0 0)) 16 0 (rowG (m 16 0) (96 * (m 0 0 14).toNat) (fun j => m 4 0 (96 * u.toNat + j)) n)) 15 0 (fu (((cu (cu m 0 0 (fu (m 0 0) 0 0)) 16 0 (rowG (m 16 0) (96 * (m 0 0 14).toNat) (fun j => m 4 0 (96 * u.toNat + j)) n)) 15 0)) (Int.toNat (m 0 0 14)) ((((cu (cu m 0 0 (fu (m 0 0) 0 0)) 16 0 (rowG (m 16 0) (96 * (m 0 0 14).toNat) (fun j => m 4 0 (96 * u.toNat + j)) n)) 3 0)) (Int.toNat u)))) 17 0 (fu (((cu (cu m 0 0 (fu (m 0 0) 0 0)) 16 0 (rowG (m 16 0) (96 * (m 0 0 14).toNat) (fun j => m 4 0 (96 * u.toNat + j)) n)) 17 0)) (Int.toNat (m 0 0 14)) ((((cu (cu m 0 0 (fu (m 0 0) 0 0)) 16 0 (rowG (m 16 0) (96 * (m 0 0 14).toNat) (fun j => m 4 0 (96 * u.toNat + j)) n)) 5 0)) (Int.toNat u)))) 18 0 (fu (((cu (cu m 0 0 (fu (m 0 0) 0 0)) 16 0 (rowG (m 16 0) (96 * (m 0 0 14).toNat) (fun j => m 4 0 (96 * u.toNat + j)) n)) 18 0)) (Int.toNat (m 0 0 14)) ((((cu (cu m 0 0 (fu (m 0 0) 0 0)) 16 0 (rowG (m 16 0) (96 * (m 0 0 14).toNat) (fun j => m 4 0 (96 * u.toNat + j)) n)) 6 0)) (Int.toNat u)))) 19 0 (fu (((cu (cu m 0 0 (fu (m 0 0) 0 0)) 16 0 (rowG (m 16 0) (96 * (m 0 0 14).toNat) (fun j => m 4 0 (96 * u.toNat + j)) n)) 19 0)) (Int.toNat (m 0 0 14)) ((((cu (cu m 0 0 (fu (m 0 0) 0 0)) 16 0 (rowG (m 16 0) (96 * (m 0 0 14).toNat) (fun j => m 4 0 (96 * u.toNat + j)) n)) 7 0)) (Int.toNat u)))) 20 0 (fu (((cu (cu m 0 0 (fu (m 0 0) 0 0)) 16 0 (rowG (m 16 0) (96 * (m 0 0 14).toNat) (fun j => m 4 0 (96 * u.toNat + j)) n)) 20 0)) (Int.toNat (m 0 0 14)) ((-1)))) 0 0 ((fu ((cu (cu m 0 0 (fu (m 0 0) 0 0)) 16 0 (rowG (m 16 0) (96 * (m 0 0 14).toNat) (fun j => m 4 0 (96 * u.toNat + j)) n)) 0 0) 14 ((m 0 0 14) + 1)))) h71 := by rw [e72, e68, e59, e47, e37, e29]; exact (MP.up (MP.up (MP.up (MP.up (MP.up (MP.up hcp (lm0 (by decide)) (fu (((cu (cu m 0 0 (fu (m 0 0) 0 0)) 16 0 (rowG (m 16 0) (96 * (m 0 0 14).toNat) (fun j => m 4 0 (96 * u.toNat + j)) n)) 15 0)) (Int.toNat (m 0 0 14)) ((((cu (cu m 0 0 (fu (m 0 0) 0 0)) 16 0 (rowG (m 16 0) (96 * (m 0 0 14).toNat) (fun j => m 4 0 (96 * u.toNat + j)) n)) 3 0)) (Int.toNat u))) rfl) (lm0 (by decide)) (fu (((cu (cu m 0 0 (fu (m 0 0) 0 0)) 16 0 (rowG (m 16 0) (96 * (m 0 0 14).toNat) (fun j => m 4 0 (96 * u.toNat + j)) n)) 17 0)) (Int.toNat (m 0 0 14)) ((((cu (cu m 0 0 (fu (m 0 0) 0 0)) 16 0 (rowG (m 16 0) (96 * (m 0 0 14).toNat) (fun j => m 4 0 (96 * u.toNat + j)) n)) 5 0)) (Int.toNat u))) rfl) (lm0 (by decide)) (fu (((cu (cu m 0 0 (fu (m 0 0) 0 0)) 16 0 (rowG (m 16 0) (96 * (m 0 0 14).toNat) (fun j => m 4 0 (96 * u.toNat + j)) n)) 18 0)) (Int.toNat (m 0 0 14)) ((((cu (cu m 0 0 (fu (m 0 0) 0 0)) 16 0 (rowG (m 16 0) (96 * (m 0 0 14).toNat) (fun j => m 4 0 (96 * u.toNat + j)) n)) 6 0)) (Int.toNat u))) rfl) (lm0 (by decide)) (fu (((cu (cu m 0 0 (fu (m 0 0) 0 0)) 16 0 (rowG (m 16 0) (96 * (m 0 0 14).toNat) (fun j => m 4 0 (96 * u.toNat + j)) n)) 19 0)) (Int.toNat (m 0 0 14)) ((((cu (cu m 0 0 (fu (m 0 0) 0 0)) 16 0 (rowG (m 16 0) (96 * (m 0 0 14).toNat) (fun j => m 4 0 (96 * u.toNat + j)) n)) 7 0)) (Int.toNat u))) rfl) (lm0 (by decide)) (fu (((cu (cu m 0 0 (fu (m 0 0) 0 0)) 16 0 (rowG (m 16 0) (96 * (m 0 0 14).toNat) (fun j => m 4 0 (96 * u.toNat + j)) n)) 20 0)) (Int.toNat (m 0 0 14)) ((-1))) rfl) (lm0 (by decide)) ((fu ((cu (cu m 0 0 (fu (m 0 0) 0 0)) 16 0 (rowG (m 16 0) (96 * (m 0 0 14).toNat) (fun j => m 4 0 (96 * u.toNat + j)) n)) 0 0) 14 ((m 0 0 14) + 1))) rfl)
              have q9 := cp74
              rw [hn96] at q9
              refine ⟨_, _, rfl, q9, Or.inr (Or.inr ⟨rfl, by omega, rfl, ?_⟩)⟩
              exact SM.o29 (SM.up9 (by decide) rfl (SM.up9 (by decide) rfl (SM.up9 (by decide) rfl (SM.up9 (by decide) rfl (SM.up9 (by decide) rfl (SM.up9 (by decide) rfl (SM.th SM.rf))))))) rfl rfl
            · skip
              refine x_aload_n C dX8_offer_51 0 rfl ?_
              have f75 : h23 (am 0 0) = some (eO 8 [vI (((cu (cu m 0 0 (fu (m 0 0) 0 0)) 16 0 (rowG (m 16 0) (96 * (m 0 0 14).toNat) (fun j => m 4 0 (96 * u.toNat + j)) n)) 0 0) 0), .ref (am 1 0), vI (((cu (cu m 0 0 (fu (m 0 0) 0 0)) 16 0 (rowG (m 16 0) (96 * (m 0 0 14).toNat) (fun j => m 4 0 (96 * u.toNat + j)) n)) 0 0) 2), .ref (am 3 0), .ref (am 4 0), .ref (am 5 0), .ref (am 6 0), .ref (am 7 0), .ref (am 8 0), .ref (am 9 0), .ref (am 10 0), .ref (am 11 0), .ref (am 12 0), .ref (am 13 0), vI (((cu (cu m 0 0 (fu (m 0 0) 0 0)) 16 0 (rowG (m 16 0) (96 * (m 0 0 14).toNat) (fun j => m 4 0 (96 * u.toNat + j)) n)) 0 0) 14), .ref (am 15 0), .ref (am 16 0), .ref (am 17 0), .ref (am 18 0), .ref (am 19 0), .ref (am 20 0), .ref (am 21 0), .ref (am 22 0), .ref (am 23 0), .ref (am 24 0), .ref (am 25 0), .ref (am 26 0), .ref (am 27 0), .ref (am 28 0), .ref (am 29 0), vI (((((cu (cu m 0 0 (fu (m 0 0) 0 0)) 16 0 (rowG (m 16 0) (96 * (m 0 0 14).toNat) (fun j => m 4 0 (96 * u.toNat + j)) n)) 0 0) 30).toNat : Nat) : Int), vI (((cu (cu m 0 0 (fu (m 0 0) 0 0)) 16 0 (rowG (m 16 0) (96 * (m 0 0 14).toNat) (fun j => m 4 0 (96 * u.toNat + j)) n)) 0 0) 31), vI (((cu (cu m 0 0 (fu (m 0 0) 0 0)) 16 0 (rowG (m 16 0) (96 * (m 0 0 14).toNat) (fun j => m 4 0 (96 * u.toNat + j)) n)) 0 0) 32), vI (((((cu (cu m 0 0 (fu (m 0 0) 0 0)) 16 0 (rowG (m 16 0) (96 * (m 0 0 14).toNat) (fun j => m 4 0 (96 * u.toNat + j)) n)) 0 0) 33).toNat : Nat) : Int), vI (((cu (cu m 0 0 (fu (m 0 0) 0 0)) 16 0 (rowG (m 16 0) (96 * (m 0 0 14).toNat) (fun j => m 4 0 (96 * u.toNat + j)) n)) 0 0) 34), .ref (am 35 0), .ref (am 36 0), .ref (am 37 0)]) := hcp.1.1 0 0 (lm0 (by decide))
              refine x_get C (v := .ref (am 16 0)) f75 (T := TX8) rfl kX8_offer_1 16 (by decide) kX8_offer_12 rfl dX8_offer_52 ?_
              refine x_bipush C dX8_offer_55 96 (by decide) ?_
              refine x_aload_n C dX8_offer_57 0 rfl ?_
              refine x_get C (v := vI (((cu (cu m 0 0 (fu (m 0 0) 0 0)) 16 0 (rowG (m 16 0) (96 * (m 0 0 14).toNat) (fun j => m 4 0 (96 * u.toNat + j)) n)) 0 0) 14)) f75 (T := TX8) rfl kX8_offer_1 14 (by decide) kX8_offer_3 rfl dX8_offer_58 ?_
              refine x_topv (show ((cu (cu m 0 0 (fu (m 0 0) 0 0)) 16 0 (rowG (m 16 0) (96 * (m 0 0 14).toNat) (fun j => m 4 0 (96 * u.toNat + j)) n)) 0 0) 14 = m 0 0 14 from by rfl) ?_
              refine x_imul C dX8_offer_61 ?_
              refine x_iload_n C dX8_offer_62 2 rfl ?_
              refine x_iadd C dX8_offer_63 ?_
              refine x_aload_n C dX8_offer_64 0 rfl ?_
              refine x_get C (v := .ref (am 4 0)) f75 (T := TX8) rfl kX8_offer_1 4 (by decide) kX8_offer_13 rfl dX8_offer_65 ?_
              refine x_bipush C dX8_offer_68 96 (by decide) ?_
              refine x_iload_n C dX8_offer_70 1 rfl ?_
              refine x_imul C dX8_offer_71 ?_
              refine x_iload_n C dX8_offer_72 2 rfl ?_
              refine x_iadd C dX8_offer_73 ?_
              have f76 : h23 (am 4 0) = some (eI D 1152 (((cu (cu m 0 0 (fu (m 0 0) 0 0)) 16 0 (rowG (m 16 0) (96 * (m 0 0 14).toNat) (fun j => m 4 0 (96 * u.toNat + j)) n)) 4 0))) := hcp.1.1 4 0 (lm0 (by decide))
              refine x_iald C f76 ⟨by omega, by omega⟩ (by decide) dX8_offer_74 ?_
              have f77 : h23 (am 16 0) = some (eI D 1920 (((cu (cu m 0 0 (fu (m 0 0) 0 0)) 16 0 (rowG (m 16 0) (96 * (m 0 0 14).toNat) (fun j => m 4 0 (96 * u.toNat + j)) n)) 16 0))) := hcp.1.1 16 0 (lm0 (by decide))
              refine x_iast C f77 ⟨by omega, by omega⟩ (by decide) dX8_offer_75 (x_hn (fun h78 e79 => ?_))
              have f80 : h78 (am 16 0) = some (eI D 1920 (fu (((cu (cu m 0 0 (fu (m 0 0) 0 0)) 16 0 (rowG (m 16 0) (96 * (m 0 0 14).toNat) (fun j => m 4 0 (96 * u.toNat + j)) n)) 16 0)) (Int.toNat ((96 * (m 0 0 14)) + (((n : Nat) : Int)))) ((((cu (cu m 0 0 (fu (m 0 0) 0 0)) 16 0 (rowG (m 16 0) (96 * (m 0 0 14).toNat) (fun j => m 4 0 (96 * u.toNat + j)) n)) 4 0)) (Int.toNat ((96 * u) + (((n : Nat) : Int))))))) := by rw [e79]; exact hu_s
              refine x_iinc C (x := ((n : Nat) : Int)) (ls' := [(0, .ref (am 0 0)), (1, vI u), (2, vI ((((n : Nat) : Int)) + 1))]) dX8_offer_76 2 rfl (by decide) rfl ?_
              refine x_goto (tgt := 45) C dX8_offer_79 (by decide) ?_
              have cp81 : MP D am h (cu (cu (cu m 0 0 (fu (m 0 0) 0 0)) 16 0 (rowG (m 16 0) (96 * (m 0 0 14).toNat) (fun j => m 4 0 (96 * u.toNat + j)) n)) 16 0 (fu (((cu (cu m 0 0 (fu (m 0 0) 0 0)) 16 0 (rowG (m 16 0) (96 * (m 0 0 14).toNat) (fun j => m 4 0 (96 * u.toNat + j)) n)) 16 0)) (Int.toNat ((96 * (m 0 0 14)) + (((n : Nat) : Int)))) ((((cu (cu m 0 0 (fu (m 0 0) 0 0)) 16 0 (rowG (m 16 0) (96 * (m 0 0 14).toNat) (fun j => m 4 0 (96 * u.toNat + j)) n)) 4 0)) (Int.toNat ((96 * u) + (((n : Nat) : Int))))))) h78 := by rw [e79]; exact (MP.up hcp (lm0 (by decide)) (fu (((cu (cu m 0 0 (fu (m 0 0) 0 0)) 16 0 (rowG (m 16 0) (96 * (m 0 0 14).toNat) (fun j => m 4 0 (96 * u.toNat + j)) n)) 16 0)) (Int.toNat ((96 * (m 0 0 14)) + (((n : Nat) : Int)))) ((((cu (cu m 0 0 (fu (m 0 0) 0 0)) 16 0 (rowG (m 16 0) (96 * (m 0 0 14).toNat) (fun j => m 4 0 (96 * u.toNat + j)) n)) 4 0)) (Int.toNat ((96 * u) + (((n : Nat) : Int)))))) rfl)
              exact ihLP (n + 1) h78 (by omega) (by omega) (by omega) (by omega) (by omega) (by have q9 := cp81; rw [cu_u] at q9; (try rw [cu_s] at q9); have q8 := rowG_s (g := m 16 0) (b := 96 * (m 0 0 14).toNat) (f := (fun j => m 4 0 (96 * u.toNat + j))) (n := n); (first | rw [show Int.toNat (96 * m 0 0 14 + ((n : Nat) : Int)) = 96 * (m 0 0 14).toNat + n by omega] at q9 | skip); (rw [← q8]; rw [show Int.toNat (96 * u + ((n : Nat) : Int)) = 96 * u.toNat + n by omega] at q9; exact q9))
        have cp82 : MP D am h (cu m 0 0 ((fu (m 0 0) 0 0))) h2 := by rw [e3]; exact (MP.up (MP.rf hR) (lm0 (by decide)) ((fu (m 0 0) 0 0)) rfl)
        exact LP (97) 0 h2 (by omega) (by omega) (by omega) (by omega) (by omega) (by rw [rowG_0, cu_id (m := cu m 0 0 (fu (m 0 0) 0 0)) (k := 16) (f := m 16 0) rfl]; exact cp82)
      · skip
        refine x_aload_n C dX8_offer_37 0 rfl ?_
        refine x_iconst C dX8_offer_38 2 (by decide) ?_
        have cp83 : MP D am h (cu m 0 0 ((fu (m 0 0) 0 0))) h2 := by rw [e3]; exact (MP.up (MP.rf hR) (lm0 (by decide)) ((fu (m 0 0) 0 0)) rfl)
        refine x_callV C (n := 1) (qc := (RX8, TX8, 38)) (As := [vI 2]) (rest := []) (c_X8_fails (cp83.1)) gX8_offer_X8_fails (by decide +kernel) f4 rfl rfl rfl rfl (Nat.le_of_ble_eq_true rfl) ⟨by decide, by decide⟩ ⟨(by decide), (by decide)⟩ dX8_offer_39 (fun rv84 h85 hp86 => ?_)
        obtain ⟨rfl, cp88⟩ := hp86
        have cp89 : MP D am h ((cu ((cu m 0 0 ((fu (m 0 0) 0 0)))) 0 0 ((fu (((cu m 0 0 ((fu (m 0 0) 0 0)))) 0 0) 0 2)))) h85 := MP.trans cp83 cp88
        refine x_iret C G dX8_offer_42 ?_ (by decide) (by decide)
        first
          | exact ⟨_, _, rfl, cp89, Or.inl (⟨rfl, by omega, (by repeat (first | exact SM.rf | refine SM.th ?_ | refine SM.o2 ?_ | refine SM.o14 ?_ | refine SM.sr ?_ | refine SM.ly (by assumption) (by assumption) ?_ | refine SM.bm ?_ | refine SM.st ?_ | refine SM.mv ?_ | refine SM.up (by decide) ?_))⟩)⟩
          | exact ⟨_, _, rfl, cp89, Or.inr (Or.inl (⟨rfl, by omega, (by repeat (first | exact SM.rf | refine SM.th ?_ | refine SM.o2 ?_ | refine SM.o14 ?_ | refine SM.sr ?_ | refine SM.ly (by assumption) (by assumption) ?_ | refine SM.bm ?_ | refine SM.st ?_ | refine SM.mv ?_ | refine SM.up (by decide) ?_))⟩))⟩
          | exact ⟨_, _, rfl, cp89, Or.inr (Or.inr (⟨rfl, by omega, by first | rfl | omega, (by repeat (first | exact SM.rf | refine SM.th ?_ | refine SM.o2 ?_ | refine SM.o14 ?_ | refine SM.sr ?_ | refine SM.ly (by assumption) (by assumption) ?_ | refine SM.bm ?_ | refine SM.st ?_ | refine SM.mv ?_ | refine SM.up (by decide) ?_))⟩))⟩
  · skip
    refine x_aload_n C dX8_offer_13 0 rfl ?_
    refine x_iconst C dX8_offer_14 1 (by decide) ?_
    have cp90 : MP D am h (cu m 0 0 ((fu (m 0 0) 0 0))) h2 := by rw [e3]; exact (MP.up (MP.rf hR) (lm0 (by decide)) ((fu (m 0 0) 0 0)) rfl)
    refine x_callV C (n := 1) (qc := (RX8, TX8, 38)) (As := [vI 1]) (rest := []) (c_X8_fails (cp90.1)) gX8_offer_X8_fails (by decide +kernel) f4 rfl rfl rfl rfl (Nat.le_of_ble_eq_true rfl) ⟨by decide, by decide⟩ ⟨(by decide), (by decide)⟩ dX8_offer_15 (fun rv91 h92 hp93 => ?_)
    obtain ⟨rfl, cp95⟩ := hp93
    have cp96 : MP D am h ((cu ((cu m 0 0 ((fu (m 0 0) 0 0)))) 0 0 ((fu (((cu m 0 0 ((fu (m 0 0) 0 0)))) 0 0) 0 1)))) h92 := MP.trans cp90 cp95
    refine x_iret C G dX8_offer_18 ?_ (by decide) (by decide)
    first
      | exact ⟨_, _, rfl, cp96, Or.inl (⟨rfl, by omega, (by repeat (first | exact SM.rf | refine SM.th ?_ | refine SM.o2 ?_ | refine SM.o14 ?_ | refine SM.sr ?_ | refine SM.ly (by assumption) (by assumption) ?_ | refine SM.bm ?_ | refine SM.st ?_ | refine SM.mv ?_ | refine SM.up (by decide) ?_))⟩)⟩
      | exact ⟨_, _, rfl, cp96, Or.inr (Or.inl (⟨rfl, by omega, (by repeat (first | exact SM.rf | refine SM.th ?_ | refine SM.o2 ?_ | refine SM.o14 ?_ | refine SM.sr ?_ | refine SM.ly (by assumption) (by assumption) ?_ | refine SM.bm ?_ | refine SM.st ?_ | refine SM.mv ?_ | refine SM.up (by decide) ?_))⟩))⟩
      | exact ⟨_, _, rfl, cp96, Or.inr (Or.inr (⟨rfl, by omega, by first | rfl | omega, (by repeat (first | exact SM.rf | refine SM.th ?_ | refine SM.o2 ?_ | refine SM.o14 ?_ | refine SM.sr ?_ | refine SM.ly (by assumption) (by assumption) ?_ | refine SM.bm ?_ | refine SM.st ?_ | refine SM.mv ?_ | refine SM.up (by decide) ?_))⟩))⟩


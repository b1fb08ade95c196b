theorem bI_cs (p : Prop) : (bI p = 1 ∧ p) ∨ (bI p = 0 ∧ ¬ p) := by
  by_cases h : p
  · exact Or.inl ⟨bI_t h, h⟩
  · exact Or.inr ⟨bI_f h, h⟩
/-- the lasting numbers are the same -/
def GK (m : CS) : Prop := (∀ j, 0 ≤ m 28 0 j ∧ m 28 0 j ≤ 8) ∧ ∀ j, 0 ≤ m 29 0 j ∧ m 29 0 j ≤ 7
def SM (m m' : CS) : Prop := (∀ k i, 1 ≤ k → k < 28 → m' k i = m k i) ∧ m' 0 0 2 = m 0 0 2 ∧ m' 0 0 14 = m 0 0 14 ∧ (GK m → GK m')
theorem SM.rf {m : CS} : SM m m := ⟨fun _ _ _ _ => rfl, rfl, rfl, id⟩
theorem SM.tr {a b c : CS} (h : SM a b) (g : SM b c) : SM a c := ⟨fun k i h1 h2 => (g.1 k i h1 h2).trans (h.1 k i h1 h2), g.2.1.trans h.2.1, g.2.2.1.trans h.2.2.1, fun z => g.2.2.2 (h.2.2.2 z)⟩
theorem GK.cu {b : CS} {k i : Nat} {f : Nat → Int} (n : ¬ (28 = k ∧ 0 = i)) (n2 : ¬ (29 = k ∧ 0 = i)) : GK (cu b k i f) ↔ GK b := by
  unfold GK
  rw [cu_n n, cu_n n2]
theorem SM.ob {a b : CS} {f : Nat → Int} (h : SM a b) (h2 : f 2 = b 0 0 2) (h14 : f 14 = b 0 0 14) : SM a (cu b 0 0 f) :=
  ⟨fun k i h1 h3 => (cu_n (fun z => by omega)).trans (h.1 k i h1 h3), (congrFun cu_s 2).trans (h2.trans h.2.1), (congrFun cu_s 14).trans (h14.trans h.2.2.1), fun z => (GK.cu (by omega) (by omega)).mpr (h.2.2.2 z)⟩
theorem SM.th {a b : CS} {e : Int} (h : SM a b) : SM a (cu b 0 0 (fu (b 0 0) 0 e)) := h.ob rfl rfl
theorem SM.bm {a b : CS} {c v : Int} {t : Nat} {s : Int} (h : SM a b) : SM a (bM b c v t s) := h.ob rfl rfl
theorem SM.mv {a b : CS} {x : Int × Int × Nat × Int} (h : SM a b) : SM a (mvM b x) := h.bm
theorem SM.tm {a b : CS} {k : Nat} {f : Nat → Int} (hk : 30 ≤ k) (h : SM a b) : SM a (cu b k 0 f) :=
  ⟨fun k' i h1 h3 => (cu_n (fun z => by omega)).trans (h.1 k' i h1 h3), (congrFun (cu_n (fun z => by omega)) 2).trans h.2.1, (congrFun (cu_n (fun z => by omega)) 14).trans h.2.2.1, fun z => (GK.cu (by omega) (by omega)).mpr (h.2.2.2 z)⟩
theorem SM.st {a b : CS} {z : Int} (h : SM a b) : SM a (stM b z) := by rw [stM_b]; exact h.bm
theorem SM.sr {a b : CS} {c v : Int} {t : Nat} {s : Int} {Q F R : Nat → Int} (h : SM a b) : SM a (srM b c v t s Q F R) := SM.tm (by decide) (SM.tm (by decide) (SM.tm (by decide) h.bm))
theorem lyG_r {src g : Nat → Int} (hs : ∀ j, 0 ≤ src j ∧ src j ≤ 8) (hg : ∀ j, 0 ≤ g j ∧ g j ≤ 8) (n : Nat) : ∀ j, 0 ≤ lyG src g n j ∧ lyG src g n j ≤ 8 := fun j => by
  unfold lyG; split
  · exact hs j
  · exact hg j
theorem lyB_r {src b : Nat → Int} (hA : lyA src 96 ≤ 7) (hg : ∀ j, 0 ≤ b j ∧ b j ≤ 7) : ∀ j, 0 ≤ lyB src b 96 j ∧ lyB src b 96 j ≤ 7 := fun j => by
  unfold lyB
  split
  · rename_i hj
    split
    · rename_i h2
      have h3 := lyA_m (src := src) (show j + 1 ≤ 96 by omega)
      have h4 : lyA src (j + 1) = lyA src j + (if src j = 2 then lyA src j + 1 else 0) := rfl
      rw [if_pos h2] at h4
      omega
    · omega
  · exact hg j
theorem GK.ly {b : CS} {src : Nat → Int} (hs : ∀ j, 0 ≤ src j ∧ src j ≤ 8) (hA : lyA src 96 ≤ 7) (h : GK b) : GK (layN b src 96) := ⟨lyG_r hs h.1 96, lyB_r hA h.2⟩
theorem SM.ly {a b : CS} {src : Nat → Int} (hs : ∀ j, 0 ≤ src j ∧ src j ≤ 8) (hA : lyA src 96 ≤ 7) (h : SM a b) : SM a (layN b src 96) := by
  refine ⟨fun k i h1 h2 => ?_, h.2.1, h.2.2.1, fun z => GK.ly hs hA (h.2.2.2 z)⟩
  unfold layN
  rw [cu_n (fun z => by omega), cu_n (fun z => by omega), cu_n (fun z => by omega)]
  exact h.1 k i h1 h2
theorem cuD {c : CS} {k i : Nat} {f : Nat → Int} {k' i' : Nat} : cu c k i f k' i' = if k' = k ∧ i' = i then f else c k' i' := rfl
theorem SM.up {a b : CS} {k i : Nat} {f : Nat → Int} (hk : 1 ≤ k ∧ k < 28) (h : SM a b) : SM (cu a k i f) (cu b k i f) := by
  have e0 : ¬ (0 = k ∧ 0 = i) := fun z => by omega
  refine ⟨fun k' i' h1 h2 => ?_, by simp only [cuD, if_neg e0]; exact h.2.1, by simp only [cuD, if_neg e0]; exact h.2.2.1, fun z => (GK.cu (by omega) (by omega)).mpr (h.2.2.2 ((GK.cu (by omega) (by omega)).mp z))⟩
  by_cases q : k' = k ∧ i' = i
  · simp only [cuD, if_pos q]
  · simp only [cuD, if_neg q]; exact h.1 k' i' h1 h2

theorem SM.o2 {a b : CS} {v : Int} (h : SM a b) : SM (cu a 0 0 (fu (a 0 0) 2 v)) (cu b 0 0 (fu (b 0 0) 2 v)) := by
  refine ⟨fun k i h1 h2 => ?_, rfl, h.2.2.1, fun z => (GK.cu (by omega) (by omega)).mpr (h.2.2.2 ((GK.cu (by omega) (by omega)).mp z))⟩
  rw [cu_n (fun z => by omega), cu_n (fun z => by omega)]; exact h.1 k i h1 h2
theorem SM.o14 {a b : CS} {v : Int} (h : SM a b) : SM (cu a 0 0 (fu (a 0 0) 14 v)) (cu b 0 0 (fu (b 0 0) 14 v)) := by
  refine ⟨fun k i h1 h2 => ?_, h.2.1, rfl, fun z => (GK.cu (by omega) (by omega)).mpr (h.2.2.2 ((GK.cu (by omega) (by omega)).mp z))⟩
  rw [cu_n (fun z => by omega), cu_n (fun z => by omega)]; exact h.1 k i h1 h2

theorem kX8_start_0 : Cond.fieldLink "LedgeLevelsModel" 101 "LedgeLevelsModel" "thrown" "I" ∈ wsX8_start := by decide +kernel
theorem kX8_start_1 : ∀ w ∈ wsX80, w ∈ wsX8_start := by decide +kernel
theorem kX8_start_2 : Cond.fieldLink "LedgeLevelsModel" 19 "LedgeLevelsModel" "begins" "[I" ∈ wsX8_start := by decide +kernel
set_option maxRecDepth 100000 in
set_option maxHeartbeats 1000000 in
theorem c_X8_start {l : Launch} {D : va_G} {A : Nat → Prop} {h : vh} {am : AD} {m : CS} {u : Int}  (hR : RepM D am m h) (hM1 : Mk1 m) (hi_u : -2147483648 ≤ u ∧ u ≤ 2147483647) : MX l D A yX8_start wsX8_start { frames := 2, cells := 0, slots := 0, locals := 43 } [.ref (am 0 0), vI u] h (fun rv h' => ∃ (r : Int) (m1 : CS), rv = some (vI r) ∧ MP D am h (m1) h' ∧ ((m1 0 0 0 = 1 ∧ (¬ (0 ≤ u ∧ u < m 0 0 2)) ∧ SM m m1) ∨ (m1 0 0 0 = 0 ∧ (0 ≤ u ∧ u < m 0 0 2) ∧ r = m 5 0 u.toNat ∧ SM m m1))) := by
  refine MX.of (cc := cX8_start) (maxL := 2) (ret := (some .int)) [(0, .ref (am 0 0)), (1, vI u)] (by decide +kernel) rfl rfl (Nat.le_of_ble_eq_true rfl) ?_
  intro κ C hkl G
  subst hkl
  have C : CX κ "LedgeLevelsModel" "start" cX8_start wsX8_start { frames := 2, cells := 0, slots := 0, locals := 43 } D A 2 := C
  have hiz : nq (D.1 20) (D.1 21) := cx_iz C
  obtain ⟨hM1a, hM1b⟩ := id hM1
  refine x_aload_n C dX8_start_0 0 rfl ?_
  refine x_iconst C dX8_start_1 0 (by decide) ?_
  have f1 : h (am 0 0) = some (eO 8 [vI (m 0 0 0), .ref (am 1 0), vI (m 0 0 2), .ref (am 3 0), .ref (am 4 0), .ref (am 5 0), .ref (am 6 0), .ref (am 7 0), .ref (am 8 0), .ref (am 9 0), .ref (am 10 0), .ref (am 11 0), .ref (am 12 0), .ref (am 13 0), vI (m 0 0 14), .ref (am 15 0), .ref (am 16 0), .ref (am 17 0), .ref (am 18 0), .ref (am 19 0), .ref (am 20 0), .ref (am 21 0), .ref (am 22 0), .ref (am 23 0), .ref (am 24 0), .ref (am 25 0), .ref (am 26 0), .ref (am 27 0), .ref (am 28 0), .ref (am 29 0), vI (((m 0 0 30).toNat : Nat) : Int), vI (m 0 0 31), vI (m 0 0 32), vI (((m 0 0 33).toNat : Nat) : Int), vI (m 0 0 34), .ref (am 35 0), .ref (am 36 0), .ref (am 37 0)]) := hR.1 0 0 (lm0 (by decide))
  refine x_put C f1 (T := TX8) rfl tyX8_ok nmX8 kX8_start_1 0 (by decide) kX8_start_0 rfl (fs' := [vI 0, .ref (am 1 0), vI (m 0 0 2), .ref (am 3 0), .ref (am 4 0), .ref (am 5 0), .ref (am 6 0), .ref (am 7 0), .ref (am 8 0), .ref (am 9 0), .ref (am 10 0), .ref (am 11 0), .ref (am 12 0), .ref (am 13 0), vI (m 0 0 14), .ref (am 15 0), .ref (am 16 0), .ref (am 17 0), .ref (am 18 0), .ref (am 19 0), .ref (am 20 0), .ref (am 21 0), .ref (am 22 0), .ref (am 23 0), .ref (am 24 0), .ref (am 25 0), .ref (am 26 0), .ref (am 27 0), .ref (am 28 0), .ref (am 29 0), vI (((m 0 0 30).toNat : Nat) : Int), vI (m 0 0 31), vI (m 0 0 32), vI (((m 0 0 33).toNat : Nat) : Int), vI (m 0 0 34), .ref (am 35 0), .ref (am 36 0), .ref (am 37 0)]) rfl rfl (by simp) rfl dX8_start_2 (x_hn (fun h2 e3 => ?_))
  have f4 : h2 (am 0 0) = some (eO 8 [vI 0, .ref (am 1 0), vI (m 0 0 2), .ref (am 3 0), .ref (am 4 0), .ref (am 5 0), .ref (am 6 0), .ref (am 7 0), .ref (am 8 0), .ref (am 9 0), .ref (am 10 0), .ref (am 11 0), .ref (am 12 0), .ref (am 13 0), vI (m 0 0 14), .ref (am 15 0), .ref (am 16 0), .ref (am 17 0), .ref (am 18 0), .ref (am 19 0), .ref (am 20 0), .ref (am 21 0), .ref (am 22 0), .ref (am 23 0), .ref (am 24 0), .ref (am 25 0), .ref (am 26 0), .ref (am 27 0), .ref (am 28 0), .ref (am 29 0), vI (((m 0 0 30).toNat : Nat) : Int), vI (m 0 0 31), vI (m 0 0 32), vI (((m 0 0 33).toNat : Nat) : Int), vI (m 0 0 34), .ref (am 35 0), .ref (am 36 0), .ref (am 37 0)]) := by rw [e3]; exact hu_s
  refine x_aload_n C dX8_start_5 0 rfl ?_
  refine x_iload_n C dX8_start_6 1 rfl ?_
  have cp6 : MP D am h (cu m 0 0 ((fu (m 0 0) 0 0))) h2 := by rw [e3]; exact (MP.up (MP.rf hR) (lm0 (by decide)) ((fu (m 0 0) 0 0)) rfl)
  refine x_callV C (n := 1) (qc := (RX8, TX8, 38)) (As := [vI u]) (rest := []) (c_X8_isLevel (cp6.1) (hM1) (by omega)) gX8_start_X8_isLevel (by decide +kernel) f4 rfl rfl rfl rfl (Nat.le_of_ble_eq_true rfl) ⟨by decide, by decide⟩ ⟨(by decide), (by decide)⟩ dX8_start_7 (fun rv7 h8 hp9 => ?_)
  obtain ⟨rfl, e10⟩ := hp9
  obtain rfl := e10.symm
  refine x_topv (show bI (0 ≤ u ∧ u ≤ ((cu m 0 0 ((fu (m 0 0) 0 0)))) 0 0 2 - 1) = bI (0 ≤ u ∧ u ≤ m 0 0 2 - 1) from by rfl) ?_
  have hbr5 := bI_cs ((0 ≤ u ∧ u ≤ m 0 0 2 - 1))
  refine x_if_eq (tgt := 22) C dX8_start_10 (by decide) (by omega) (fun c11 => ?_) (fun c11 => ?_)
  · skip
    refine x_aload_n C dX8_start_22 0 rfl ?_
    refine x_iconst C dX8_start_23 1 (by decide) ?_
    have cp12 : MP D am h (cu m 0 0 ((fu (m 0 0) 0 0))) h2 := by rw [e3]; exact (MP.up (MP.rf hR) (lm0 (by decide)) ((fu (m 0 0) 0 0)) rfl)
    refine x_callV C (n := 1) (qc := (RX8, TX8, 38)) (As := [vI 1]) (rest := []) (c_X8_fails (cp12.1)) gX8_start_X8_fails (by decide +kernel) f4 rfl rfl rfl rfl (Nat.le_of_ble_eq_true rfl) ⟨by decide, by decide⟩ ⟨(by decide), (by decide)⟩ dX8_start_24 (fun rv13 h14 hp15 => ?_)
    obtain ⟨rfl, cp17⟩ := hp15
    have cp18 : MP D am h ((cu ((cu m 0 0 ((fu (m 0 0) 0 0)))) 0 0 ((fu (((cu m 0 0 ((fu (m 0 0) 0 0)))) 0 0) 0 1)))) h14 := MP.trans cp12 cp17
    refine x_iret C G dX8_start_27 ?_ (by decide) (by decide)
    first
      | exact ⟨_, _, rfl, cp18, Or.inl (⟨rfl, by omega, (by repeat (first | exact SM.rf | refine SM.th ?_ | refine SM.o2 ?_ | refine SM.o14 ?_ | refine SM.sr ?_ | refine SM.ly (by assumption) (by assumption) ?_ | refine SM.bm ?_ | refine SM.st ?_ | refine SM.mv ?_ | refine SM.up (by decide) ?_))⟩)⟩
      | exact ⟨_, _, rfl, cp18, Or.inr (⟨rfl, by omega, by first | rfl | omega, (by repeat (first | exact SM.rf | refine SM.th ?_ | refine SM.o2 ?_ | refine SM.o14 ?_ | refine SM.sr ?_ | refine SM.ly (by assumption) (by assumption) ?_ | refine SM.bm ?_ | refine SM.st ?_ | refine SM.mv ?_ | refine SM.up (by decide) ?_))⟩)⟩
  · skip
    refine x_aload_n C dX8_start_13 0 rfl ?_
    refine x_get C (v := .ref (am 5 0)) f4 (T := TX8) rfl kX8_start_1 5 (by decide) kX8_start_2 rfl dX8_start_14 ?_
    refine x_iload_n C dX8_start_17 1 rfl ?_
    have f19 : h (am 5 0) = some (eI D 12 (m 5 0)) := hR.1 5 0 (lm0 (by decide))
    have f20 : h2 (am 5 0) = some (eI D 12 (m 5 0)) := by rw [e3, hu_n (hR.ne (lm0 (by decide)) (lm0 (by decide)) (fun zz9 => absurd zz9.1 (by decide)))]; exact f19
    refine x_iald C f20 ⟨by omega, by omega⟩ (by decide) dX8_start_18 ?_
    refine x_goto (tgt := 27) C dX8_start_19 (by decide) ?_
    refine x_iret C G dX8_start_27 ?_ (by decide) (by decide)
    have cp21 : MP D am h (cu m 0 0 ((fu (m 0 0) 0 0))) h2 := by rw [e3]; exact (MP.up (MP.rf hR) (lm0 (by decide)) ((fu (m 0 0) 0 0)) rfl)
    first
      | exact ⟨_, _, rfl, cp21, Or.inl (⟨rfl, by omega, (by repeat (first | exact SM.rf | refine SM.th ?_ | refine SM.o2 ?_ | refine SM.o14 ?_ | refine SM.sr ?_ | refine SM.ly (by assumption) (by assumption) ?_ | refine SM.bm ?_ | refine SM.st ?_ | refine SM.mv ?_ | refine SM.up (by decide) ?_))⟩)⟩
      | exact ⟨_, _, rfl, cp21, Or.inr (⟨rfl, by omega, by first | rfl | omega, (by repeat (first | exact SM.rf | refine SM.th ?_ | refine SM.o2 ?_ | refine SM.o14 ?_ | refine SM.sr ?_ | refine SM.ly (by assumption) (by assumption) ?_ | refine SM.bm ?_ | refine SM.st ?_ | refine SM.mv ?_ | refine SM.up (by decide) ?_))⟩)⟩

theorem kX8_proof_0 : Cond.fieldLink "LedgeLevelsModel" 101 "LedgeLevelsModel" "thrown" "I" ∈ wsX8_proof := by decide +kernel
theorem kX8_proof_1 : ∀ w ∈ wsX80, w ∈ wsX8_proof := by decide +kernel
theorem kX8_proof_2 : Cond.fieldLink "LedgeLevelsModel" 22 "LedgeLevelsModel" "proofs" "[I" ∈ wsX8_proof := by decide +kernel
set_option maxRecDepth 100000 in
set_option maxHeartbeats 1000000 in
theorem c_X8_proof {l : Launch} {D : va_G} {A : Nat → Prop} {h : vh} {am : AD} {m : CS} {u : Int}  (hR : RepM D am m h) (hM1 : Mk1 m) (hi_u : -2147483648 ≤ u ∧ u ≤ 2147483647) : MX l D A yX8_proof wsX8_proof { frames := 2, cells := 0, slots := 0, locals := 43 } [.ref (am 0 0), vI u] h (fun rv h' => ∃ (r : Int) (m1 : CS), rv = some (vI r) ∧ MP D am h (m1) h' ∧ ((m1 0 0 0 = 1 ∧ (¬ (0 ≤ u ∧ u < m 0 0 2)) ∧ SM m m1) ∨ (m1 0 0 0 = 0 ∧ (0 ≤ u ∧ u < m 0 0 2) ∧ r = m 6 0 u.toNat ∧ SM m m1))) := by
  refine MX.of (cc := cX8_proof) (maxL := 2) (ret := (some .int)) [(0, .ref (am 0 0)), (1, vI u)] (by decide +kernel) rfl rfl (Nat.le_of_ble_eq_true rfl) ?_
  intro κ C hkl G
  subst hkl
  have C : CX κ "LedgeLevelsModel" "proof" cX8_proof wsX8_proof { frames := 2, cells := 0, slots := 0, locals := 43 } D A 2 := C
  have hiz : nq (D.1 20) (D.1 21) := cx_iz C
  obtain ⟨hM1a, hM1b⟩ := id hM1
  refine x_aload_n C dX8_proof_0 0 rfl ?_
  refine x_iconst C dX8_proof_1 0 (by decide) ?_
  have f1 : h (am 0 0) = some (eO 8 [vI (m 0 0 0), .ref (am 1 0), vI (m 0 0 2), .ref (am 3 0), .ref (am 4 0), .ref (am 5 0), .ref (am 6 0), .ref (am 7 0), .ref (am 8 0), .ref (am 9 0), .ref (am 10 0), .ref (am 11 0), .ref (am 12 0), .ref (am 13 0), vI (m 0 0 14), .ref (am 15 0), .ref (am 16 0), .ref (am 17 0), .ref (am 18 0), .ref (am 19 0), .ref (am 20 0), .ref (am 21 0), .ref (am 22 0), .ref (am 23 0), .ref (am 24 0), .ref (am 25 0), .ref (am 26 0), .ref (am 27 0), .ref (am 28 0), .ref (am 29 0), vI (((m 0 0 30).toNat : Nat) : Int), vI (m 0 0 31), vI (m 0 0 32), vI (((m 0 0 33).toNat : Nat) : Int), vI (m 0 0 34), .ref (am 35 0), .ref (am 36 0), .ref (am 37 0)]) := hR.1 0 0 (lm0 (by decide))
  refine x_put C f1 (T := TX8) rfl tyX8_ok nmX8 kX8_proof_1 0 (by decide) kX8_proof_0 rfl (fs' := [vI 0, .ref (am 1 0), vI (m 0 0 2), .ref (am 3 0), .ref (am 4 0), .ref (am 5 0), .ref (am 6 0), .ref (am 7 0), .ref (am 8 0), .ref (am 9 0), .ref (am 10 0), .ref (am 11 0), .ref (am 12 0), .ref (am 13 0), vI (m 0 0 14), .ref (am 15 0), .ref (am 16 0), .ref (am 17 0), .ref (am 18 0), .ref (am 19 0), .ref (am 20 0), .ref (am 21 0), .ref (am 22 0), .ref (am 23 0), .ref (am 24 0), .ref (am 25 0), .ref (am 26 0), .ref (am 27 0), .ref (am 28 0), .ref (am 29 0), vI (((m 0 0 30).toNat : Nat) : Int), vI (m 0 0 31), vI (m 0 0 32), vI (((m 0 0 33).toNat : Nat) : Int), vI (m 0 0 34), .ref (am 35 0), .ref (am 36 0), .ref (am 37 0)]) rfl rfl (by simp) rfl dX8_proof_2 (x_hn (fun h2 e3 => ?_))
  have f4 : h2 (am 0 0) = some (eO 8 [vI 0, .ref (am 1 0), vI (m 0 0 2), .ref (am 3 0), .ref (am 4 0), .ref (am 5 0), .ref (am 6 0), .ref (am 7 0), .ref (am 8 0), .ref (am 9 0), .ref (am 10 0), .ref (am 11 0), .ref (am 12 0), .ref (am 13 0), vI (m 0 0 14), .ref (am 15 0), .ref (am 16 0), .ref (am 17 0), .ref (am 18 0), .ref (am 19 0), .ref (am 20 0), .ref (am 21 0), .ref (am 22 0), .ref (am 23 0), .ref (am 24 0), .ref (am 25 0), .ref (am 26 0), .ref (am 27 0), .ref (am 28 0), .ref (am 29 0), vI (((m 0 0 30).toNat : Nat) : Int), vI (m 0 0 31), vI (m 0 0 32), vI (((m 0 0 33).toNat : Nat) : Int), vI (m 0 0 34), .ref (am 35 0), .ref (am 36 0), .ref (am 37 0)]) := by rw [e3]; exact hu_s
  refine x_aload_n C dX8_proof_5 0 rfl ?_
  refine x_iload_n C dX8_proof_6 1 rfl ?_
  have cp6 : MP D am h (cu m 0 0 ((fu (m 0 0) 0 0))) h2 := by rw [e3]; exact (MP.up (MP.rf hR) (lm0 (by decide)) ((fu (m 0 0) 0 0)) rfl)
  refine x_callV C (n := 1) (qc := (RX8, TX8, 38)) (As := [vI u]) (rest := []) (c_X8_isLevel (cp6.1) (hM1) (by omega)) gX8_proof_X8_isLevel (by decide +kernel) f4 rfl rfl rfl rfl (Nat.le_of_ble_eq_true rfl) ⟨by decide, by decide⟩ ⟨(by decide), (by decide)⟩ dX8_proof_7 (fun rv7 h8 hp9 => ?_)
  obtain ⟨rfl, e10⟩ := hp9
  obtain rfl := e10.symm
  refine x_topv (show bI (0 ≤ u ∧ u ≤ ((cu m 0 0 ((fu (m 0 0) 0 0)))) 0 0 2 - 1) = bI (0 ≤ u ∧ u ≤ m 0 0 2 - 1) from by rfl) ?_
  have hbr5 := bI_cs ((0 ≤ u ∧ u ≤ m 0 0 2 - 1))
  refine x_if_eq (tgt := 22) C dX8_proof_10 (by decide) (by omega) (fun c11 => ?_) (fun c11 => ?_)
  · skip
    refine x_aload_n C dX8_proof_22 0 rfl ?_
    refine x_iconst C dX8_proof_23 1 (by decide) ?_
    have cp12 : MP D am h (cu m 0 0 ((fu (m 0 0) 0 0))) h2 := by rw [e3]; exact (MP.up (MP.rf hR) (lm0 (by decide)) ((fu (m 0 0) 0 0)) rfl)
    refine x_callV C (n := 1) (qc := (RX8, TX8, 38)) (As := [vI 1]) (rest := []) (c_X8_fails (cp12.1)) gX8_proof_X8_fails (by decide +kernel) f4 rfl rfl rfl rfl (Nat.le_of_ble_eq_true rfl) ⟨by decide, by decide⟩ ⟨(by decide), (by decide)⟩ dX8_proof_24 (fun rv13 h14 hp15 => ?_)
    obtain ⟨rfl, cp17⟩ := hp15
    have cp18 : MP D am h ((cu ((cu m 0 0 ((fu (m 0 0) 0 0)))) 0 0 ((fu (((cu m 0 0 ((fu (m 0 0) 0 0)))) 0 0) 0 1)))) h14 := MP.trans cp12 cp17
    refine x_iret C G dX8_proof_27 ?_ (by decide) (by decide)
    first
      | exact ⟨_, _, rfl, cp18, Or.inl (⟨rfl, by omega, (by repeat (first | exact SM.rf | refine SM.th ?_ | refine SM.o2 ?_ | refine SM.o14 ?_ | refine SM.sr ?_ | refine SM.ly (by assumption) (by assumption) ?_ | refine SM.bm ?_ | refine SM.st ?_ | refine SM.mv ?_ | refine SM.up (by decide) ?_))⟩)⟩
      | exact ⟨_, _, rfl, cp18, Or.inr (⟨rfl, by omega, by first | rfl | omega, (by repeat (first | exact SM.rf | refine SM.th ?_ | refine SM.o2 ?_ | refine SM.o14 ?_ | refine SM.sr ?_ | refine SM.ly (by assumption) (by assumption) ?_ | refine SM.bm ?_ | refine SM.st ?_ | refine SM.mv ?_ | refine SM.up (by decide) ?_))⟩)⟩
  · skip
    refine x_aload_n C dX8_proof_13 0 rfl ?_
    refine x_get C (v := .ref (am 6 0)) f4 (T := TX8) rfl kX8_proof_1 6 (by decide) kX8_proof_2 rfl dX8_proof_14 ?_
    refine x_iload_n C dX8_proof_17 1 rfl ?_
    have f19 : h (am 6 0) = some (eI D 12 (m 6 0)) := hR.1 6 0 (lm0 (by decide))
    have f20 : h2 (am 6 0) = some (eI D 12 (m 6 0)) := by rw [e3, hu_n (hR.ne (lm0 (by decide)) (lm0 (by decide)) (fun zz9 => absurd zz9.1 (by decide)))]; exact f19
    refine x_iald C f20 ⟨by omega, by omega⟩ (by decide) dX8_proof_18 ?_
    refine x_goto (tgt := 27) C dX8_proof_19 (by decide) ?_
    refine x_iret C G dX8_proof_27 ?_ (by decide) (by decide)
    have cp21 : MP D am h (cu m 0 0 ((fu (m 0 0) 0 0))) h2 := by rw [e3]; exact (MP.up (MP.rf hR) (lm0 (by decide)) ((fu (m 0 0) 0 0)) rfl)
    first
      | exact ⟨_, _, rfl, cp21, Or.inl (⟨rfl, by omega, (by repeat (first | exact SM.rf | refine SM.th ?_ | refine SM.o2 ?_ | refine SM.o14 ?_ | refine SM.sr ?_ | refine SM.ly (by assumption) (by assumption) ?_ | refine SM.bm ?_ | refine SM.st ?_ | refine SM.mv ?_ | refine SM.up (by decide) ?_))⟩)⟩
      | exact ⟨_, _, rfl, cp21, Or.inr (⟨rfl, by omega, by first | rfl | omega, (by repeat (first | exact SM.rf | refine SM.th ?_ | refine SM.o2 ?_ | refine SM.o14 ?_ | refine SM.sr ?_ | refine SM.ly (by assumption) (by assumption) ?_ | refine SM.bm ?_ | refine SM.st ?_ | refine SM.mv ?_ | refine SM.up (by decide) ?_))⟩)⟩

theorem kX8_author_0 : Cond.fieldLink "LedgeLevelsModel" 101 "LedgeLevelsModel" "thrown" "I" ∈ wsX8_author := by decide +kernel
theorem kX8_author_1 : ∀ w ∈ wsX80, w ∈ wsX8_author := by decide +kernel
theorem kX8_author_2 : Cond.fieldLink "LedgeLevelsModel" 46 "LedgeLevelsModel" "author" "[I" ∈ wsX8_author := by decide +kernel
set_option maxRecDepth 100000 in
set_option maxHeartbeats 1000000 in
theorem c_X8_author {l : Launch} {D : va_G} {A : Nat → Prop} {h : vh} {am : AD} {m : CS} {u : Int}  (hR : RepM D am m h) (hM1 : Mk1 m) (hi_u : -2147483648 ≤ u ∧ u ≤ 2147483647) : MX l D A yX8_author wsX8_author { frames := 2, cells := 0, slots := 0, locals := 43 } [.ref (am 0 0), vI u] h (fun rv h' => ∃ (r : Int) (m1 : CS), rv = some (vI r) ∧ MP D am h (m1) h' ∧ ((m1 0 0 0 = 1 ∧ (¬ (0 ≤ u ∧ u < m 0 0 14)) ∧ SM m m1) ∨ (m1 0 0 0 = 0 ∧ (0 ≤ u ∧ u < m 0 0 14) ∧ r = m 15 0 u.toNat ∧ SM m m1))) := by
  refine MX.of (cc := cX8_author) (maxL := 2) (ret := (some .int)) [(0, .ref (am 0 0)), (1, vI u)] (by decide +kernel) rfl rfl (Nat.le_of_ble_eq_true rfl) ?_
  intro κ C hkl G
  subst hkl
  have C : CX κ "LedgeLevelsModel" "author" cX8_author wsX8_author { frames := 2, cells := 0, slots := 0, locals := 43 } D A 2 := C
  have hiz : nq (D.1 20) (D.1 21) := cx_iz C
  obtain ⟨hM1a, hM1b⟩ := id hM1
  refine x_aload_n C dX8_author_0 0 rfl ?_
  refine x_iconst C dX8_author_1 0 (by decide) ?_
  have f1 : h (am 0 0) = some (eO 8 [vI (m 0 0 0), .ref (am 1 0), vI (m 0 0 2), .ref (am 3 0), .ref (am 4 0), .ref (am 5 0), .ref (am 6 0), .ref (am 7 0), .ref (am 8 0), .ref (am 9 0), .ref (am 10 0), .ref (am 11 0), .ref (am 12 0), .ref (am 13 0), vI (m 0 0 14), .ref (am 15 0), .ref (am 16 0), .ref (am 17 0), .ref (am 18 0), .ref (am 19 0), .ref (am 20 0), .ref (am 21 0), .ref (am 22 0), .ref (am 23 0), .ref (am 24 0), .ref (am 25 0), .ref (am 26 0), .ref (am 27 0), .ref (am 28 0), .ref (am 29 0), vI (((m 0 0 30).toNat : Nat) : Int), vI (m 0 0 31), vI (m 0 0 32), vI (((m 0 0 33).toNat : Nat) : Int), vI (m 0 0 34), .ref (am 35 0), .ref (am 36 0), .ref (am 37 0)]) := hR.1 0 0 (lm0 (by decide))
  refine x_put C f1 (T := TX8) rfl tyX8_ok nmX8 kX8_author_1 0 (by decide) kX8_author_0 rfl (fs' := [vI 0, .ref (am 1 0), vI (m 0 0 2), .ref (am 3 0), .ref (am 4 0), .ref (am 5 0), .ref (am 6 0), .ref (am 7 0), .ref (am 8 0), .ref (am 9 0), .ref (am 10 0), .ref (am 11 0), .ref (am 12 0), .ref (am 13 0), vI (m 0 0 14), .ref (am 15 0), .ref (am 16 0), .ref (am 17 0), .ref (am 18 0), .ref (am 19 0), .ref (am 20 0), .ref (am 21 0), .ref (am 22 0), .ref (am 23 0), .ref (am 24 0), .ref (am 25 0), .ref (am 26 0), .ref (am 27 0), .ref (am 28 0), .ref (am 29 0), vI (((m 0 0 30).toNat : Nat) : Int), vI (m 0 0 31), vI (m 0 0 32), vI (((m 0 0 33).toNat : Nat) : Int), vI (m 0 0 34), .ref (am 35 0), .ref (am 36 0), .ref (am 37 0)]) rfl rfl (by simp) rfl dX8_author_2 (x_hn (fun h2 e3 => ?_))
  have f4 : h2 (am 0 0) = some (eO 8 [vI 0, .ref (am 1 0), vI (m 0 0 2), .ref (am 3 0), .ref (am 4 0), .ref (am 5 0), .ref (am 6 0), .ref (am 7 0), .ref (am 8 0), .ref (am 9 0), .ref (am 10 0), .ref (am 11 0), .ref (am 12 0), .ref (am 13 0), vI (m 0 0 14), .ref (am 15 0), .ref (am 16 0), .ref (am 17 0), .ref (am 18 0), .ref (am 19 0), .ref (am 20 0), .ref (am 21 0), .ref (am 22 0), .ref (am 23 0), .ref (am 24 0), .ref (am 25 0), .ref (am 26 0), .ref (am 27 0), .ref (am 28 0), .ref (am 29 0), vI (((m 0 0 30).toNat : Nat) : Int), vI (m 0 0 31), vI (m 0 0 32), vI (((m 0 0 33).toNat : Nat) : Int), vI (m 0 0 34), .ref (am 35 0), .ref (am 36 0), .ref (am 37 0)]) := by rw [e3]; exact hu_s
  refine x_aload_n C dX8_author_5 0 rfl ?_
  refine x_iload_n C dX8_author_6 1 rfl ?_
  have cp6 : MP D am h (cu m 0 0 ((fu (m 0 0) 0 0))) h2 := by rw [e3]; exact (MP.up (MP.rf hR) (lm0 (by decide)) ((fu (m 0 0) 0 0)) rfl)
  refine x_callV C (n := 1) (qc := (RX8, TX8, 38)) (As := [vI u]) (rest := []) (c_X8_isWork (cp6.1) (hM1) (by omega)) gX8_author_X8_isWork (by decide +kernel) f4 rfl rfl rfl rfl (Nat.le_of_ble_eq_true rfl) ⟨by decide, by decide⟩ ⟨(by decide), (by decide)⟩ dX8_author_7 (fun rv7 h8 hp9 => ?_)
  obtain ⟨rfl, e10⟩ := hp9
  obtain rfl := e10.symm
  refine x_topv (show bI (0 ≤ u ∧ u ≤ ((cu m 0 0 ((fu (m 0 0) 0 0)))) 0 0 14 - 1) = bI (0 ≤ u ∧ u ≤ m 0 0 14 - 1) from by rfl) ?_
  have hbr5 := bI_cs ((0 ≤ u ∧ u ≤ m 0 0 14 - 1))
  refine x_if_eq (tgt := 22) C dX8_author_10 (by decide) (by omega) (fun c11 => ?_) (fun c11 => ?_)
  · skip
    refine x_aload_n C dX8_author_22 0 rfl ?_
    refine x_iconst C dX8_author_23 1 (by decide) ?_
    have cp12 : MP D am h (cu m 0 0 ((fu (m 0 0) 0 0))) h2 := by rw [e3]; exact (MP.up (MP.rf hR) (lm0 (by decide)) ((fu (m 0 0) 0 0)) rfl)
    refine x_callV C (n := 1) (qc := (RX8, TX8, 38)) (As := [vI 1]) (rest := []) (c_X8_fails (cp12.1)) gX8_author_X8_fails (by decide +kernel) f4 rfl rfl rfl rfl (Nat.le_of_ble_eq_true rfl) ⟨by decide, by decide⟩ ⟨(by decide), (by decide)⟩ dX8_author_24 (fun rv13 h14 hp15 => ?_)
    obtain ⟨rfl, cp17⟩ := hp15
    have cp18 : MP D am h ((cu ((cu m 0 0 ((fu (m 0 0) 0 0)))) 0 0 ((fu (((cu m 0 0 ((fu (m 0 0) 0 0)))) 0 0) 0 1)))) h14 := MP.trans cp12 cp17
    refine x_iret C G dX8_author_27 ?_ (by decide) (by decide)
    first
      | exact ⟨_, _, rfl, cp18, Or.inl (⟨rfl, by omega, (by repeat (first | exact SM.rf | refine SM.th ?_ | refine SM.o2 ?_ | refine SM.o14 ?_ | refine SM.sr ?_ | refine SM.ly (by assumption) (by assumption) ?_ | refine SM.bm ?_ | refine SM.st ?_ | refine SM.mv ?_ | refine SM.up (by decide) ?_))⟩)⟩
      | exact ⟨_, _, rfl, cp18, Or.inr (⟨rfl, by omega, by first | rfl | omega, (by repeat (first | exact SM.rf | refine SM.th ?_ | refine SM.o2 ?_ | refine SM.o14 ?_ | refine SM.sr ?_ | refine SM.ly (by assumption) (by assumption) ?_ | refine SM.bm ?_ | refine SM.st ?_ | refine SM.mv ?_ | refine SM.up (by decide) ?_))⟩)⟩
  · skip
    refine x_aload_n C dX8_author_13 0 rfl ?_
    refine x_get C (v := .ref (am 15 0)) f4 (T := TX8) rfl kX8_author_1 15 (by decide) kX8_author_2 rfl dX8_author_14 ?_
    refine x_iload_n C dX8_author_17 1 rfl ?_
    have f19 : h (am 15 0) = some (eI D 20 (m 15 0)) := hR.1 15 0 (lm0 (by decide))
    have f20 : h2 (am 15 0) = some (eI D 20 (m 15 0)) := by rw [e3, hu_n (hR.ne (lm0 (by decide)) (lm0 (by decide)) (fun zz9 => absurd zz9.1 (by decide)))]; exact f19
    refine x_iald C f20 ⟨by omega, by omega⟩ (by decide) dX8_author_18 ?_
    refine x_goto (tgt := 27) C dX8_author_19 (by decide) ?_
    refine x_iret C G dX8_author_27 ?_ (by decide) (by decide)
    have cp21 : MP D am h (cu m 0 0 ((fu (m 0 0) 0 0))) h2 := by rw [e3]; exact (MP.up (MP.rf hR) (lm0 (by decide)) ((fu (m 0 0) 0 0)) rfl)
    first
      | exact ⟨_, _, rfl, cp21, Or.inl (⟨rfl, by omega, (by repeat (first | exact SM.rf | refine SM.th ?_ | refine SM.o2 ?_ | refine SM.o14 ?_ | refine SM.sr ?_ | refine SM.ly (by assumption) (by assumption) ?_ | refine SM.bm ?_ | refine SM.st ?_ | refine SM.mv ?_ | refine SM.up (by decide) ?_))⟩)⟩
      | exact ⟨_, _, rfl, cp21, Or.inr (⟨rfl, by omega, by first | rfl | omega, (by repeat (first | exact SM.rf | refine SM.th ?_ | refine SM.o2 ?_ | refine SM.o14 ?_ | refine SM.sr ?_ | refine SM.ly (by assumption) (by assumption) ?_ | refine SM.bm ?_ | refine SM.st ?_ | refine SM.mv ?_ | refine SM.up (by decide) ?_))⟩)⟩

theorem kX8_best_0 : Cond.fieldLink "LedgeLevelsModel" 101 "LedgeLevelsModel" "thrown" "I" ∈ wsX8_best := by decide +kernel
theorem kX8_best_1 : ∀ w ∈ wsX80, w ∈ wsX8_best := by decide +kernel
theorem kX8_best_2 : Cond.fieldLink "LedgeLevelsModel" 55 "LedgeLevelsModel" "best" "[I" ∈ wsX8_best := by decide +kernel
set_option maxRecDepth 100000 in
set_option maxHeartbeats 1000000 in
theorem c_X8_best {l : Launch} {D : va_G} {A : Nat → Prop} {h : vh} {am : AD} {m : CS} {u : Int}  (hR : RepM D am m h) (hM1 : Mk1 m) (hi_u : -2147483648 ≤ u ∧ u ≤ 2147483647) : MX l D A yX8_best wsX8_best { frames := 2, cells := 0, slots := 0, locals := 43 } [.ref (am 0 0), vI u] h (fun rv h' => ∃ (r : Int) (m1 : CS), rv = some (vI r) ∧ MP D am h (m1) h' ∧ ((m1 0 0 0 = 1 ∧ (¬ (0 ≤ u ∧ u < m 0 0 14)) ∧ SM m m1) ∨ (m1 0 0 0 = 0 ∧ (0 ≤ u ∧ u < m 0 0 14) ∧ r = m 18 0 u.toNat ∧ SM m m1))) := by
  refine MX.of (cc := cX8_best) (maxL := 2) (ret := (some .int)) [(0, .ref (am 0 0)), (1, vI u)] (by decide +kernel) rfl rfl (Nat.le_of_ble_eq_true rfl) ?_
  intro κ C hkl G
  subst hkl
  have C : CX κ "LedgeLevelsModel" "best" cX8_best wsX8_best { frames := 2, cells := 0, slots := 0, locals := 43 } D A 2 := C
  have hiz : nq (D.1 20) (D.1 21) := cx_iz C
  obtain ⟨hM1a, hM1b⟩ := id hM1
  refine x_aload_n C dX8_best_0 0 rfl ?_
  refine x_iconst C dX8_best_1 0 (by decide) ?_
  have f1 : h (am 0 0) = some (eO 8 [vI (m 0 0 0), .ref (am 1 0), vI (m 0 0 2), .ref (am 3 0), .ref (am 4 0), .ref (am 5 0), .ref (am 6 0), .ref (am 7 0), .ref (am 8 0), .ref (am 9 0), .ref (am 10 0), .ref (am 11 0), .ref (am 12 0), .ref (am 13 0), vI (m 0 0 14), .ref (am 15 0), .ref (am 16 0), .ref (am 17 0), .ref (am 18 0), .ref (am 19 0), .ref (am 20 0), .ref (am 21 0), .ref (am 22 0), .ref (am 23 0), .ref (am 24 0), .ref (am 25 0), .ref (am 26 0), .ref (am 27 0), .ref (am 28 0), .ref (am 29 0), vI (((m 0 0 30).toNat : Nat) : Int), vI (m 0 0 31), vI (m 0 0 32), vI (((m 0 0 33).toNat : Nat) : Int), vI (m 0 0 34), .ref (am 35 0), .ref (am 36 0), .ref (am 37 0)]) := hR.1 0 0 (lm0 (by decide))
  refine x_put C f1 (T := TX8) rfl tyX8_ok nmX8 kX8_best_1 0 (by decide) kX8_best_0 rfl (fs' := [vI 0, .ref (am 1 0), vI (m 0 0 2), .ref (am 3 0), .ref (am 4 0), .ref (am 5 0), .ref (am 6 0), .ref (am 7 0), .ref (am 8 0), .ref (am 9 0), .ref (am 10 0), .ref (am 11 0), .ref (am 12 0), .ref (am 13 0), vI (m 0 0 14), .ref (am 15 0), .ref (am 16 0), .ref (am 17 0), .ref (am 18 0), .ref (am 19 0), .ref (am 20 0), .ref (am 21 0), .ref (am 22 0), .ref (am 23 0), .ref (am 24 0), .ref (am 25 0), .ref (am 26 0), .ref (am 27 0), .ref (am 28 0), .ref (am 29 0), vI (((m 0 0 30).toNat : Nat) : Int), vI (m 0 0 31), vI (m 0 0 32), vI (((m 0 0 33).toNat : Nat) : Int), vI (m 0 0 34), .ref (am 35 0), .ref (am 36 0), .ref (am 37 0)]) rfl rfl (by simp) rfl dX8_best_2 (x_hn (fun h2 e3 => ?_))
  have f4 : h2 (am 0 0) = some (eO 8 [vI 0, .ref (am 1 0), vI (m 0 0 2), .ref (am 3 0), .ref (am 4 0), .ref (am 5 0), .ref (am 6 0), .ref (am 7 0), .ref (am 8 0), .ref (am 9 0), .ref (am 10 0), .ref (am 11 0), .ref (am 12 0), .ref (am 13 0), vI (m 0 0 14), .ref (am 15 0), .ref (am 16 0), .ref (am 17 0), .ref (am 18 0), .ref (am 19 0), .ref (am 20 0), .ref (am 21 0), .ref (am 22 0), .ref (am 23 0), .ref (am 24 0), .ref (am 25 0), .ref (am 26 0), .ref (am 27 0), .ref (am 28 0), .ref (am 29 0), vI (((m 0 0 30).toNat : Nat) : Int), vI (m 0 0 31), vI (m 0 0 32), vI (((m 0 0 33).toNat : Nat) : Int), vI (m 0 0 34), .ref (am 35 0), .ref (am 36 0), .ref (am 37 0)]) := by rw [e3]; exact hu_s
  refine x_aload_n C dX8_best_5 0 rfl ?_
  refine x_iload_n C dX8_best_6 1 rfl ?_
  have cp6 : MP D am h (cu m 0 0 ((fu (m 0 0) 0 0))) h2 := by rw [e3]; exact (MP.up (MP.rf hR) (lm0 (by decide)) ((fu (m 0 0) 0 0)) rfl)
  refine x_callV C (n := 1) (qc := (RX8, TX8, 38)) (As := [vI u]) (rest := []) (c_X8_isWork (cp6.1) (hM1) (by omega)) gX8_best_X8_isWork (by decide +kernel) f4 rfl rfl rfl rfl (Nat.le_of_ble_eq_true rfl) ⟨by decide, by decide⟩ ⟨(by decide), (by decide)⟩ dX8_best_7 (fun rv7 h8 hp9 => ?_)
  obtain ⟨rfl, e10⟩ := hp9
  obtain rfl := e10.symm
  refine x_topv (show bI (0 ≤ u ∧ u ≤ ((cu m 0 0 ((fu (m 0 0) 0 0)))) 0 0 14 - 1) = bI (0 ≤ u ∧ u ≤ m 0 0 14 - 1) from by rfl) ?_
  have hbr5 := bI_cs ((0 ≤ u ∧ u ≤ m 0 0 14 - 1))
  refine x_if_eq (tgt := 22) C dX8_best_10 (by decide) (by omega) (fun c11 => ?_) (fun c11 => ?_)
  · skip
    refine x_aload_n C dX8_best_22 0 rfl ?_
    refine x_iconst C dX8_best_23 1 (by decide) ?_
    have cp12 : MP D am h (cu m 0 0 ((fu (m 0 0) 0 0))) h2 := by rw [e3]; exact (MP.up (MP.rf hR) (lm0 (by decide)) ((fu (m 0 0) 0 0)) rfl)
    refine x_callV C (n := 1) (qc := (RX8, TX8, 38)) (As := [vI 1]) (rest := []) (c_X8_fails (cp12.1)) gX8_best_X8_fails (by decide +kernel) f4 rfl rfl rfl rfl (Nat.le_of_ble_eq_true rfl) ⟨by decide, by decide⟩ ⟨(by decide), (by decide)⟩ dX8_best_24 (fun rv13 h14 hp15 => ?_)
    obtain ⟨rfl, cp17⟩ := hp15
    have cp18 : MP D am h ((cu ((cu m 0 0 ((fu (m 0 0) 0 0)))) 0 0 ((fu (((cu m 0 0 ((fu (m 0 0) 0 0)))) 0 0) 0 1)))) h14 := MP.trans cp12 cp17
    refine x_iret C G dX8_best_27 ?_ (by decide) (by decide)
    first
      | exact ⟨_, _, rfl, cp18, Or.inl (⟨rfl, by omega, (by repeat (first | exact SM.rf | refine SM.th ?_ | refine SM.o2 ?_ | refine SM.o14 ?_ | refine SM.sr ?_ | refine SM.ly (by assumption) (by assumption) ?_ | refine SM.bm ?_ | refine SM.st ?_ | refine SM.mv ?_ | refine SM.up (by decide) ?_))⟩)⟩
      | exact ⟨_, _, rfl, cp18, Or.inr (⟨rfl, by omega, by first | rfl | omega, (by repeat (first | exact SM.rf | refine SM.th ?_ | refine SM.o2 ?_ | refine SM.o14 ?_ | refine SM.sr ?_ | refine SM.ly (by assumption) (by assumption) ?_ | refine SM.bm ?_ | refine SM.st ?_ | refine SM.mv ?_ | refine SM.up (by decide) ?_))⟩)⟩
  · skip
    refine x_aload_n C dX8_best_13 0 rfl ?_
    refine x_get C (v := .ref (am 18 0)) f4 (T := TX8) rfl kX8_best_1 18 (by decide) kX8_best_2 rfl dX8_best_14 ?_
    refine x_iload_n C dX8_best_17 1 rfl ?_
    have f19 : h (am 18 0) = some (eI D 20 (m 18 0)) := hR.1 18 0 (lm0 (by decide))
    have f20 : h2 (am 18 0) = some (eI D 20 (m 18 0)) := by rw [e3, hu_n (hR.ne (lm0 (by decide)) (lm0 (by decide)) (fun zz9 => absurd zz9.1 (by decide)))]; exact f19
    refine x_iald C f20 ⟨by omega, by omega⟩ (by decide) dX8_best_18 ?_
    refine x_goto (tgt := 27) C dX8_best_19 (by decide) ?_
    refine x_iret C G dX8_best_27 ?_ (by decide) (by decide)
    have cp21 : MP D am h (cu m 0 0 ((fu (m 0 0) 0 0))) h2 := by rw [e3]; exact (MP.up (MP.rf hR) (lm0 (by decide)) ((fu (m 0 0) 0 0)) rfl)
    first
      | exact ⟨_, _, rfl, cp21, Or.inl (⟨rfl, by omega, (by repeat (first | exact SM.rf | refine SM.th ?_ | refine SM.o2 ?_ | refine SM.o14 ?_ | refine SM.sr ?_ | refine SM.ly (by assumption) (by assumption) ?_ | refine SM.bm ?_ | refine SM.st ?_ | refine SM.mv ?_ | refine SM.up (by decide) ?_))⟩)⟩
      | exact ⟨_, _, rfl, cp21, Or.inr (⟨rfl, by omega, by first | rfl | omega, (by repeat (first | exact SM.rf | refine SM.th ?_ | refine SM.o2 ?_ | refine SM.o14 ?_ | refine SM.sr ?_ | refine SM.ly (by assumption) (by assumption) ?_ | refine SM.bm ?_ | refine SM.st ?_ | refine SM.mv ?_ | refine SM.up (by decide) ?_))⟩)⟩

theorem kX8_parent_0 : Cond.fieldLink "LedgeLevelsModel" 101 "LedgeLevelsModel" "thrown" "I" ∈ wsX8_parent := by decide +kernel
theorem kX8_parent_1 : ∀ w ∈ wsX80, w ∈ wsX8_parent := by decide +kernel
theorem kX8_parent_2 : Cond.fieldLink "LedgeLevelsModel" 58 "LedgeLevelsModel" "parent" "[I" ∈ wsX8_parent := by decide +kernel
set_option maxRecDepth 100000 in
set_option maxHeartbeats 1000000 in
theorem c_X8_parent {l : Launch} {D : va_G} {A : Nat → Prop} {h : vh} {am : AD} {m : CS} {u : Int}  (hR : RepM D am m h) (hM1 : Mk1 m) (hi_u : -2147483648 ≤ u ∧ u ≤ 2147483647) : MX l D A yX8_parent wsX8_parent { frames := 2, cells := 0, slots := 0, locals := 43 } [.ref (am 0 0), vI u] h (fun rv h' => ∃ (r : Int) (m1 : CS), rv = some (vI r) ∧ MP D am h (m1) h' ∧ ((m1 0 0 0 = 1 ∧ (¬ (0 ≤ u ∧ u < m 0 0 14)) ∧ SM m m1) ∨ (m1 0 0 0 = 0 ∧ (0 ≤ u ∧ u < m 0 0 14) ∧ r = m 19 0 u.toNat ∧ SM m m1))) := by
  refine MX.of (cc := cX8_parent) (maxL := 2) (ret := (some .int)) [(0, .ref (am 0 0)), (1, vI u)] (by decide +kernel) rfl rfl (Nat.le_of_ble_eq_true rfl) ?_
  intro κ C hkl G
  subst hkl
  have C : CX κ "LedgeLevelsModel" "parent" cX8_parent wsX8_parent { frames := 2, cells := 0, slots := 0, locals := 43 } D A 2 := C
  have hiz : nq (D.1 20) (D.1 21) := cx_iz C
  obtain ⟨hM1a, hM1b⟩ := id hM1
  refine x_aload_n C dX8_parent_0 0 rfl ?_
  refine x_iconst C dX8_parent_1 0 (by decide) ?_
  have f1 : h (am 0 0) = some (eO 8 [vI (m 0 0 0), .ref (am 1 0), vI (m 0 0 2), .ref (am 3 0), .ref (am 4 0), .ref (am 5 0), .ref (am 6 0), .ref (am 7 0), .ref (am 8 0), .ref (am 9 0), .ref (am 10 0), .ref (am 11 0), .ref (am 12 0), .ref (am 13 0), vI (m 0 0 14), .ref (am 15 0), .ref (am 16 0), .ref (am 17 0), .ref (am 18 0), .ref (am 19 0), .ref (am 20 0), .ref (am 21 0), .ref (am 22 0), .ref (am 23 0), .ref (am 24 0), .ref (am 25 0), .ref (am 26 0), .ref (am 27 0), .ref (am 28 0), .ref (am 29 0), vI (((m 0 0 30).toNat : Nat) : Int), vI (m 0 0 31), vI (m 0 0 32), vI (((m 0 0 33).toNat : Nat) : Int), vI (m 0 0 34), .ref (am 35 0), .ref (am 36 0), .ref (am 37 0)]) := hR.1 0 0 (lm0 (by decide))
  refine x_put C f1 (T := TX8) rfl tyX8_ok nmX8 kX8_parent_1 0 (by decide) kX8_parent_0 rfl (fs' := [vI 0, .ref (am 1 0), vI (m 0 0 2), .ref (am 3 0), .ref (am 4 0), .ref (am 5 0), .ref (am 6 0), .ref (am 7 0), .ref (am 8 0), .ref (am 9 0), .ref (am 10 0), .ref (am 11 0), .ref (am 12 0), .ref (am 13 0), vI (m 0 0 14), .ref (am 15 0), .ref (am 16 0), .ref (am 17 0), .ref (am 18 0), .ref (am 19 0), .ref (am 20 0), .ref (am 21 0), .ref (am 22 0), .ref (am 23 0), .ref (am 24 0), .ref (am 25 0), .ref (am 26 0), .ref (am 27 0), .ref (am 28 0), .ref (am 29 0), vI (((m 0 0 30).toNat : Nat) : Int), vI (m 0 0 31), vI (m 0 0 32), vI (((m 0 0 33).toNat : Nat) : Int), vI (m 0 0 34), .ref (am 35 0), .ref (am 36 0), .ref (am 37 0)]) rfl rfl (by simp) rfl dX8_parent_2 (x_hn (fun h2 e3 => ?_))
  have f4 : h2 (am 0 0) = some (eO 8 [vI 0, .ref (am 1 0), vI (m 0 0 2), .ref (am 3 0), .ref (am 4 0), .ref (am 5 0), .ref (am 6 0), .ref (am 7 0), .ref (am 8 0), .ref (am 9 0), .ref (am 10 0), .ref (am 11 0), .ref (am 12 0), .ref (am 13 0), vI (m 0 0 14), .ref (am 15 0), .ref (am 16 0), .ref (am 17 0), .ref (am 18 0), .ref (am 19 0), .ref (am 20 0), .ref (am 21 0), .ref (am 22 0), .ref (am 23 0), .ref (am 24 0), .ref (am 25 0), .ref (am 26 0), .ref (am 27 0), .ref (am 28 0), .ref (am 29 0), vI (((m 0 0 30).toNat : Nat) : Int), vI (m 0 0 31), vI (m 0 0 32), vI (((m 0 0 33).toNat : Nat) : Int), vI (m 0 0 34), .ref (am 35 0), .ref (am 36 0), .ref (am 37 0)]) := by rw [e3]; exact hu_s
  refine x_aload_n C dX8_parent_5 0 rfl ?_
  refine x_iload_n C dX8_parent_6 1 rfl ?_
  have cp6 : MP D am h (cu m 0 0 ((fu (m 0 0) 0 0))) h2 := by rw [e3]; exact (MP.up (MP.rf hR) (lm0 (by decide)) ((fu (m 0 0) 0 0)) rfl)
  refine x_callV C (n := 1) (qc := (RX8, TX8, 38)) (As := [vI u]) (rest := []) (c_X8_isWork (cp6.1) (hM1) (by omega)) gX8_parent_X8_isWork (by decide +kernel) f4 rfl rfl rfl rfl (Nat.le_of_ble_eq_true rfl) ⟨by decide, by decide⟩ ⟨(by decide), (by decide)⟩ dX8_parent_7 (fun rv7 h8 hp9 => ?_)
  obtain ⟨rfl, e10⟩ := hp9
  obtain rfl := e10.symm
  refine x_topv (show bI (0 ≤ u ∧ u ≤ ((cu m 0 0 ((fu (m 0 0) 0 0)))) 0 0 14 - 1) = bI (0 ≤ u ∧ u ≤ m 0 0 14 - 1) from by rfl) ?_
  have hbr5 := bI_cs ((0 ≤ u ∧ u ≤ m 0 0 14 - 1))
  refine x_if_eq (tgt := 22) C dX8_parent_10 (by decide) (by omega) (fun c11 => ?_) (fun c11 => ?_)
  · skip
    refine x_aload_n C dX8_parent_22 0 rfl ?_
    refine x_iconst C dX8_parent_23 1 (by decide) ?_
    have cp12 : MP D am h (cu m 0 0 ((fu (m 0 0) 0 0))) h2 := by rw [e3]; exact (MP.up (MP.rf hR) (lm0 (by decide)) ((fu (m 0 0) 0 0)) rfl)
    refine x_callV C (n := 1) (qc := (RX8, TX8, 38)) (As := [vI 1]) (rest := []) (c_X8_fails (cp12.1)) gX8_parent_X8_fails (by decide +kernel) f4 rfl rfl rfl rfl (Nat.le_of_ble_eq_true rfl) ⟨by decide, by decide⟩ ⟨(by decide), (by decide)⟩ dX8_parent_24 (fun rv13 h14 hp15 => ?_)
    obtain ⟨rfl, cp17⟩ := hp15
    have cp18 : MP D am h ((cu ((cu m 0 0 ((fu (m 0 0) 0 0)))) 0 0 ((fu (((cu m 0 0 ((fu (m 0 0) 0 0)))) 0 0) 0 1)))) h14 := MP.trans cp12 cp17
    refine x_iret C G dX8_parent_27 ?_ (by decide) (by decide)
    first
      | exact ⟨_, _, rfl, cp18, Or.inl (⟨rfl, by omega, (by repeat (first | exact SM.rf | refine SM.th ?_ | refine SM.o2 ?_ | refine SM.o14 ?_ | refine SM.sr ?_ | refine SM.ly (by assumption) (by assumption) ?_ | refine SM.bm ?_ | refine SM.st ?_ | refine SM.mv ?_ | refine SM.up (by decide) ?_))⟩)⟩
      | exact ⟨_, _, rfl, cp18, Or.inr (⟨rfl, by omega, by first | rfl | omega, (by repeat (first | exact SM.rf | refine SM.th ?_ | refine SM.o2 ?_ | refine SM.o14 ?_ | refine SM.sr ?_ | refine SM.ly (by assumption) (by assumption) ?_ | refine SM.bm ?_ | refine SM.st ?_ | refine SM.mv ?_ | refine SM.up (by decide) ?_))⟩)⟩
  · skip
    refine x_aload_n C dX8_parent_13 0 rfl ?_
    refine x_get C (v := .ref (am 19 0)) f4 (T := TX8) rfl kX8_parent_1 19 (by decide) kX8_parent_2 rfl dX8_parent_14 ?_
    refine x_iload_n C dX8_parent_17 1 rfl ?_
    have f19 : h (am 19 0) = some (eI D 20 (m 19 0)) := hR.1 19 0 (lm0 (by decide))
    have f20 : h2 (am 19 0) = some (eI D 20 (m 19 0)) := by rw [e3, hu_n (hR.ne (lm0 (by decide)) (lm0 (by decide)) (fun zz9 => absurd zz9.1 (by decide)))]; exact f19
    refine x_iald C f20 ⟨by omega, by omega⟩ (by decide) dX8_parent_18 ?_
    refine x_goto (tgt := 27) C dX8_parent_19 (by decide) ?_
    refine x_iret C G dX8_parent_27 ?_ (by decide) (by decide)
    have cp21 : MP D am h (cu m 0 0 ((fu (m 0 0) 0 0))) h2 := by rw [e3]; exact (MP.up (MP.rf hR) (lm0 (by decide)) ((fu (m 0 0) 0 0)) rfl)
    first
      | exact ⟨_, _, rfl, cp21, Or.inl (⟨rfl, by omega, (by repeat (first | exact SM.rf | refine SM.th ?_ | refine SM.o2 ?_ | refine SM.o14 ?_ | refine SM.sr ?_ | refine SM.ly (by assumption) (by assumption) ?_ | refine SM.bm ?_ | refine SM.st ?_ | refine SM.mv ?_ | refine SM.up (by decide) ?_))⟩)⟩
      | exact ⟨_, _, rfl, cp21, Or.inr (⟨rfl, by omega, by first | rfl | omega, (by repeat (first | exact SM.rf | refine SM.th ?_ | refine SM.o2 ?_ | refine SM.o14 ?_ | refine SM.sr ?_ | refine SM.ly (by assumption) (by assumption) ?_ | refine SM.bm ?_ | refine SM.st ?_ | refine SM.mv ?_ | refine SM.up (by decide) ?_))⟩)⟩

theorem kX8_record_0 : Cond.fieldLink "LedgeLevelsModel" 101 "LedgeLevelsModel" "thrown" "I" ∈ wsX8_record := by decide +kernel
theorem kX8_record_1 : ∀ w ∈ wsX80, w ∈ wsX8_record := by decide +kernel
theorem kX8_record_2 : Cond.fieldLink "LedgeLevelsModel" 61 "LedgeLevelsModel" "record" "[I" ∈ wsX8_record := by decide +kernel
set_option maxRecDepth 100000 in
set_option maxHeartbeats 1000000 in
theorem c_X8_record {l : Launch} {D : va_G} {A : Nat → Prop} {h : vh} {am : AD} {m : CS} {u : Int}  (hR : RepM D am m h) (hM1 : Mk1 m) (hi_u : -2147483648 ≤ u ∧ u ≤ 2147483647) : MX l D A yX8_record wsX8_record { frames := 2, cells := 0, slots := 0, locals := 43 } [.ref (am 0 0), vI u] h (fun rv h' => ∃ (r : Int) (m1 : CS), rv = some (vI r) ∧ MP D am h (m1) h' ∧ ((m1 0 0 0 = 1 ∧ (¬ (0 ≤ u ∧ u < m 0 0 14)) ∧ SM m m1) ∨ (m1 0 0 0 = 0 ∧ (0 ≤ u ∧ u < m 0 0 14) ∧ r = m 20 0 u.toNat ∧ SM m m1))) := by
  refine MX.of (cc := cX8_record) (maxL := 2) (ret := (some .int)) [(0, .ref (am 0 0)), (1, vI u)] (by decide +kernel) rfl rfl (Nat.le_of_ble_eq_true rfl) ?_
  intro κ C hkl G
  subst hkl
  have C : CX κ "LedgeLevelsModel" "record" cX8_record wsX8_record { frames := 2, cells := 0, slots := 0, locals := 43 } D A 2 := C
  have hiz : nq (D.1 20) (D.1 21) := cx_iz C
  obtain ⟨hM1a, hM1b⟩ := id hM1
  refine x_aload_n C dX8_record_0 0 rfl ?_
  refine x_iconst C dX8_record_1 0 (by decide) ?_
  have f1 : h (am 0 0) = some (eO 8 [vI (m 0 0 0), .ref (am 1 0), vI (m 0 0 2), .ref (am 3 0), .ref (am 4 0), .ref (am 5 0), .ref (am 6 0), .ref (am 7 0), .ref (am 8 0), .ref (am 9 0), .ref (am 10 0), .ref (am 11 0), .ref (am 12 0), .ref (am 13 0), vI (m 0 0 14), .ref (am 15 0), .ref (am 16 0), .ref (am 17 0), .ref (am 18 0), .ref (am 19 0), .ref (am 20 0), .ref (am 21 0), .ref (am 22 0), .ref (am 23 0), .ref (am 24 0), .ref (am 25 0), .ref (am 26 0), .ref (am 27 0), .ref (am 28 0), .ref (am 29 0), vI (((m 0 0 30).toNat : Nat) : Int), vI (m 0 0 31), vI (m 0 0 32), vI (((m 0 0 33).toNat : Nat) : Int), vI (m 0 0 34), .ref (am 35 0), .ref (am 36 0), .ref (am 37 0)]) := hR.1 0 0 (lm0 (by decide))
  refine x_put C f1 (T := TX8) rfl tyX8_ok nmX8 kX8_record_1 0 (by decide) kX8_record_0 rfl (fs' := [vI 0, .ref (am 1 0), vI (m 0 0 2), .ref (am 3 0), .ref (am 4 0), .ref (am 5 0), .ref (am 6 0), .ref (am 7 0), .ref (am 8 0), .ref (am 9 0), .ref (am 10 0), .ref (am 11 0), .ref (am 12 0), .ref (am 13 0), vI (m 0 0 14), .ref (am 15 0), .ref (am 16 0), .ref (am 17 0), .ref (am 18 0), .ref (am 19 0), .ref (am 20 0), .ref (am 21 0), .ref (am 22 0), .ref (am 23 0), .ref (am 24 0), .ref (am 25 0), .ref (am 26 0), .ref (am 27 0), .ref (am 28 0), .ref (am 29 0), vI (((m 0 0 30).toNat : Nat) : Int), vI (m 0 0 31), vI (m 0 0 32), vI (((m 0 0 33).toNat : Nat) : Int), vI (m 0 0 34), .ref (am 35 0), .ref (am 36 0), .ref (am 37 0)]) rfl rfl (by simp) rfl dX8_record_2 (x_hn (fun h2 e3 => ?_))
  have f4 : h2 (am 0 0) = some (eO 8 [vI 0, .ref (am 1 0), vI (m 0 0 2), .ref (am 3 0), .ref (am 4 0), .ref (am 5 0), .ref (am 6 0), .ref (am 7 0), .ref (am 8 0), .ref (am 9 0), .ref (am 10 0), .ref (am 11 0), .ref (am 12 0), .ref (am 13 0), vI (m 0 0 14), .ref (am 15 0), .ref (am 16 0), .ref (am 17 0), .ref (am 18 0), .ref (am 19 0), .ref (am 20 0), .ref (am 21 0), .ref (am 22 0), .ref (am 23 0), .ref (am 24 0), .ref (am 25 0), .ref (am 26 0), .ref (am 27 0), .ref (am 28 0), .ref (am 29 0), vI (((m 0 0 30).toNat : Nat) : Int), vI (m 0 0 31), vI (m 0 0 32), vI (((m 0 0 33).toNat : Nat) : Int), vI (m 0 0 34), .ref (am 35 0), .ref (am 36 0), .ref (am 37 0)]) := by rw [e3]; exact hu_s
  refine x_aload_n C dX8_record_5 0 rfl ?_
  refine x_iload_n C dX8_record_6 1 rfl ?_
  have cp6 : MP D am h (cu m 0 0 ((fu (m 0 0) 0 0))) h2 := by rw [e3]; exact (MP.up (MP.rf hR) (lm0 (by decide)) ((fu (m 0 0) 0 0)) rfl)
  refine x_callV C (n := 1) (qc := (RX8, TX8, 38)) (As := [vI u]) (rest := []) (c_X8_isWork (cp6.1) (hM1) (by omega)) gX8_record_X8_isWork (by decide +kernel) f4 rfl rfl rfl rfl (Nat.le_of_ble_eq_true rfl) ⟨by decide, by decide⟩ ⟨(by decide), (by decide)⟩ dX8_record_7 (fun rv7 h8 hp9 => ?_)
  obtain ⟨rfl, e10⟩ := hp9
  obtain rfl := e10.symm
  refine x_topv (show bI (0 ≤ u ∧ u ≤ ((cu m 0 0 ((fu (m 0 0) 0 0)))) 0 0 14 - 1) = bI (0 ≤ u ∧ u ≤ m 0 0 14 - 1) from by rfl) ?_
  have hbr5 := bI_cs ((0 ≤ u ∧ u ≤ m 0 0 14 - 1))
  refine x_if_eq (tgt := 22) C dX8_record_10 (by decide) (by omega) (fun c11 => ?_) (fun c11 => ?_)
  · skip
    refine x_aload_n C dX8_record_22 0 rfl ?_
    refine x_iconst C dX8_record_23 1 (by decide) ?_
    have cp12 : MP D am h (cu m 0 0 ((fu (m 0 0) 0 0))) h2 := by rw [e3]; exact (MP.up (MP.rf hR) (lm0 (by decide)) ((fu (m 0 0) 0 0)) rfl)
    refine x_callV C (n := 1) (qc := (RX8, TX8, 38)) (As := [vI 1]) (rest := []) (c_X8_fails (cp12.1)) gX8_record_X8_fails (by decide +kernel) f4 rfl rfl rfl rfl (Nat.le_of_ble_eq_true rfl) ⟨by decide, by decide⟩ ⟨(by decide), (by decide)⟩ dX8_record_24 (fun rv13 h14 hp15 => ?_)
    obtain ⟨rfl, cp17⟩ := hp15
    have cp18 : MP D am h ((cu ((cu m 0 0 ((fu (m 0 0) 0 0)))) 0 0 ((fu (((cu m 0 0 ((fu (m 0 0) 0 0)))) 0 0) 0 1)))) h14 := MP.trans cp12 cp17
    refine x_iret C G dX8_record_27 ?_ (by decide) (by decide)
    first
      | exact ⟨_, _, rfl, cp18, Or.inl (⟨rfl, by omega, (by repeat (first | exact SM.rf | refine SM.th ?_ | refine SM.o2 ?_ | refine SM.o14 ?_ | refine SM.sr ?_ | refine SM.ly (by assumption) (by assumption) ?_ | refine SM.bm ?_ | refine SM.st ?_ | refine SM.mv ?_ | refine SM.up (by decide) ?_))⟩)⟩
      | exact ⟨_, _, rfl, cp18, Or.inr (⟨rfl, by omega, by first | rfl | omega, (by repeat (first | exact SM.rf | refine SM.th ?_ | refine SM.o2 ?_ | refine SM.o14 ?_ | refine SM.sr ?_ | refine SM.ly (by assumption) (by assumption) ?_ | refine SM.bm ?_ | refine SM.st ?_ | refine SM.mv ?_ | refine SM.up (by decide) ?_))⟩)⟩
  · skip
    refine x_aload_n C dX8_record_13 0 rfl ?_
    refine x_get C (v := .ref (am 20 0)) f4 (T := TX8) rfl kX8_record_1 20 (by decide) kX8_record_2 rfl dX8_record_14 ?_
    refine x_iload_n C dX8_record_17 1 rfl ?_
    have f19 : h (am 20 0) = some (eI D 20 (m 20 0)) := hR.1 20 0 (lm0 (by decide))
    have f20 : h2 (am 20 0) = some (eI D 20 (m 20 0)) := by rw [e3, hu_n (hR.ne (lm0 (by decide)) (lm0 (by decide)) (fun zz9 => absurd zz9.1 (by decide)))]; exact f19
    refine x_iald C f20 ⟨by omega, by omega⟩ (by decide) dX8_record_18 ?_
    refine x_goto (tgt := 27) C dX8_record_19 (by decide) ?_
    refine x_iret C G dX8_record_27 ?_ (by decide) (by decide)
    have cp21 : MP D am h (cu m 0 0 ((fu (m 0 0) 0 0))) h2 := by rw [e3]; exact (MP.up (MP.rf hR) (lm0 (by decide)) ((fu (m 0 0) 0 0)) rfl)
    first
      | exact ⟨_, _, rfl, cp21, Or.inl (⟨rfl, by omega, (by repeat (first | exact SM.rf | refine SM.th ?_ | refine SM.o2 ?_ | refine SM.o14 ?_ | refine SM.sr ?_ | refine SM.ly (by assumption) (by assumption) ?_ | refine SM.bm ?_ | refine SM.st ?_ | refine SM.mv ?_ | refine SM.up (by decide) ?_))⟩)⟩
      | exact ⟨_, _, rfl, cp21, Or.inr (⟨rfl, by omega, by first | rfl | omega, (by repeat (first | exact SM.rf | refine SM.th ?_ | refine SM.o2 ?_ | refine SM.o14 ?_ | refine SM.sr ?_ | refine SM.ly (by assumption) (by assumption) ?_ | refine SM.bm ?_ | refine SM.st ?_ | refine SM.mv ?_ | refine SM.up (by decide) ?_))⟩)⟩

theorem kX8_runState_0 : Cond.fieldLink "LedgeLevelsModel" 101 "LedgeLevelsModel" "thrown" "I" ∈ wsX8_runState := by decide +kernel
theorem kX8_runState_1 : ∀ w ∈ wsX80, w ∈ wsX8_runState := by decide +kernel
theorem kX8_runState_2 : Cond.fieldLink "LedgeLevelsModel" 67 "LedgeLevelsModel" "runState" "[I" ∈ wsX8_runState := by decide +kernel
set_option maxRecDepth 100000 in
set_option maxHeartbeats 1000000 in
theorem c_X8_runState {l : Launch} {D : va_G} {A : Nat → Prop} {h : vh} {am : AD} {m : CS} {u : Int}  (hR : RepM D am m h) (hM1 : Mk1 m) (hi_u : -2147483648 ≤ u ∧ u ≤ 2147483647) : MX l D A yX8_runState wsX8_runState { frames := 2, cells := 0, slots := 0, locals := 42 } [.ref (am 0 0), vI u] h (fun rv h' => ∃ (r : Int) (m1 : CS), rv = some (vI r) ∧ MP D am h (m1) h' ∧ ((m1 0 0 0 = 1 ∧ (¬ (0 ≤ u ∧ u < 6)) ∧ SM m m1) ∨ (m1 0 0 0 = 0 ∧ (0 ≤ u ∧ u < 6) ∧ r = m 22 0 u.toNat ∧ SM m m1))) := by
  refine MX.of (cc := cX8_runState) (maxL := 2) (ret := (some .int)) [(0, .ref (am 0 0)), (1, vI u)] (by decide +kernel) rfl rfl (Nat.le_of_ble_eq_true rfl) ?_
  intro κ C hkl G
  subst hkl
  have C : CX κ "LedgeLevelsModel" "runState" cX8_runState wsX8_runState { frames := 2, cells := 0, slots := 0, locals := 42 } D A 2 := C
  have hiz : nq (D.1 20) (D.1 21) := cx_iz C
  obtain ⟨hM1a, hM1b⟩ := id hM1
  refine x_aload_n C dX8_runState_0 0 rfl ?_
  refine x_iconst C dX8_runState_1 0 (by decide) ?_
  have f1 : h (am 0 0) = some (eO 8 [vI (m 0 0 0), .ref (am 1 0), vI (m 0 0 2), .ref (am 3 0), .ref (am 4 0), .ref (am 5 0), .ref (am 6 0), .ref (am 7 0), .ref (am 8 0), .ref (am 9 0), .ref (am 10 0), .ref (am 11 0), .ref (am 12 0), .ref (am 13 0), vI (m 0 0 14), .ref (am 15 0), .ref (am 16 0), .ref (am 17 0), .ref (am 18 0), .ref (am 19 0), .ref (am 20 0), .ref (am 21 0), .ref (am 22 0), .ref (am 23 0), .ref (am 24 0), .ref (am 25 0), .ref (am 26 0), .ref (am 27 0), .ref (am 28 0), .ref (am 29 0), vI (((m 0 0 30).toNat : Nat) : Int), vI (m 0 0 31), vI (m 0 0 32), vI (((m 0 0 33).toNat : Nat) : Int), vI (m 0 0 34), .ref (am 35 0), .ref (am 36 0), .ref (am 37 0)]) := hR.1 0 0 (lm0 (by decide))
  refine x_put C f1 (T := TX8) rfl tyX8_ok nmX8 kX8_runState_1 0 (by decide) kX8_runState_0 rfl (fs' := [vI 0, .ref (am 1 0), vI (m 0 0 2), .ref (am 3 0), .ref (am 4 0), .ref (am 5 0), .ref (am 6 0), .ref (am 7 0), .ref (am 8 0), .ref (am 9 0), .ref (am 10 0), .ref (am 11 0), .ref (am 12 0), .ref (am 13 0), vI (m 0 0 14), .ref (am 15 0), .ref (am 16 0), .ref (am 17 0), .ref (am 18 0), .ref (am 19 0), .ref (am 20 0), .ref (am 21 0), .ref (am 22 0), .ref (am 23 0), .ref (am 24 0), .ref (am 25 0), .ref (am 26 0), .ref (am 27 0), .ref (am 28 0), .ref (am 29 0), vI (((m 0 0 30).toNat : Nat) : Int), vI (m 0 0 31), vI (m 0 0 32), vI (((m 0 0 33).toNat : Nat) : Int), vI (m 0 0 34), .ref (am 35 0), .ref (am 36 0), .ref (am 37 0)]) rfl rfl (by simp) rfl dX8_runState_2 (x_hn (fun h2 e3 => ?_))
  have f4 : h2 (am 0 0) = some (eO 8 [vI 0, .ref (am 1 0), vI (m 0 0 2), .ref (am 3 0), .ref (am 4 0), .ref (am 5 0), .ref (am 6 0), .ref (am 7 0), .ref (am 8 0), .ref (am 9 0), .ref (am 10 0), .ref (am 11 0), .ref (am 12 0), .ref (am 13 0), vI (m 0 0 14), .ref (am 15 0), .ref (am 16 0), .ref (am 17 0), .ref (am 18 0), .ref (am 19 0), .ref (am 20 0), .ref (am 21 0), .ref (am 22 0), .ref (am 23 0), .ref (am 24 0), .ref (am 25 0), .ref (am 26 0), .ref (am 27 0), .ref (am 28 0), .ref (am 29 0), vI (((m 0 0 30).toNat : Nat) : Int), vI (m 0 0 31), vI (m 0 0 32), vI (((m 0 0 33).toNat : Nat) : Int), vI (m 0 0 34), .ref (am 35 0), .ref (am 36 0), .ref (am 37 0)]) := by rw [e3]; exact hu_s
  refine x_iload_n C dX8_runState_5 1 rfl ?_
  refine x_callS C (n := 1) (As := [vI u]) (rest := []) (c_X8_isPerson (by omega)) gX8_runState_X8_isPerson (by decide +kernel) rfl rfl rfl (Nat.le_of_ble_eq_true rfl) ⟨by decide, by decide⟩ ⟨(by decide), (by decide)⟩ dX8_runState_6 (fun rv6 h7 hp8 => ?_)
  obtain ⟨rfl, e9⟩ := hp8
  obtain rfl := e9.symm
  have hbr5 := bI_cs ((0 ≤ u ∧ u ≤ 5))
  refine x_if_eq (tgt := 21) C dX8_runState_9 (by decide) (by omega) (fun c10 => ?_) (fun c10 => ?_)
  · skip
    refine x_aload_n C dX8_runState_21 0 rfl ?_
    refine x_iconst C dX8_runState_22 1 (by decide) ?_
    have cp11 : MP D am h (cu m 0 0 ((fu (m 0 0) 0 0))) h2 := by rw [e3]; exact (MP.up (MP.rf hR) (lm0 (by decide)) ((fu (m 0 0) 0 0)) rfl)
    refine x_callV C (n := 1) (qc := (RX8, TX8, 38)) (As := [vI 1]) (rest := []) (c_X8_fails (cp11.1)) gX8_runState_X8_fails (by decide +kernel) f4 rfl rfl rfl rfl (Nat.le_of_ble_eq_true rfl) ⟨by decide, by decide⟩ ⟨(by decide), (by decide)⟩ dX8_runState_23 (fun rv12 h13 hp14 => ?_)
    obtain ⟨rfl, cp16⟩ := hp14
    have cp17 : MP D am h ((cu ((cu m 0 0 ((fu (m 0 0) 0 0)))) 0 0 ((fu (((cu m 0 0 ((fu (m 0 0) 0 0)))) 0 0) 0 1)))) h13 := MP.trans cp11 cp16
    refine x_iret C G dX8_runState_26 ?_ (by decide) (by decide)
    first
      | exact ⟨_, _, rfl, cp17, Or.inl (⟨rfl, by omega, (by repeat (first | exact SM.rf | refine SM.th ?_ | refine SM.o2 ?_ | refine SM.o14 ?_ | refine SM.sr ?_ | refine SM.ly (by assumption) (by assumption) ?_ | refine SM.bm ?_ | refine SM.st ?_ | refine SM.mv ?_ | refine SM.up (by decide) ?_))⟩)⟩
      | exact ⟨_, _, rfl, cp17, Or.inr (⟨rfl, by omega, by first | rfl | omega, (by repeat (first | exact SM.rf | refine SM.th ?_ | refine SM.o2 ?_ | refine SM.o14 ?_ | refine SM.sr ?_ | refine SM.ly (by assumption) (by assumption) ?_ | refine SM.bm ?_ | refine SM.st ?_ | refine SM.mv ?_ | refine SM.up (by decide) ?_))⟩)⟩
  · skip
    refine x_aload_n C dX8_runState_12 0 rfl ?_
    refine x_get C (v := .ref (am 22 0)) f4 (T := TX8) rfl kX8_runState_1 22 (by decide) kX8_runState_2 rfl dX8_runState_13 ?_
    refine x_iload_n C dX8_runState_16 1 rfl ?_
    have f18 : h (am 22 0) = some (eI D 6 (m 22 0)) := hR.1 22 0 (lm0 (by decide))
    have f19 : h2 (am 22 0) = some (eI D 6 (m 22 0)) := by rw [e3, hu_n (hR.ne (lm0 (by decide)) (lm0 (by decide)) (fun zz9 => absurd zz9.1 (by decide)))]; exact f18
    refine x_iald C f19 ⟨by omega, by omega⟩ (by decide) dX8_runState_17 ?_
    refine x_goto (tgt := 26) C dX8_runState_18 (by decide) ?_
    refine x_iret C G dX8_runState_26 ?_ (by decide) (by decide)
    have cp20 : MP D am h (cu m 0 0 ((fu (m 0 0) 0 0))) h2 := by rw [e3]; exact (MP.up (MP.rf hR) (lm0 (by decide)) ((fu (m 0 0) 0 0)) rfl)
    first
      | exact ⟨_, _, rfl, cp20, Or.inl (⟨rfl, by omega, (by repeat (first | exact SM.rf | refine SM.th ?_ | refine SM.o2 ?_ | refine SM.o14 ?_ | refine SM.sr ?_ | refine SM.ly (by assumption) (by assumption) ?_ | refine SM.bm ?_ | refine SM.st ?_ | refine SM.mv ?_ | refine SM.up (by decide) ?_))⟩)⟩
      | exact ⟨_, _, rfl, cp20, Or.inr (⟨rfl, by omega, by first | rfl | omega, (by repeat (first | exact SM.rf | refine SM.th ?_ | refine SM.o2 ?_ | refine SM.o14 ?_ | refine SM.sr ?_ | refine SM.ly (by assumption) (by assumption) ?_ | refine SM.bm ?_ | refine SM.st ?_ | refine SM.mv ?_ | refine SM.up (by decide) ?_))⟩)⟩

theorem kX8_speed_0 : Cond.fieldLink "LedgeLevelsModel" 101 "LedgeLevelsModel" "thrown" "I" ∈ wsX8_speed := by decide +kernel
theorem kX8_speed_1 : ∀ w ∈ wsX80, w ∈ wsX8_speed := by decide +kernel
theorem kX8_speed_2 : Cond.fieldLink "LedgeLevelsModel" 76 "LedgeLevelsModel" "runSpeed" "[I" ∈ wsX8_speed := by decide +kernel
set_option maxRecDepth 100000 in
set_option maxHeartbeats 1000000 in
theorem c_X8_speed {l : Launch} {D : va_G} {A : Nat → Prop} {h : vh} {am : AD} {m : CS} {u : Int}  (hR : RepM D am m h) (hM1 : Mk1 m) (hi_u : -2147483648 ≤ u ∧ u ≤ 2147483647) : MX l D A yX8_speed wsX8_speed { frames := 2, cells := 0, slots := 0, locals := 42 } [.ref (am 0 0), vI u] h (fun rv h' => ∃ (r : Int) (m1 : CS), rv = some (vI r) ∧ MP D am h (m1) h' ∧ ((m1 0 0 0 = 1 ∧ (¬ (0 ≤ u ∧ u < 6)) ∧ SM m m1) ∨ (m1 0 0 0 = 0 ∧ (0 ≤ u ∧ u < 6) ∧ r = m 25 0 u.toNat ∧ SM m m1))) := by
  refine MX.of (cc := cX8_speed) (maxL := 2) (ret := (some .int)) [(0, .ref (am 0 0)), (1, vI u)] (by decide +kernel) rfl rfl (Nat.le_of_ble_eq_true rfl) ?_
  intro κ C hkl G
  subst hkl
  have C : CX κ "LedgeLevelsModel" "speed" cX8_speed wsX8_speed { frames := 2, cells := 0, slots := 0, locals := 42 } D A 2 := C
  have hiz : nq (D.1 20) (D.1 21) := cx_iz C
  obtain ⟨hM1a, hM1b⟩ := id hM1
  refine x_aload_n C dX8_speed_0 0 rfl ?_
  refine x_iconst C dX8_speed_1 0 (by decide) ?_
  have f1 : h (am 0 0) = some (eO 8 [vI (m 0 0 0), .ref (am 1 0), vI (m 0 0 2), .ref (am 3 0), .ref (am 4 0), .ref (am 5 0), .ref (am 6 0), .ref (am 7 0), .ref (am 8 0), .ref (am 9 0), .ref (am 10 0), .ref (am 11 0), .ref (am 12 0), .ref (am 13 0), vI (m 0 0 14), .ref (am 15 0), .ref (am 16 0), .ref (am 17 0), .ref (am 18 0), .ref (am 19 0), .ref (am 20 0), .ref (am 21 0), .ref (am 22 0), .ref (am 23 0), .ref (am 24 0), .ref (am 25 0), .ref (am 26 0), .ref (am 27 0), .ref (am 28 0), .ref (am 29 0), vI (((m 0 0 30).toNat : Nat) : Int), vI (m 0 0 31), vI (m 0 0 32), vI (((m 0 0 33).toNat : Nat) : Int), vI (m 0 0 34), .ref (am 35 0), .ref (am 36 0), .ref (am 37 0)]) := hR.1 0 0 (lm0 (by decide))
  refine x_put C f1 (T := TX8) rfl tyX8_ok nmX8 kX8_speed_1 0 (by decide) kX8_speed_0 rfl (fs' := [vI 0, .ref (am 1 0), vI (m 0 0 2), .ref (am 3 0), .ref (am 4 0), .ref (am 5 0), .ref (am 6 0), .ref (am 7 0), .ref (am 8 0), .ref (am 9 0), .ref (am 10 0), .ref (am 11 0), .ref (am 12 0), .ref (am 13 0), vI (m 0 0 14), .ref (am 15 0), .ref (am 16 0), .ref (am 17 0), .ref (am 18 0), .ref (am 19 0), .ref (am 20 0), .ref (am 21 0), .ref (am 22 0), .ref (am 23 0), .ref (am 24 0), .ref (am 25 0), .ref (am 26 0), .ref (am 27 0), .ref (am 28 0), .ref (am 29 0), vI (((m 0 0 30).toNat : Nat) : Int), vI (m 0 0 31), vI (m 0 0 32), vI (((m 0 0 33).toNat : Nat) : Int), vI (m 0 0 34), .ref (am 35 0), .ref (am 36 0), .ref (am 37 0)]) rfl rfl (by simp) rfl dX8_speed_2 (x_hn (fun h2 e3 => ?_))
  have f4 : h2 (am 0 0) = some (eO 8 [vI 0, .ref (am 1 0), vI (m 0 0 2), .ref (am 3 0), .ref (am 4 0), .ref (am 5 0), .ref (am 6 0), .ref (am 7 0), .ref (am 8 0), .ref (am 9 0), .ref (am 10 0), .ref (am 11 0), .ref (am 12 0), .ref (am 13 0), vI (m 0 0 14), .ref (am 15 0), .ref (am 16 0), .ref (am 17 0), .ref (am 18 0), .ref (am 19 0), .ref (am 20 0), .ref (am 21 0), .ref (am 22 0), .ref (am 23 0), .ref (am 24 0), .ref (am 25 0), .ref (am 26 0), .ref (am 27 0), .ref (am 28 0), .ref (am 29 0), vI (((m 0 0 30).toNat : Nat) : Int), vI (m 0 0 31), vI (m 0 0 32), vI (((m 0 0 33).toNat : Nat) : Int), vI (m 0 0 34), .ref (am 35 0), .ref (am 36 0), .ref (am 37 0)]) := by rw [e3]; exact hu_s
  refine x_iload_n C dX8_speed_5 1 rfl ?_
  refine x_callS C (n := 1) (As := [vI u]) (rest := []) (c_X8_isPerson (by omega)) gX8_speed_X8_isPerson (by decide +kernel) rfl rfl rfl (Nat.le_of_ble_eq_true rfl) ⟨by decide, by decide⟩ ⟨(by decide), (by decide)⟩ dX8_speed_6 (fun rv6 h7 hp8 => ?_)
  obtain ⟨rfl, e9⟩ := hp8
  obtain rfl := e9.symm
  have hbr5 := bI_cs ((0 ≤ u ∧ u ≤ 5))
  refine x_if_eq (tgt := 21) C dX8_speed_9 (by decide) (by omega) (fun c10 => ?_) (fun c10 => ?_)
  · skip
    refine x_aload_n C dX8_speed_21 0 rfl ?_
    refine x_iconst C dX8_speed_22 1 (by decide) ?_
    have cp11 : MP D am h (cu m 0 0 ((fu (m 0 0) 0 0))) h2 := by rw [e3]; exact (MP.up (MP.rf hR) (lm0 (by decide)) ((fu (m 0 0) 0 0)) rfl)
    refine x_callV C (n := 1) (qc := (RX8, TX8, 38)) (As := [vI 1]) (rest := []) (c_X8_fails (cp11.1)) gX8_speed_X8_fails (by decide +kernel) f4 rfl rfl rfl rfl (Nat.le_of_ble_eq_true rfl) ⟨by decide, by decide⟩ ⟨(by decide), (by decide)⟩ dX8_speed_23 (fun rv12 h13 hp14 => ?_)
    obtain ⟨rfl, cp16⟩ := hp14
    have cp17 : MP D am h ((cu ((cu m 0 0 ((fu (m 0 0) 0 0)))) 0 0 ((fu (((cu m 0 0 ((fu (m 0 0) 0 0)))) 0 0) 0 1)))) h13 := MP.trans cp11 cp16
    refine x_iret C G dX8_speed_26 ?_ (by decide) (by decide)
    first
      | exact ⟨_, _, rfl, cp17, Or.inl (⟨rfl, by omega, (by repeat (first | exact SM.rf | refine SM.th ?_ | refine SM.o2 ?_ | refine SM.o14 ?_ | refine SM.sr ?_ | refine SM.ly (by assumption) (by assumption) ?_ | refine SM.bm ?_ | refine SM.st ?_ | refine SM.mv ?_ | refine SM.up (by decide) ?_))⟩)⟩
      | exact ⟨_, _, rfl, cp17, Or.inr (⟨rfl, by omega, by first | rfl | omega, (by repeat (first | exact SM.rf | refine SM.th ?_ | refine SM.o2 ?_ | refine SM.o14 ?_ | refine SM.sr ?_ | refine SM.ly (by assumption) (by assumption) ?_ | refine SM.bm ?_ | refine SM.st ?_ | refine SM.mv ?_ | refine SM.up (by decide) ?_))⟩)⟩
  · skip
    refine x_aload_n C dX8_speed_12 0 rfl ?_
    refine x_get C (v := .ref (am 25 0)) f4 (T := TX8) rfl kX8_speed_1 25 (by decide) kX8_speed_2 rfl dX8_speed_13 ?_
    refine x_iload_n C dX8_speed_16 1 rfl ?_
    have f18 : h (am 25 0) = some (eI D 6 (m 25 0)) := hR.1 25 0 (lm0 (by decide))
    have f19 : h2 (am 25 0) = some (eI D 6 (m 25 0)) := by rw [e3, hu_n (hR.ne (lm0 (by decide)) (lm0 (by decide)) (fun zz9 => absurd zz9.1 (by decide)))]; exact f18
    refine x_iald C f19 ⟨by omega, by omega⟩ (by decide) dX8_speed_17 ?_
    refine x_goto (tgt := 26) C dX8_speed_18 (by decide) ?_
    refine x_iret C G dX8_speed_26 ?_ (by decide) (by decide)
    have cp20 : MP D am h (cu m 0 0 ((fu (m 0 0) 0 0))) h2 := by rw [e3]; exact (MP.up (MP.rf hR) (lm0 (by decide)) ((fu (m 0 0) 0 0)) rfl)
    first
      | exact ⟨_, _, rfl, cp20, Or.inl (⟨rfl, by omega, (by repeat (first | exact SM.rf | refine SM.th ?_ | refine SM.o2 ?_ | refine SM.o14 ?_ | refine SM.sr ?_ | refine SM.ly (by assumption) (by assumption) ?_ | refine SM.bm ?_ | refine SM.st ?_ | refine SM.mv ?_ | refine SM.up (by decide) ?_))⟩)⟩
      | exact ⟨_, _, rfl, cp20, Or.inr (⟨rfl, by omega, by first | rfl | omega, (by repeat (first | exact SM.rf | refine SM.th ?_ | refine SM.o2 ?_ | refine SM.o14 ?_ | refine SM.sr ?_ | refine SM.ly (by assumption) (by assumption) ?_ | refine SM.bm ?_ | refine SM.st ?_ | refine SM.mv ?_ | refine SM.up (by decide) ?_))⟩)⟩

theorem kX8_stepsOf_0 : Cond.fieldLink "LedgeLevelsModel" 101 "LedgeLevelsModel" "thrown" "I" ∈ wsX8_stepsOf := by decide +kernel
theorem kX8_stepsOf_1 : ∀ w ∈ wsX80, w ∈ wsX8_stepsOf := by decide +kernel
theorem kX8_stepsOf_2 : Cond.fieldLink "LedgeLevelsModel" 82 "LedgeLevelsModel" "runSteps" "[I" ∈ wsX8_stepsOf := by decide +kernel
set_option maxRecDepth 100000 in
set_option maxHeartbeats 1000000 in
theorem c_X8_stepsOf {l : Launch} {D : va_G} {A : Nat → Prop} {h : vh} {am : AD} {m : CS} {u : Int}  (hR : RepM D am m h) (hM1 : Mk1 m) (hi_u : -2147483648 ≤ u ∧ u ≤ 2147483647) : MX l D A yX8_stepsOf wsX8_stepsOf { frames := 2, cells := 0, slots := 0, locals := 42 } [.ref (am 0 0), vI u] h (fun rv h' => ∃ (r : Int) (m1 : CS), rv = some (vI r) ∧ MP D am h (m1) h' ∧ ((m1 0 0 0 = 1 ∧ (¬ (0 ≤ u ∧ u < 6)) ∧ SM m m1) ∨ (m1 0 0 0 = 0 ∧ (0 ≤ u ∧ u < 6) ∧ r = m 27 0 u.toNat ∧ SM m m1))) := by
  refine MX.of (cc := cX8_stepsOf) (maxL := 2) (ret := (some .int)) [(0, .ref (am 0 0)), (1, vI u)] (by decide +kernel) rfl rfl (Nat.le_of_ble_eq_true rfl) ?_
  intro κ C hkl G
  subst hkl
  have C : CX κ "LedgeLevelsModel" "stepsOf" cX8_stepsOf wsX8_stepsOf { frames := 2, cells := 0, slots := 0, locals := 42 } D A 2 := C
  have hiz : nq (D.1 20) (D.1 21) := cx_iz C
  obtain ⟨hM1a, hM1b⟩ := id hM1
  refine x_aload_n C dX8_stepsOf_0 0 rfl ?_
  refine x_iconst C dX8_stepsOf_1 0 (by decide) ?_
  have f1 : h (am 0 0) = some (eO 8 [vI (m 0 0 0), .ref (am 1 0), vI (m 0 0 2), .ref (am 3 0), .ref (am 4 0), .ref (am 5 0), .ref (am 6 0), .ref (am 7 0), .ref (am 8 0), .ref (am 9 0), .ref (am 10 0), .ref (am 11 0), .ref (am 12 0), .ref (am 13 0), vI (m 0 0 14), .ref (am 15 0), .ref (am 16 0), .ref (am 17 0), .ref (am 18 0), .ref (am 19 0), .ref (am 20 0), .ref (am 21 0), .ref (am 22 0), .ref (am 23 0), .ref (am 24 0), .ref (am 25 0), .ref (am 26 0), .ref (am 27 0), .ref (am 28 0), .ref (am 29 0), vI (((m 0 0 30).toNat : Nat) : Int), vI (m 0 0 31), vI (m 0 0 32), vI (((m 0 0 33).toNat : Nat) : Int), vI (m 0 0 34), .ref (am 35 0), .ref (am 36 0), .ref (am 37 0)]) := hR.1 0 0 (lm0 (by decide))
  refine x_put C f1 (T := TX8) rfl tyX8_ok nmX8 kX8_stepsOf_1 0 (by decide) kX8_stepsOf_0 rfl (fs' := [vI 0, .ref (am 1 0), vI (m 0 0 2), .ref (am 3 0), .ref (am 4 0), .ref (am 5 0), .ref (am 6 0), .ref (am 7 0), .ref (am 8 0), .ref (am 9 0), .ref (am 10 0), .ref (am 11 0), .ref (am 12 0), .ref (am 13 0), vI (m 0 0 14), .ref (am 15 0), .ref (am 16 0), .ref (am 17 0), .ref (am 18 0), .ref (am 19 0), .ref (am 20 0), .ref (am 21 0), .ref (am 22 0), .ref (am 23 0), .ref (am 24 0), .ref (am 25 0), .ref (am 26 0), .ref (am 27 0), .ref (am 28 0), .ref (am 29 0), vI (((m 0 0 30).toNat : Nat) : Int), vI (m 0 0 31), vI (m 0 0 32), vI (((m 0 0 33).toNat : Nat) : Int), vI (m 0 0 34), .ref (am 35 0), .ref (am 36 0), .ref (am 37 0)]) rfl rfl (by simp) rfl dX8_stepsOf_2 (x_hn (fun h2 e3 => ?_))
  have f4 : h2 (am 0 0) = some (eO 8 [vI 0, .ref (am 1 0), vI (m 0 0 2), .ref (am 3 0), .ref (am 4 0), .ref (am 5 0), .ref (am 6 0), .ref (am 7 0), .ref (am 8 0), .ref (am 9 0), .ref (am 10 0), .ref (am 11 0), .ref (am 12 0), .ref (am 13 0), vI (m 0 0 14), .ref (am 15 0), .ref (am 16 0), .ref (am 17 0), .ref (am 18 0), .ref (am 19 0), .ref (am 20 0), .ref (am 21 0), .ref (am 22 0), .ref (am 23 0), .ref (am 24 0), .ref (am 25 0), .ref (am 26 0), .ref (am 27 0), .ref (am 28 0), .ref (am 29 0), vI (((m 0 0 30).toNat : Nat) : Int), vI (m 0 0 31), vI (m 0 0 32), vI (((m 0 0 33).toNat : Nat) : Int), vI (m 0 0 34), .ref (am 35 0), .ref (am 36 0), .ref (am 37 0)]) := by rw [e3]; exact hu_s
  refine x_iload_n C dX8_stepsOf_5 1 rfl ?_
  refine x_callS C (n := 1) (As := [vI u]) (rest := []) (c_X8_isPerson (by omega)) gX8_stepsOf_X8_isPerson (by decide +kernel) rfl rfl rfl (Nat.le_of_ble_eq_true rfl) ⟨by decide, by decide⟩ ⟨(by decide), (by decide)⟩ dX8_stepsOf_6 (fun rv6 h7 hp8 => ?_)
  obtain ⟨rfl, e9⟩ := hp8
  obtain rfl := e9.symm
  have hbr5 := bI_cs ((0 ≤ u ∧ u ≤ 5))
  refine x_if_eq (tgt := 21) C dX8_stepsOf_9 (by decide) (by omega) (fun c10 => ?_) (fun c10 => ?_)
  · skip
    refine x_aload_n C dX8_stepsOf_21 0 rfl ?_
    refine x_iconst C dX8_stepsOf_22 1 (by decide) ?_
    have cp11 : MP D am h (cu m 0 0 ((fu (m 0 0) 0 0))) h2 := by rw [e3]; exact (MP.up (MP.rf hR) (lm0 (by decide)) ((fu (m 0 0) 0 0)) rfl)
    refine x_callV C (n := 1) (qc := (RX8, TX8, 38)) (As := [vI 1]) (rest := []) (c_X8_fails (cp11.1)) gX8_stepsOf_X8_fails (by decide +kernel) f4 rfl rfl rfl rfl (Nat.le_of_ble_eq_true rfl) ⟨by decide, by decide⟩ ⟨(by decide), (by decide)⟩ dX8_stepsOf_23 (fun rv12 h13 hp14 => ?_)
    obtain ⟨rfl, cp16⟩ := hp14
    have cp17 : MP D am h ((cu ((cu m 0 0 ((fu (m 0 0) 0 0)))) 0 0 ((fu (((cu m 0 0 ((fu (m 0 0) 0 0)))) 0 0) 0 1)))) h13 := MP.trans cp11 cp16
    refine x_iret C G dX8_stepsOf_26 ?_ (by decide) (by decide)
    first
      | exact ⟨_, _, rfl, cp17, Or.inl (⟨rfl, by omega, (by repeat (first | exact SM.rf | refine SM.th ?_ | refine SM.o2 ?_ | refine SM.o14 ?_ | refine SM.sr ?_ | refine SM.ly (by assumption) (by assumption) ?_ | refine SM.bm ?_ | refine SM.st ?_ | refine SM.mv ?_ | refine SM.up (by decide) ?_))⟩)⟩
      | exact ⟨_, _, rfl, cp17, Or.inr (⟨rfl, by omega, by first | rfl | omega, (by repeat (first | exact SM.rf | refine SM.th ?_ | refine SM.o2 ?_ | refine SM.o14 ?_ | refine SM.sr ?_ | refine SM.ly (by assumption) (by assumption) ?_ | refine SM.bm ?_ | refine SM.st ?_ | refine SM.mv ?_ | refine SM.up (by decide) ?_))⟩)⟩
  · skip
    refine x_aload_n C dX8_stepsOf_12 0 rfl ?_
    refine x_get C (v := .ref (am 27 0)) f4 (T := TX8) rfl kX8_stepsOf_1 27 (by decide) kX8_stepsOf_2 rfl dX8_stepsOf_13 ?_
    refine x_iload_n C dX8_stepsOf_16 1 rfl ?_
    have f18 : h (am 27 0) = some (eI D 6 (m 27 0)) := hR.1 27 0 (lm0 (by decide))
    have f19 : h2 (am 27 0) = some (eI D 6 (m 27 0)) := by rw [e3, hu_n (hR.ne (lm0 (by decide)) (lm0 (by decide)) (fun zz9 => absurd zz9.1 (by decide)))]; exact f18
    refine x_iald C f19 ⟨by omega, by omega⟩ (by decide) dX8_stepsOf_17 ?_
    refine x_goto (tgt := 26) C dX8_stepsOf_18 (by decide) ?_
    refine x_iret C G dX8_stepsOf_26 ?_ (by decide) (by decide)
    have cp20 : MP D am h (cu m 0 0 ((fu (m 0 0) 0 0))) h2 := by rw [e3]; exact (MP.up (MP.rf hR) (lm0 (by decide)) ((fu (m 0 0) 0 0)) rfl)
    first
      | exact ⟨_, _, rfl, cp20, Or.inl (⟨rfl, by omega, (by repeat (first | exact SM.rf | refine SM.th ?_ | refine SM.o2 ?_ | refine SM.o14 ?_ | refine SM.sr ?_ | refine SM.ly (by assumption) (by assumption) ?_ | refine SM.bm ?_ | refine SM.st ?_ | refine SM.mv ?_ | refine SM.up (by decide) ?_))⟩)⟩
      | exact ⟨_, _, rfl, cp20, Or.inr (⟨rfl, by omega, by first | rfl | omega, (by repeat (first | exact SM.rf | refine SM.th ?_ | refine SM.o2 ?_ | refine SM.o14 ?_ | refine SM.sr ?_ | refine SM.ly (by assumption) (by assumption) ?_ | refine SM.bm ?_ | refine SM.st ?_ | refine SM.mv ?_ | refine SM.up (by decide) ?_))⟩)⟩

theorem kX8_strength_0 : Cond.fieldLink "LedgeLevelsModel" 101 "LedgeLevelsModel" "thrown" "I" ∈ wsX8_strength := by decide +kernel
theorem kX8_strength_1 : ∀ w ∈ wsX80, w ∈ wsX8_strength := by decide +kernel
theorem kX8_strength_2 : Cond.fieldLink "LedgeLevelsModel" 7 "LedgeLevelsModel" "strength" "[I" ∈ wsX8_strength := by decide +kernel
set_option maxRecDepth 100000 in
set_option maxHeartbeats 1000000 in
theorem c_X8_strength {l : Launch} {D : va_G} {A : Nat → Prop} {h : vh} {am : AD} {m : CS} {u : Int}  (hR : RepM D am m h) (hM1 : Mk1 m) (hi_u : -2147483648 ≤ u ∧ u ≤ 2147483647) : MX l D A yX8_strength wsX8_strength { frames := 1, cells := 0, slots := 0, locals := 22 } [.ref (am 0 0), vI u] h (fun rv h' => ∃ (r : Int) (m1 : CS), rv = some (vI r) ∧ MP D am h (m1) h' ∧ ((m1 0 0 0 = 1 ∧ (¬ (0 ≤ u ∧ u < 3)) ∧ SM m m1) ∨ (m1 0 0 0 = 0 ∧ (0 ≤ u ∧ u < 3) ∧ r = m 1 0 u.toNat ∧ SM m m1))) := by
  refine MX.of (cc := cX8_strength) (maxL := 2) (ret := (some .int)) [(0, .ref (am 0 0)), (1, vI u)] (by decide +kernel) rfl rfl (Nat.le_of_ble_eq_true rfl) ?_
  intro κ C hkl G
  subst hkl
  have C : CX κ "LedgeLevelsModel" "strength" cX8_strength wsX8_strength { frames := 1, cells := 0, slots := 0, locals := 22 } D A 2 := C
  have hiz : nq (D.1 20) (D.1 21) := cx_iz C
  obtain ⟨hM1a, hM1b⟩ := id hM1
  refine x_aload_n C dX8_strength_0 0 rfl ?_
  refine x_iconst C dX8_strength_1 0 (by decide) ?_
  have f1 : h (am 0 0) = some (eO 8 [vI (m 0 0 0), .ref (am 1 0), vI (m 0 0 2), .ref (am 3 0), .ref (am 4 0), .ref (am 5 0), .ref (am 6 0), .ref (am 7 0), .ref (am 8 0), .ref (am 9 0), .ref (am 10 0), .ref (am 11 0), .ref (am 12 0), .ref (am 13 0), vI (m 0 0 14), .ref (am 15 0), .ref (am 16 0), .ref (am 17 0), .ref (am 18 0), .ref (am 19 0), .ref (am 20 0), .ref (am 21 0), .ref (am 22 0), .ref (am 23 0), .ref (am 24 0), .ref (am 25 0), .ref (am 26 0), .ref (am 27 0), .ref (am 28 0), .ref (am 29 0), vI (((m 0 0 30).toNat : Nat) : Int), vI (m 0 0 31), vI (m 0 0 32), vI (((m 0 0 33).toNat : Nat) : Int), vI (m 0 0 34), .ref (am 35 0), .ref (am 36 0), .ref (am 37 0)]) := hR.1 0 0 (lm0 (by decide))
  refine x_put C f1 (T := TX8) rfl tyX8_ok nmX8 kX8_strength_1 0 (by decide) kX8_strength_0 rfl (fs' := [vI 0, .ref (am 1 0), vI (m 0 0 2), .ref (am 3 0), .ref (am 4 0), .ref (am 5 0), .ref (am 6 0), .ref (am 7 0), .ref (am 8 0), .ref (am 9 0), .ref (am 10 0), .ref (am 11 0), .ref (am 12 0), .ref (am 13 0), vI (m 0 0 14), .ref (am 15 0), .ref (am 16 0), .ref (am 17 0), .ref (am 18 0), .ref (am 19 0), .ref (am 20 0), .ref (am 21 0), .ref (am 22 0), .ref (am 23 0), .ref (am 24 0), .ref (am 25 0), .ref (am 26 0), .ref (am 27 0), .ref (am 28 0), .ref (am 29 0), vI (((m 0 0 30).toNat : Nat) : Int), vI (m 0 0 31), vI (m 0 0 32), vI (((m 0 0 33).toNat : Nat) : Int), vI (m 0 0 34), .ref (am 35 0), .ref (am 36 0), .ref (am 37 0)]) rfl rfl (by simp) rfl dX8_strength_2 (x_hn (fun h2 e3 => ?_))
  have f4 : h2 (am 0 0) = some (eO 8 [vI 0, .ref (am 1 0), vI (m 0 0 2), .ref (am 3 0), .ref (am 4 0), .ref (am 5 0), .ref (am 6 0), .ref (am 7 0), .ref (am 8 0), .ref (am 9 0), .ref (am 10 0), .ref (am 11 0), .ref (am 12 0), .ref (am 13 0), vI (m 0 0 14), .ref (am 15 0), .ref (am 16 0), .ref (am 17 0), .ref (am 18 0), .ref (am 19 0), .ref (am 20 0), .ref (am 21 0), .ref (am 22 0), .ref (am 23 0), .ref (am 24 0), .ref (am 25 0), .ref (am 26 0), .ref (am 27 0), .ref (am 28 0), .ref (am 29 0), vI (((m 0 0 30).toNat : Nat) : Int), vI (m 0 0 31), vI (m 0 0 32), vI (((m 0 0 33).toNat : Nat) : Int), vI (m 0 0 34), .ref (am 35 0), .ref (am 36 0), .ref (am 37 0)]) := by rw [e3]; exact hu_s
  refine x_iload_n C dX8_strength_5 1 rfl ?_
  refine x_iconst C dX8_strength_6 0 (by decide) ?_
  refine x_iconst C dX8_strength_7 2 (by decide) ?_
  refine x_callS C (n := 3) (As := [vI u, vI 0, vI 2]) (rest := []) (c_X8_in (by omega) (by omega) (by omega)) gX8_strength_X8_in (by decide +kernel) rfl rfl rfl (Nat.le_of_ble_eq_true rfl) ⟨by decide, by decide⟩ ⟨(by decide), (by decide)⟩ dX8_strength_8 (fun rv6 h7 hp8 => ?_)
  obtain ⟨rfl, e9⟩ := hp8
  obtain rfl := e9.symm
  have hbr5 := bI_cs ((0 ≤ u ∧ u ≤ 2))
  refine x_if_eq (tgt := 23) C dX8_strength_11 (by decide) (by omega) (fun c10 => ?_) (fun c10 => ?_)
  · skip
    refine x_aload_n C dX8_strength_23 0 rfl ?_
    refine x_iconst C dX8_strength_24 1 (by decide) ?_
    have cp11 : MP D am h (cu m 0 0 ((fu (m 0 0) 0 0))) h2 := by rw [e3]; exact (MP.up (MP.rf hR) (lm0 (by decide)) ((fu (m 0 0) 0 0)) rfl)
    refine x_callV C (n := 1) (qc := (RX8, TX8, 38)) (As := [vI 1]) (rest := []) (c_X8_fails (cp11.1)) gX8_strength_X8_fails (by decide +kernel) f4 rfl rfl rfl rfl (Nat.le_of_ble_eq_true rfl) ⟨by decide, by decide⟩ ⟨(by decide), (by decide)⟩ dX8_strength_25 (fun rv12 h13 hp14 => ?_)
    obtain ⟨rfl, cp16⟩ := hp14
    have cp17 : MP D am h ((cu ((cu m 0 0 ((fu (m 0 0) 0 0)))) 0 0 ((fu (((cu m 0 0 ((fu (m 0 0) 0 0)))) 0 0) 0 1)))) h13 := MP.trans cp11 cp16
    refine x_iret C G dX8_strength_28 ?_ (by decide) (by decide)
    first
      | exact ⟨_, _, rfl, cp17, Or.inl (⟨rfl, by omega, (by repeat (first | exact SM.rf | refine SM.th ?_ | refine SM.o2 ?_ | refine SM.o14 ?_ | refine SM.sr ?_ | refine SM.ly (by assumption) (by assumption) ?_ | refine SM.bm ?_ | refine SM.st ?_ | refine SM.mv ?_ | refine SM.up (by decide) ?_))⟩)⟩
      | exact ⟨_, _, rfl, cp17, Or.inr (⟨rfl, by omega, by first | rfl | omega, (by repeat (first | exact SM.rf | refine SM.th ?_ | refine SM.o2 ?_ | refine SM.o14 ?_ | refine SM.sr ?_ | refine SM.ly (by assumption) (by assumption) ?_ | refine SM.bm ?_ | refine SM.st ?_ | refine SM.mv ?_ | refine SM.up (by decide) ?_))⟩)⟩
  · skip
    refine x_aload_n C dX8_strength_14 0 rfl ?_
    refine x_get C (v := .ref (am 1 0)) f4 (T := TX8) rfl kX8_strength_1 1 (by decide) kX8_strength_2 rfl dX8_strength_15 ?_
    refine x_iload_n C dX8_strength_18 1 rfl ?_
    have f18 : h (am 1 0) = some (eI D 3 (m 1 0)) := hR.1 1 0 (lm0 (by decide))
    have f19 : h2 (am 1 0) = some (eI D 3 (m 1 0)) := by rw [e3, hu_n (hR.ne (lm0 (by decide)) (lm0 (by decide)) (fun zz9 => absurd zz9.1 (by decide)))]; exact f18
    refine x_iald C f19 ⟨by omega, by omega⟩ (by decide) dX8_strength_19 ?_
    refine x_goto (tgt := 28) C dX8_strength_20 (by decide) ?_
    refine x_iret C G dX8_strength_28 ?_ (by decide) (by decide)
    have cp20 : MP D am h (cu m 0 0 ((fu (m 0 0) 0 0))) h2 := by rw [e3]; exact (MP.up (MP.rf hR) (lm0 (by decide)) ((fu (m 0 0) 0 0)) rfl)
    first
      | exact ⟨_, _, rfl, cp20, Or.inl (⟨rfl, by omega, (by repeat (first | exact SM.rf | refine SM.th ?_ | refine SM.o2 ?_ | refine SM.o14 ?_ | refine SM.sr ?_ | refine SM.ly (by assumption) (by assumption) ?_ | refine SM.bm ?_ | refine SM.st ?_ | refine SM.mv ?_ | refine SM.up (by decide) ?_))⟩)⟩
      | exact ⟨_, _, rfl, cp20, Or.inr (⟨rfl, by omega, by first | rfl | omega, (by repeat (first | exact SM.rf | refine SM.th ?_ | refine SM.o2 ?_ | refine SM.o14 ?_ | refine SM.sr ?_ | refine SM.ly (by assumption) (by assumption) ?_ | refine SM.bm ?_ | refine SM.st ?_ | refine SM.mv ?_ | refine SM.up (by decide) ?_))⟩)⟩

theorem kX8_at_0 : Cond.fieldLink "LedgeLevelsModel" 101 "LedgeLevelsModel" "thrown" "I" ∈ wsX8_at := by decide +kernel
theorem kX8_at_1 : ∀ w ∈ wsX80, w ∈ wsX8_at := by decide +kernel
theorem kX8_at_2 : Cond.fieldLink "LedgeLevelsModel" 16 "LedgeLevelsModel" "grid" "[I" ∈ wsX8_at := by decide +kernel
set_option maxRecDepth 100000 in
set_option maxHeartbeats 1000000 in
theorem c_X8_at {l : Launch} {D : va_G} {A : Nat → Prop} {h : vh} {am : AD} {m : CS} {u z : Int}  (hR : RepM D am m h) (hM1 : Mk1 m) (hi_u : -2147483648 ≤ u ∧ u ≤ 2147483647) (hi_z : -2147483648 ≤ z ∧ z ≤ 2147483647) : MX l D A yX8_at wsX8_at { frames := 2, cells := 0, slots := 0, locals := 43 } [.ref (am 0 0), vI u, vI z] h (fun rv h' => ∃ (r : Int) (m1 : CS), rv = some (vI r) ∧ MP D am h (m1) h' ∧ ((m1 0 0 0 = 1 ∧ (¬ (0 ≤ u ∧ u < m 0 0 2) ∨ ¬ (0 ≤ z ∧ z < 96)) ∧ SM m m1) ∨ (m1 0 0 0 = 0 ∧ ((0 ≤ u ∧ u < m 0 0 2) ∧ (0 ≤ z ∧ z < 96)) ∧ r = m 4 0 (96 * u + z).toNat ∧ SM m m1))) := by
  refine MX.of (cc := cX8_at) (maxL := 3) (ret := (some .int)) [(0, .ref (am 0 0)), (1, vI u), (2, vI z)] (by decide +kernel) rfl rfl (Nat.le_of_ble_eq_true rfl) ?_
  intro κ C hkl G
  subst hkl
  have C : CX κ "LedgeLevelsModel" "at" cX8_at wsX8_at { frames := 2, cells := 0, slots := 0, locals := 43 } D A 3 := C
  have hiz : nq (D.1 20) (D.1 21) := cx_iz C
  obtain ⟨hM1a, hM1b⟩ := id hM1
  refine x_aload_n C dX8_at_0 0 rfl ?_
  refine x_iconst C dX8_at_1 0 (by decide) ?_
  have f1 : h (am 0 0) = some (eO 8 [vI (m 0 0 0), .ref (am 1 0), vI (m 0 0 2), .ref (am 3 0), .ref (am 4 0), .ref (am 5 0), .ref (am 6 0), .ref (am 7 0), .ref (am 8 0), .ref (am 9 0), .ref (am 10 0), .ref (am 11 0), .ref (am 12 0), .ref (am 13 0), vI (m 0 0 14), .ref (am 15 0), .ref (am 16 0), .ref (am 17 0), .ref (am 18 0), .ref (am 19 0), .ref (am 20 0), .ref (am 21 0), .ref (am 22 0), .ref (am 23 0), .ref (am 24 0), .ref (am 25 0), .ref (am 26 0), .ref (am 27 0), .ref (am 28 0), .ref (am 29 0), vI (((m 0 0 30).toNat : Nat) : Int), vI (m 0 0 31), vI (m 0 0 32), vI (((m 0 0 33).toNat : Nat) : Int), vI (m 0 0 34), .ref (am 35 0), .ref (am 36 0), .ref (am 37 0)]) := hR.1 0 0 (lm0 (by decide))
  refine x_put C f1 (T := TX8) rfl tyX8_ok nmX8 kX8_at_1 0 (by decide) kX8_at_0 rfl (fs' := [vI 0, .ref (am 1 0), vI (m 0 0 2), .ref (am 3 0), .ref (am 4 0), .ref (am 5 0), .ref (am 6 0), .ref (am 7 0), .ref (am 8 0), .ref (am 9 0), .ref (am 10 0), .ref (am 11 0), .ref (am 12 0), .ref (am 13 0), vI (m 0 0 14), .ref (am 15 0), .ref (am 16 0), .ref (am 17 0), .ref (am 18 0), .ref (am 19 0), .ref (am 20 0), .ref (am 21 0), .ref (am 22 0), .ref (am 23 0), .ref (am 24 0), .ref (am 25 0), .ref (am 26 0), .ref (am 27 0), .ref (am 28 0), .ref (am 29 0), vI (((m 0 0 30).toNat : Nat) : Int), vI (m 0 0 31), vI (m 0 0 32), vI (((m 0 0 33).toNat : Nat) : Int), vI (m 0 0 34), .ref (am 35 0), .ref (am 36 0), .ref (am 37 0)]) rfl rfl (by simp) rfl dX8_at_2 (x_hn (fun h2 e3 => ?_))
  have f4 : h2 (am 0 0) = some (eO 8 [vI 0, .ref (am 1 0), vI (m 0 0 2), .ref (am 3 0), .ref (am 4 0), .ref (am 5 0), .ref (am 6 0), .ref (am 7 0), .ref (am 8 0), .ref (am 9 0), .ref (am 10 0), .ref (am 11 0), .ref (am 12 0), .ref (am 13 0), vI (m 0 0 14), .ref (am 15 0), .ref (am 16 0), .ref (am 17 0), .ref (am 18 0), .ref (am 19 0), .ref (am 20 0), .ref (am 21 0), .ref (am 22 0), .ref (am 23 0), .ref (am 24 0), .ref (am 25 0), .ref (am 26 0), .ref (am 27 0), .ref (am 28 0), .ref (am 29 0), vI (((m 0 0 30).toNat : Nat) : Int), vI (m 0 0 31), vI (m 0 0 32), vI (((m 0 0 33).toNat : Nat) : Int), vI (m 0 0 34), .ref (am 35 0), .ref (am 36 0), .ref (am 37 0)]) := by rw [e3]; exact hu_s
  refine x_aload_n C dX8_at_5 0 rfl ?_
  refine x_iload_n C dX8_at_6 1 rfl ?_
  have cp6 : MP D am h (cu m 0 0 ((fu (m 0 0) 0 0))) h2 := by rw [e3]; exact (MP.up (MP.rf hR) (lm0 (by decide)) ((fu (m 0 0) 0 0)) rfl)
  refine x_callV C (n := 1) (qc := (RX8, TX8, 38)) (As := [vI u]) (rest := []) (c_X8_isLevel (cp6.1) (hM1) (by omega)) gX8_at_X8_isLevel (by decide +kernel) f4 rfl rfl rfl rfl (Nat.le_of_ble_eq_true rfl) ⟨by decide, by decide⟩ ⟨(by decide), (by decide)⟩ dX8_at_7 (fun rv7 h8 hp9 => ?_)
  obtain ⟨rfl, e10⟩ := hp9
  obtain rfl := e10.symm
  refine x_topv (show bI (0 ≤ u ∧ u ≤ ((cu m 0 0 ((fu (m 0 0) 0 0)))) 0 0 2 - 1) = bI (0 ≤ u ∧ u ≤ m 0 0 2 - 1) from by rfl) ?_
  have hbr5 := bI_cs ((0 ≤ u ∧ u ≤ m 0 0 2 - 1))
  refine x_if_eq (tgt := 34) C dX8_at_10 (by decide) (by omega) (fun c11 => ?_) (fun c11 => ?_)
  · skip
    refine x_aload_n C dX8_at_34 0 rfl ?_
    refine x_iconst C dX8_at_35 1 (by decide) ?_
    have cp12 : MP D am h (cu m 0 0 ((fu (m 0 0) 0 0))) h2 := by rw [e3]; exact (MP.up (MP.rf hR) (lm0 (by decide)) ((fu (m 0 0) 0 0)) rfl)
    refine x_callV C (n := 1) (qc := (RX8, TX8, 38)) (As := [vI 1]) (rest := []) (c_X8_fails (cp12.1)) gX8_at_X8_fails (by decide +kernel) f4 rfl rfl rfl rfl (Nat.le_of_ble_eq_true rfl) ⟨by decide, by decide⟩ ⟨(by decide), (by decide)⟩ dX8_at_36 (fun rv13 h14 hp15 => ?_)
    obtain ⟨rfl, cp17⟩ := hp15
    have cp18 : MP D am h ((cu ((cu m 0 0 ((fu (m 0 0) 0 0)))) 0 0 ((fu (((cu m 0 0 ((fu (m 0 0) 0 0)))) 0 0) 0 1)))) h14 := MP.trans cp12 cp17
    refine x_iret C G dX8_at_39 ?_ (by decide) (by decide)
    first
      | exact ⟨_, _, rfl, cp18, Or.inl (⟨rfl, by omega, (by repeat (first | exact SM.rf | refine SM.th ?_ | refine SM.o2 ?_ | refine SM.o14 ?_ | refine SM.sr ?_ | refine SM.ly (by assumption) (by assumption) ?_ | refine SM.bm ?_ | refine SM.st ?_ | refine SM.mv ?_ | refine SM.up (by decide) ?_))⟩)⟩
      | exact ⟨_, _, rfl, cp18, Or.inr (⟨rfl, by omega, by first | rfl | omega, (by repeat (first | exact SM.rf | refine SM.th ?_ | refine SM.o2 ?_ | refine SM.o14 ?_ | refine SM.sr ?_ | refine SM.ly (by assumption) (by assumption) ?_ | refine SM.bm ?_ | refine SM.st ?_ | refine SM.mv ?_ | refine SM.up (by decide) ?_))⟩)⟩
  · skip
    refine x_iload_n C dX8_at_13 2 rfl ?_
    refine x_callS C (n := 1) (As := [vI z]) (rest := []) (c_X8_isCell (by omega)) gX8_at_X8_isCell (by decide +kernel) rfl rfl rfl (Nat.le_of_ble_eq_true rfl) ⟨by decide, by decide⟩ ⟨(by decide), (by decide)⟩ dX8_at_14 (fun rv20 h21 hp22 => ?_)
    obtain ⟨rfl, e23⟩ := hp22
    obtain rfl := e23.symm
    have hbr19 := bI_cs ((0 ≤ z ∧ z ≤ 95))
    refine x_if_eq (tgt := 34) C dX8_at_17 (by decide) (by omega) (fun c24 => ?_) (fun c24 => ?_)
    · skip
      refine x_aload_n C dX8_at_34 0 rfl ?_
      refine x_iconst C dX8_at_35 1 (by decide) ?_
      have cp25 : MP D am h (cu m 0 0 ((fu (m 0 0) 0 0))) h2 := by rw [e3]; exact (MP.up (MP.rf hR) (lm0 (by decide)) ((fu (m 0 0) 0 0)) rfl)
      refine x_callV C (n := 1) (qc := (RX8, TX8, 38)) (As := [vI 1]) (rest := []) (c_X8_fails (cp25.1)) gX8_at_X8_fails (by decide +kernel) f4 rfl rfl rfl rfl (Nat.le_of_ble_eq_true rfl) ⟨by decide, by decide⟩ ⟨(by decide), (by decide)⟩ dX8_at_36 (fun rv26 h27 hp28 => ?_)
      obtain ⟨rfl, cp30⟩ := hp28
      have cp31 : MP D am h ((cu ((cu m 0 0 ((fu (m 0 0) 0 0)))) 0 0 ((fu (((cu m 0 0 ((fu (m 0 0) 0 0)))) 0 0) 0 1)))) h27 := MP.trans cp25 cp30
      refine x_iret C G dX8_at_39 ?_ (by decide) (by decide)
      first
        | exact ⟨_, _, rfl, cp31, Or.inl (⟨rfl, by omega, (by repeat (first | exact SM.rf | refine SM.th ?_ | refine SM.o2 ?_ | refine SM.o14 ?_ | refine SM.sr ?_ | refine SM.ly (by assumption) (by assumption) ?_ | refine SM.bm ?_ | refine SM.st ?_ | refine SM.mv ?_ | refine SM.up (by decide) ?_))⟩)⟩
        | exact ⟨_, _, rfl, cp31, Or.inr (⟨rfl, by omega, by first | rfl | omega, (by repeat (first | exact SM.rf | refine SM.th ?_ | refine SM.o2 ?_ | refine SM.o14 ?_ | refine SM.sr ?_ | refine SM.ly (by assumption) (by assumption) ?_ | refine SM.bm ?_ | refine SM.st ?_ | refine SM.mv ?_ | refine SM.up (by decide) ?_))⟩)⟩
    · skip
      refine x_aload_n C dX8_at_20 0 rfl ?_
      refine x_get C (v := .ref (am 4 0)) f4 (T := TX8) rfl kX8_at_1 4 (by decide) kX8_at_2 rfl dX8_at_21 ?_
      refine x_bipush C dX8_at_24 96 (by decide) ?_
      refine x_iload_n C dX8_at_26 1 rfl ?_
      refine x_imul C dX8_at_27 ?_
      refine x_iload_n C dX8_at_28 2 rfl ?_
      refine x_iadd C dX8_at_29 ?_
      have f32 : h (am 4 0) = some (eI D 1152 (m 4 0)) := hR.1 4 0 (lm0 (by decide))
      have f33 : h2 (am 4 0) = some (eI D 1152 (m 4 0)) := by rw [e3, hu_n (hR.ne (lm0 (by decide)) (lm0 (by decide)) (fun zz9 => absurd zz9.1 (by decide)))]; exact f32
      refine x_iald C f33 ⟨by omega, by omega⟩ (by decide) dX8_at_30 ?_
      refine x_goto (tgt := 39) C dX8_at_31 (by decide) ?_
      refine x_iret C G dX8_at_39 ?_ (by decide) (by decide)
      have cp34 : MP D am h (cu m 0 0 ((fu (m 0 0) 0 0))) h2 := by rw [e3]; exact (MP.up (MP.rf hR) (lm0 (by decide)) ((fu (m 0 0) 0 0)) rfl)
      first
        | exact ⟨_, _, rfl, cp34, Or.inl (⟨rfl, by omega, (by repeat (first | exact SM.rf | refine SM.th ?_ | refine SM.o2 ?_ | refine SM.o14 ?_ | refine SM.sr ?_ | refine SM.ly (by assumption) (by assumption) ?_ | refine SM.bm ?_ | refine SM.st ?_ | refine SM.mv ?_ | refine SM.up (by decide) ?_))⟩)⟩
        | exact ⟨_, _, rfl, cp34, Or.inr (⟨rfl, by omega, by first | rfl | omega, (by repeat (first | exact SM.rf | refine SM.th ?_ | refine SM.o2 ?_ | refine SM.o14 ?_ | refine SM.sr ?_ | refine SM.ly (by assumption) (by assumption) ?_ | refine SM.bm ?_ | refine SM.st ?_ | refine SM.mv ?_ | refine SM.up (by decide) ?_))⟩)⟩

theorem kX8_edits_0 : Cond.fieldLink "LedgeLevelsModel" 101 "LedgeLevelsModel" "thrown" "I" ∈ wsX8_edits := by decide +kernel
theorem kX8_edits_1 : ∀ w ∈ wsX80, w ∈ wsX8_edits := by decide +kernel
theorem kX8_edits_2 : Cond.fieldLink "LedgeLevelsModel" 37 "LedgeLevelsModel" "redos" "[I" ∈ wsX8_edits := by decide +kernel
theorem kX8_edits_3 : Cond.fieldLink "LedgeLevelsModel" 28 "LedgeLevelsModel" "undos" "[I" ∈ wsX8_edits := by decide +kernel
set_option maxRecDepth 100000 in
set_option maxHeartbeats 1000000 in
theorem c_X8_edits {l : Launch} {D : va_G} {A : Nat → Prop} {h : vh} {am : AD} {m : CS} {u b : Int}  (hR : RepM D am m h) (hM1 : Mk1 m) (hi_u : -2147483648 ≤ u ∧ u ≤ 2147483647) (hb : 0 ≤ b ∧ b ≤ 1) : MX l D A yX8_edits wsX8_edits { frames := 2, cells := 0, slots := 0, locals := 43 } [.ref (am 0 0), vI u, vI b] h (fun rv h' => ∃ (r : Int) (m1 : CS), rv = some (vI r) ∧ MP D am h (m1) h' ∧ ((m1 0 0 0 = 1 ∧ (¬ (0 ≤ u ∧ u < m 0 0 2)) ∧ SM m m1) ∨ (m1 0 0 0 = 0 ∧ (0 ≤ u ∧ u < m 0 0 2 ∧ b = 0) ∧ r = m 11 0 u.toNat ∧ SM m m1) ∨ (m1 0 0 0 = 0 ∧ (0 ≤ u ∧ u < m 0 0 2 ∧ ¬ b = 0) ∧ r = m 8 0 u.toNat ∧ SM m m1))) := by
  refine MX.of (cc := cX8_edits) (maxL := 3) (ret := (some .int)) [(0, .ref (am 0 0)), (1, vI u), (2, vI b)] (by decide +kernel) rfl rfl (Nat.le_of_ble_eq_true rfl) ?_
  intro κ C hkl G
  subst hkl
  have C : CX κ "LedgeLevelsModel" "edits" cX8_edits wsX8_edits { frames := 2, cells := 0, slots := 0, locals := 43 } D A 3 := C
  have hiz : nq (D.1 20) (D.1 21) := cx_iz C
  obtain ⟨hM1a, hM1b⟩ := id hM1
  refine x_aload_n C dX8_edits_0 0 rfl ?_
  refine x_iconst C dX8_edits_1 0 (by decide) ?_
  have f1 : h (am 0 0) = some (eO 8 [vI (m 0 0 0), .ref (am 1 0), vI (m 0 0 2), .ref (am 3 0), .ref (am 4 0), .ref (am 5 0), .ref (am 6 0), .ref (am 7 0), .ref (am 8 0), .ref (am 9 0), .ref (am 10 0), .ref (am 11 0), .ref (am 12 0), .ref (am 13 0), vI (m 0 0 14), .ref (am 15 0), .ref (am 16 0), .ref (am 17 0), .ref (am 18 0), .ref (am 19 0), .ref (am 20 0), .ref (am 21 0), .ref (am 22 0), .ref (am 23 0), .ref (am 24 0), .ref (am 25 0), .ref (am 26 0), .ref (am 27 0), .ref (am 28 0), .ref (am 29 0), vI (((m 0 0 30).toNat : Nat) : Int), vI (m 0 0 31), vI (m 0 0 32), vI (((m 0 0 33).toNat : Nat) : Int), vI (m 0 0 34), .ref (am 35 0), .ref (am 36 0), .ref (am 37 0)]) := hR.1 0 0 (lm0 (by decide))
  refine x_put C f1 (T := TX8) rfl tyX8_ok nmX8 kX8_edits_1 0 (by decide) kX8_edits_0 rfl (fs' := [vI 0, .ref (am 1 0), vI (m 0 0 2), .ref (am 3 0), .ref (am 4 0), .ref (am 5 0), .ref (am 6 0), .ref (am 7 0), .ref (am 8 0), .ref (am 9 0), .ref (am 10 0), .ref (am 11 0), .ref (am 12 0), .ref (am 13 0), vI (m 0 0 14), .ref (am 15 0), .ref (am 16 0), .ref (am 17 0), .ref (am 18 0), .ref (am 19 0), .ref (am 20 0), .ref (am 21 0), .ref (am 22 0), .ref (am 23 0), .ref (am 24 0), .ref (am 25 0), .ref (am 26 0), .ref (am 27 0), .ref (am 28 0), .ref (am 29 0), vI (((m 0 0 30).toNat : Nat) : Int), vI (m 0 0 31), vI (m 0 0 32), vI (((m 0 0 33).toNat : Nat) : Int), vI (m 0 0 34), .ref (am 35 0), .ref (am 36 0), .ref (am 37 0)]) rfl rfl (by simp) rfl dX8_edits_2 (x_hn (fun h2 e3 => ?_))
  have f4 : h2 (am 0 0) = some (eO 8 [vI 0, .ref (am 1 0), vI (m 0 0 2), .ref (am 3 0), .ref (am 4 0), .ref (am 5 0), .ref (am 6 0), .ref (am 7 0), .ref (am 8 0), .ref (am 9 0), .ref (am 10 0), .ref (am 11 0), .ref (am 12 0), .ref (am 13 0), vI (m 0 0 14), .ref (am 15 0), .ref (am 16 0), .ref (am 17 0), .ref (am 18 0), .ref (am 19 0), .ref (am 20 0), .ref (am 21 0), .ref (am 22 0), .ref (am 23 0), .ref (am 24 0), .ref (am 25 0), .ref (am 26 0), .ref (am 27 0), .ref (am 28 0), .ref (am 29 0), vI (((m 0 0 30).toNat : Nat) : Int), vI (m 0 0 31), vI (m 0 0 32), vI (((m 0 0 33).toNat : Nat) : Int), vI (m 0 0 34), .ref (am 35 0), .ref (am 36 0), .ref (am 37 0)]) := by rw [e3]; exact hu_s
  refine x_aload_n C dX8_edits_5 0 rfl ?_
  refine x_iload_n C dX8_edits_6 1 rfl ?_
  have cp6 : MP D am h (cu m 0 0 ((fu (m 0 0) 0 0))) h2 := by rw [e3]; exact (MP.up (MP.rf hR) (lm0 (by decide)) ((fu (m 0 0) 0 0)) rfl)
  refine x_callV C (n := 1) (qc := (RX8, TX8, 38)) (As := [vI u]) (rest := []) (c_X8_isLevel (cp6.1) (hM1) (by omega)) gX8_edits_X8_isLevel (by decide +kernel) f4 rfl rfl rfl rfl (Nat.le_of_ble_eq_true rfl) ⟨by decide, by decide⟩ ⟨(by decide), (by decide)⟩ dX8_edits_7 (fun rv7 h8 hp9 => ?_)
  obtain ⟨rfl, e10⟩ := hp9
  obtain rfl := e10.symm
  refine x_topv (show bI (0 ≤ u ∧ u ≤ ((cu m 0 0 ((fu (m 0 0) 0 0)))) 0 0 2 - 1) = bI (0 ≤ u ∧ u ≤ m 0 0 2 - 1) from by rfl) ?_
  have hbr5 := bI_cs ((0 ≤ u ∧ u ≤ m 0 0 2 - 1))
  refine x_if_ne (tgt := 19) C dX8_edits_10 (by decide) (by omega) (fun c11 => ?_) (fun c11 => ?_)
  · skip
    refine x_iload_n C dX8_edits_19 2 rfl ?_
    refine x_if_eq (tgt := 32) C dX8_edits_20 (by decide) (by omega) (fun c12 => ?_) (fun c12 => ?_)
    · skip
      refine x_aload_n C dX8_edits_32 0 rfl ?_
      refine x_get C (v := .ref (am 11 0)) f4 (T := TX8) rfl kX8_edits_1 11 (by decide) kX8_edits_2 rfl dX8_edits_33 ?_
      refine x_iload_n C dX8_edits_36 1 rfl ?_
      have f13 : h (am 11 0) = some (eI D 12 (m 11 0)) := hR.1 11 0 (lm0 (by decide))
      have f14 : h2 (am 11 0) = some (eI D 12 (m 11 0)) := by rw [e3, hu_n (hR.ne (lm0 (by decide)) (lm0 (by decide)) (fun zz9 => absurd zz9.1 (by decide)))]; exact f13
      refine x_iald C f14 ⟨by omega, by omega⟩ (by decide) dX8_edits_37 ?_
      refine x_iret C G dX8_edits_38 ?_ (by decide) (by decide)
      have cp15 : MP D am h (cu m 0 0 ((fu (m 0 0) 0 0))) h2 := by rw [e3]; exact (MP.up (MP.rf hR) (lm0 (by decide)) ((fu (m 0 0) 0 0)) rfl)
      first
        | exact ⟨_, _, rfl, cp15, Or.inl (⟨rfl, by omega, (by repeat (first | exact SM.rf | refine SM.th ?_ | refine SM.o2 ?_ | refine SM.o14 ?_ | refine SM.sr ?_ | refine SM.ly (by assumption) (by assumption) ?_ | refine SM.bm ?_ | refine SM.st ?_ | refine SM.mv ?_ | refine SM.up (by decide) ?_))⟩)⟩
        | exact ⟨_, _, rfl, cp15, Or.inr (Or.inl (⟨rfl, by omega, by first | rfl | omega, (by repeat (first | exact SM.rf | refine SM.th ?_ | refine SM.o2 ?_ | refine SM.o14 ?_ | refine SM.sr ?_ | refine SM.ly (by assumption) (by assumption) ?_ | refine SM.bm ?_ | refine SM.st ?_ | refine SM.mv ?_ | refine SM.up (by decide) ?_))⟩))⟩
        | exact ⟨_, _, rfl, cp15, Or.inr (Or.inr (⟨rfl, by omega, by first | rfl | omega, (by repeat (first | exact SM.rf | refine SM.th ?_ | refine SM.o2 ?_ | refine SM.o14 ?_ | refine SM.sr ?_ | refine SM.ly (by assumption) (by assumption) ?_ | refine SM.bm ?_ | refine SM.st ?_ | refine SM.mv ?_ | refine SM.up (by decide) ?_))⟩))⟩
    · skip
      refine x_aload_n C dX8_edits_23 0 rfl ?_
      refine x_get C (v := .ref (am 8 0)) f4 (T := TX8) rfl kX8_edits_1 8 (by decide) kX8_edits_3 rfl dX8_edits_24 ?_
      refine x_iload_n C dX8_edits_27 1 rfl ?_
      have f16 : h (am 8 0) = some (eI D 12 (m 8 0)) := hR.1 8 0 (lm0 (by decide))
      have f17 : h2 (am 8 0) = some (eI D 12 (m 8 0)) := by rw [e3, hu_n (hR.ne (lm0 (by decide)) (lm0 (by decide)) (fun zz9 => absurd zz9.1 (by decide)))]; exact f16
      refine x_iald C f17 ⟨by omega, by omega⟩ (by decide) dX8_edits_28 ?_
      refine x_goto (tgt := 38) C dX8_edits_29 (by decide) ?_
      refine x_iret C G dX8_edits_38 ?_ (by decide) (by decide)
      have cp18 : MP D am h (cu m 0 0 ((fu (m 0 0) 0 0))) h2 := by rw [e3]; exact (MP.up (MP.rf hR) (lm0 (by decide)) ((fu (m 0 0) 0 0)) rfl)
      first
        | exact ⟨_, _, rfl, cp18, Or.inl (⟨rfl, by omega, (by repeat (first | exact SM.rf | refine SM.th ?_ | refine SM.o2 ?_ | refine SM.o14 ?_ | refine SM.sr ?_ | refine SM.ly (by assumption) (by assumption) ?_ | refine SM.bm ?_ | refine SM.st ?_ | refine SM.mv ?_ | refine SM.up (by decide) ?_))⟩)⟩
        | exact ⟨_, _, rfl, cp18, Or.inr (Or.inl (⟨rfl, by omega, by first | rfl | omega, (by repeat (first | exact SM.rf | refine SM.th ?_ | refine SM.o2 ?_ | refine SM.o14 ?_ | refine SM.sr ?_ | refine SM.ly (by assumption) (by assumption) ?_ | refine SM.bm ?_ | refine SM.st ?_ | refine SM.mv ?_ | refine SM.up (by decide) ?_))⟩))⟩
        | exact ⟨_, _, rfl, cp18, Or.inr (Or.inr (⟨rfl, by omega, by first | rfl | omega, (by repeat (first | exact SM.rf | refine SM.th ?_ | refine SM.o2 ?_ | refine SM.o14 ?_ | refine SM.sr ?_ | refine SM.ly (by assumption) (by assumption) ?_ | refine SM.bm ?_ | refine SM.st ?_ | refine SM.mv ?_ | refine SM.up (by decide) ?_))⟩))⟩
  · skip
    refine x_aload_n C dX8_edits_13 0 rfl ?_
    refine x_iconst C dX8_edits_14 1 (by decide) ?_
    have cp19 : MP D am h (cu m 0 0 ((fu (m 0 0) 0 0))) h2 := by rw [e3]; exact (MP.up (MP.rf hR) (lm0 (by decide)) ((fu (m 0 0) 0 0)) rfl)
    refine x_callV C (n := 1) (qc := (RX8, TX8, 38)) (As := [vI 1]) (rest := []) (c_X8_fails (cp19.1)) gX8_edits_X8_fails (by decide +kernel) f4 rfl rfl rfl rfl (Nat.le_of_ble_eq_true rfl) ⟨by decide, by decide⟩ ⟨(by decide), (by decide)⟩ dX8_edits_15 (fun rv20 h21 hp22 => ?_)
    obtain ⟨rfl, cp24⟩ := hp22
    have cp25 : MP D am h ((cu ((cu m 0 0 ((fu (m 0 0) 0 0)))) 0 0 ((fu (((cu m 0 0 ((fu (m 0 0) 0 0)))) 0 0) 0 1)))) h21 := MP.trans cp19 cp24
    refine x_iret C G dX8_edits_18 ?_ (by decide) (by decide)
    first
      | exact ⟨_, _, rfl, cp25, Or.inl (⟨rfl, by omega, (by repeat (first | exact SM.rf | refine SM.th ?_ | refine SM.o2 ?_ | refine SM.o14 ?_ | refine SM.sr ?_ | refine SM.ly (by assumption) (by assumption) ?_ | refine SM.bm ?_ | refine SM.st ?_ | refine SM.mv ?_ | refine SM.up (by decide) ?_))⟩)⟩
      | exact ⟨_, _, rfl, cp25, Or.inr (Or.inl (⟨rfl, by omega, by first | rfl | omega, (by repeat (first | exact SM.rf | refine SM.th ?_ | refine SM.o2 ?_ | refine SM.o14 ?_ | refine SM.sr ?_ | refine SM.ly (by assumption) (by assumption) ?_ | refine SM.bm ?_ | refine SM.st ?_ | refine SM.mv ?_ | refine SM.up (by decide) ?_))⟩))⟩
      | exact ⟨_, _, rfl, cp25, Or.inr (Or.inr (⟨rfl, by omega, by first | rfl | omega, (by repeat (first | exact SM.rf | refine SM.th ?_ | refine SM.o2 ?_ | refine SM.o14 ?_ | refine SM.sr ?_ | refine SM.ly (by assumption) (by assumption) ?_ | refine SM.bm ?_ | refine SM.st ?_ | refine SM.mv ?_ | refine SM.up (by decide) ?_))⟩))⟩

theorem kX8_body_0 : Cond.fieldLink "LedgeLevelsModel" 101 "LedgeLevelsModel" "thrown" "I" ∈ wsX8_body := by decide +kernel
theorem kX8_body_1 : ∀ w ∈ wsX80, w ∈ wsX8_body := by decide +kernel
theorem kX8_body_2 : Cond.fieldLink "LedgeLevelsModel" 67 "LedgeLevelsModel" "runState" "[I" ∈ wsX8_body := by decide +kernel
theorem kX8_body_3 : Cond.fieldLink "LedgeLevelsModel" 73 "LedgeLevelsModel" "runCell" "[I" ∈ wsX8_body := by decide +kernel
set_option maxRecDepth 100000 in
set_option maxHeartbeats 2000000 in
theorem c_X8_body {l : Launch} {D : va_G} {A : Nat → Prop} {h : vh} {am : AD} {m : CS} {u : Int}  (hR : RepM D am m h) (hM1 : Mk1 m) (hi_u : -2147483648 ≤ u ∧ u ≤ 2147483647) (hst : ∀ j, j < 6 → 0 ≤ m 22 0 j ∧ m 22 0 j ≤ 4) : MX l D A yX8_body wsX8_body { frames := 2, cells := 0, slots := 0, locals := 42 } [.ref (am 0 0), vI u] h (fun rv h' => ∃ (r : Int) (m1 : CS), rv = some (vI r) ∧ MP D am h (m1) h' ∧ ((m1 0 0 0 = 1 ∧ (¬ (0 ≤ u ∧ u < 6)) ∧ SM m m1) ∨ (m1 0 0 0 = 0 ∧ (0 ≤ u ∧ u < 6 ∧ m 22 0 u.toNat = 0) ∧ r = -1 ∧ SM m m1) ∨ (m1 0 0 0 = 0 ∧ (0 ≤ u ∧ u < 6 ∧ ¬ m 22 0 u.toNat = 0) ∧ r = m 24 0 u.toNat ∧ SM m m1))) := by
  refine MX.of (cc := cX8_body) (maxL := 2) (ret := (some .int)) [(0, .ref (am 0 0)), (1, vI u)] (by decide +kernel) rfl rfl (Nat.le_of_ble_eq_true rfl) ?_
  intro κ C hkl G
  subst hkl
  have C : CX κ "LedgeLevelsModel" "body" cX8_body wsX8_body { frames := 2, cells := 0, slots := 0, locals := 42 } D A 2 := C
  have hiz : nq (D.1 20) (D.1 21) := cx_iz C
  obtain ⟨hM1a, hM1b⟩ := id hM1
  refine x_aload_n C dX8_body_0 0 rfl ?_
  refine x_iconst C dX8_body_1 0 (by decide) ?_
  have f1 : h (am 0 0) = some (eO 8 [vI (m 0 0 0), .ref (am 1 0), vI (m 0 0 2), .ref (am 3 0), .ref (am 4 0), .ref (am 5 0), .ref (am 6 0), .ref (am 7 0), .ref (am 8 0), .ref (am 9 0), .ref (am 10 0), .ref (am 11 0), .ref (am 12 0), .ref (am 13 0), vI (m 0 0 14), .ref (am 15 0), .ref (am 16 0), .ref (am 17 0), .ref (am 18 0), .ref (am 19 0), .ref (am 20 0), .ref (am 21 0), .ref (am 22 0), .ref (am 23 0), .ref (am 24 0), .ref (am 25 0), .ref (am 26 0), .ref (am 27 0), .ref (am 28 0), .ref (am 29 0), vI (((m 0 0 30).toNat : Nat) : Int), vI (m 0 0 31), vI (m 0 0 32), vI (((m 0 0 33).toNat : Nat) : Int), vI (m 0 0 34), .ref (am 35 0), .ref (am 36 0), .ref (am 37 0)]) := hR.1 0 0 (lm0 (by decide))
  refine x_put C f1 (T := TX8) rfl tyX8_ok nmX8 kX8_body_1 0 (by decide) kX8_body_0 rfl (fs' := [vI 0, .ref (am 1 0), vI (m 0 0 2), .ref (am 3 0), .ref (am 4 0), .ref (am 5 0), .ref (am 6 0), .ref (am 7 0), .ref (am 8 0), .ref (am 9 0), .ref (am 10 0), .ref (am 11 0), .ref (am 12 0), .ref (am 13 0), vI (m 0 0 14), .ref (am 15 0), .ref (am 16 0), .ref (am 17 0), .ref (am 18 0), .ref (am 19 0), .ref (am 20 0), .ref (am 21 0), .ref (am 22 0), .ref (am 23 0), .ref (am 24 0), .ref (am 25 0), .ref (am 26 0), .ref (am 27 0), .ref (am 28 0), .ref (am 29 0), vI (((m 0 0 30).toNat : Nat) : Int), vI (m 0 0 31), vI (m 0 0 32), vI (((m 0 0 33).toNat : Nat) : Int), vI (m 0 0 34), .ref (am 35 0), .ref (am 36 0), .ref (am 37 0)]) rfl rfl (by simp) rfl dX8_body_2 (x_hn (fun h2 e3 => ?_))
  have f4 : h2 (am 0 0) = some (eO 8 [vI 0, .ref (am 1 0), vI (m 0 0 2), .ref (am 3 0), .ref (am 4 0), .ref (am 5 0), .ref (am 6 0), .ref (am 7 0), .ref (am 8 0), .ref (am 9 0), .ref (am 10 0), .ref (am 11 0), .ref (am 12 0), .ref (am 13 0), vI (m 0 0 14), .ref (am 15 0), .ref (am 16 0), .ref (am 17 0), .ref (am 18 0), .ref (am 19 0), .ref (am 20 0), .ref (am 21 0), .ref (am 22 0), .ref (am 23 0), .ref (am 24 0), .ref (am 25 0), .ref (am 26 0), .ref (am 27 0), .ref (am 28 0), .ref (am 29 0), vI (((m 0 0 30).toNat : Nat) : Int), vI (m 0 0 31), vI (m 0 0 32), vI (((m 0 0 33).toNat : Nat) : Int), vI (m 0 0 34), .ref (am 35 0), .ref (am 36 0), .ref (am 37 0)]) := by rw [e3]; exact hu_s
  refine x_iload_n C dX8_body_5 1 rfl ?_
  refine x_callS C (n := 1) (As := [vI u]) (rest := []) (c_X8_isPerson (by omega)) gX8_body_X8_isPerson (by decide +kernel) rfl rfl rfl (Nat.le_of_ble_eq_true rfl) ⟨by decide, by decide⟩ ⟨(by decide), (by decide)⟩ dX8_body_6 (fun rv6 h7 hp8 => ?_)
  obtain ⟨rfl, e9⟩ := hp8
  obtain rfl := e9.symm
  have hbr5 := bI_cs ((0 ≤ u ∧ u ≤ 5))
  refine x_if_ne (tgt := 18) C dX8_body_9 (by decide) (by omega) (fun c10 => ?_) (fun c10 => ?_)
  · skip
    have hs9 := hst u.toNat (by omega)
    refine x_aload_n C dX8_body_18 0 rfl ?_
    refine x_get C (v := .ref (am 22 0)) f4 (T := TX8) rfl kX8_body_1 22 (by decide) kX8_body_2 rfl dX8_body_19 ?_
    refine x_iload_n C dX8_body_22 1 rfl ?_
    have f11 : h (am 22 0) = some (eI D 6 (m 22 0)) := hR.1 22 0 (lm0 (by decide))
    have f12 : h2 (am 22 0) = some (eI D 6 (m 22 0)) := by rw [e3, hu_n (hR.ne (lm0 (by decide)) (lm0 (by decide)) (fun zz9 => absurd zz9.1 (by decide)))]; exact f11
    refine x_iald C f12 ⟨by omega, by omega⟩ (by decide) dX8_body_23 ?_
    refine x_topv (show (m 22 0) (Int.toNat u) = m 22 0 u.toNat from by rfl) ?_
    refine x_if_ne (tgt := 31) C dX8_body_24 (by decide) (by omega) (fun c13 => ?_) (fun c13 => ?_)
    · skip
      refine x_aload_n C dX8_body_31 0 rfl ?_
      refine x_get C (v := .ref (am 24 0)) f4 (T := TX8) rfl kX8_body_1 24 (by decide) kX8_body_3 rfl dX8_body_32 ?_
      refine x_iload_n C dX8_body_35 1 rfl ?_
      have f14 : h (am 24 0) = some (eI D 6 (m 24 0)) := hR.1 24 0 (lm0 (by decide))
      have f15 : h2 (am 24 0) = some (eI D 6 (m 24 0)) := by rw [e3, hu_n (hR.ne (lm0 (by decide)) (lm0 (by decide)) (fun zz9 => absurd zz9.1 (by decide)))]; exact f14
      refine x_iald C f15 ⟨by omega, by omega⟩ (by decide) dX8_body_36 ?_
      refine x_iret C G dX8_body_37 ?_ (by decide) (by decide)
      have cp16 : MP D am h (cu m 0 0 ((fu (m 0 0) 0 0))) h2 := by rw [e3]; exact (MP.up (MP.rf hR) (lm0 (by decide)) ((fu (m 0 0) 0 0)) rfl)
      first
        | exact ⟨_, _, rfl, cp16, Or.inl (⟨rfl, by omega, (by repeat (first | exact SM.rf | refine SM.th ?_ | refine SM.o2 ?_ | refine SM.o14 ?_ | refine SM.sr ?_ | refine SM.ly (by assumption) (by assumption) ?_ | refine SM.bm ?_ | refine SM.st ?_ | refine SM.mv ?_ | refine SM.up (by decide) ?_))⟩)⟩
        | exact ⟨_, _, rfl, cp16, Or.inr (Or.inl (⟨rfl, by omega, by first | rfl | omega, (by repeat (first | exact SM.rf | refine SM.th ?_ | refine SM.o2 ?_ | refine SM.o14 ?_ | refine SM.sr ?_ | refine SM.ly (by assumption) (by assumption) ?_ | refine SM.bm ?_ | refine SM.st ?_ | refine SM.mv ?_ | refine SM.up (by decide) ?_))⟩))⟩
        | exact ⟨_, _, rfl, cp16, Or.inr (Or.inr (⟨rfl, by omega, by first | rfl | omega, (by repeat (first | exact SM.rf | refine SM.th ?_ | refine SM.o2 ?_ | refine SM.o14 ?_ | refine SM.sr ?_ | refine SM.ly (by assumption) (by assumption) ?_ | refine SM.bm ?_ | refine SM.st ?_ | refine SM.mv ?_ | refine SM.up (by decide) ?_))⟩))⟩
    · skip
      refine x_iconst C dX8_body_27 (-1) (by decide) ?_
      refine x_goto (tgt := 37) C dX8_body_28 (by decide) ?_
      refine x_iret C G dX8_body_37 ?_ (by decide) (by decide)
      have cp17 : MP D am h (cu m 0 0 ((fu (m 0 0) 0 0))) h2 := by rw [e3]; exact (MP.up (MP.rf hR) (lm0 (by decide)) ((fu (m 0 0) 0 0)) rfl)
      first
        | exact ⟨_, _, rfl, cp17, Or.inl (⟨rfl, by omega, (by repeat (first | exact SM.rf | refine SM.th ?_ | refine SM.o2 ?_ | refine SM.o14 ?_ | refine SM.sr ?_ | refine SM.ly (by assumption) (by assumption) ?_ | refine SM.bm ?_ | refine SM.st ?_ | refine SM.mv ?_ | refine SM.up (by decide) ?_))⟩)⟩
        | exact ⟨_, _, rfl, cp17, Or.inr (Or.inl (⟨rfl, by omega, by first | rfl | omega, (by repeat (first | exact SM.rf | refine SM.th ?_ | refine SM.o2 ?_ | refine SM.o14 ?_ | refine SM.sr ?_ | refine SM.ly (by assumption) (by assumption) ?_ | refine SM.bm ?_ | refine SM.st ?_ | refine SM.mv ?_ | refine SM.up (by decide) ?_))⟩))⟩
        | exact ⟨_, _, rfl, cp17, Or.inr (Or.inr (⟨rfl, by omega, by first | rfl | omega, (by repeat (first | exact SM.rf | refine SM.th ?_ | refine SM.o2 ?_ | refine SM.o14 ?_ | refine SM.sr ?_ | refine SM.ly (by assumption) (by assumption) ?_ | refine SM.bm ?_ | refine SM.st ?_ | refine SM.mv ?_ | refine SM.up (by decide) ?_))⟩))⟩
  · skip
    refine x_aload_n C dX8_body_12 0 rfl ?_
    refine x_iconst C dX8_body_13 1 (by decide) ?_
    have cp18 : MP D am h (cu m 0 0 ((fu (m 0 0) 0 0))) h2 := by rw [e3]; exact (MP.up (MP.rf hR) (lm0 (by decide)) ((fu (m 0 0) 0 0)) rfl)
    refine x_callV C (n := 1) (qc := (RX8, TX8, 38)) (As := [vI 1]) (rest := []) (c_X8_fails (cp18.1)) gX8_body_X8_fails (by decide +kernel) f4 rfl rfl rfl rfl (Nat.le_of_ble_eq_true rfl) ⟨by decide, by decide⟩ ⟨(by decide), (by decide)⟩ dX8_body_14 (fun rv19 h20 hp21 => ?_)
    obtain ⟨rfl, cp23⟩ := hp21
    have cp24 : MP D am h ((cu ((cu m 0 0 ((fu (m 0 0) 0 0)))) 0 0 ((fu (((cu m 0 0 ((fu (m 0 0) 0 0)))) 0 0) 0 1)))) h20 := MP.trans cp18 cp23
    refine x_iret C G dX8_body_17 ?_ (by decide) (by decide)
    first
      | exact ⟨_, _, rfl, cp24, Or.inl (⟨rfl, by omega, (by repeat (first | exact SM.rf | refine SM.th ?_ | refine SM.o2 ?_ | refine SM.o14 ?_ | refine SM.sr ?_ | refine SM.ly (by assumption) (by assumption) ?_ | refine SM.bm ?_ | refine SM.st ?_ | refine SM.mv ?_ | refine SM.up (by decide) ?_))⟩)⟩
      | exact ⟨_, _, rfl, cp24, Or.inr (Or.inl (⟨rfl, by omega, by first | rfl | omega, (by repeat (first | exact SM.rf | refine SM.th ?_ | refine SM.o2 ?_ | refine SM.o14 ?_ | refine SM.sr ?_ | refine SM.ly (by assumption) (by assumption) ?_ | refine SM.bm ?_ | refine SM.st ?_ | refine SM.mv ?_ | refine SM.up (by decide) ?_))⟩))⟩
      | exact ⟨_, _, rfl, cp24, Or.inr (Or.inr (⟨rfl, by omega, by first | rfl | omega, (by repeat (first | exact SM.rf | refine SM.th ?_ | refine SM.o2 ?_ | refine SM.o14 ?_ | refine SM.sr ?_ | refine SM.ly (by assumption) (by assumption) ?_ | refine SM.bm ?_ | refine SM.st ?_ | refine SM.mv ?_ | refine SM.up (by decide) ?_))⟩))⟩

theorem kX8_keys_0 : Cond.fieldLink "LedgeLevelsModel" 101 "LedgeLevelsModel" "thrown" "I" ∈ wsX8_keys := by decide +kernel
theorem kX8_keys_1 : ∀ w ∈ wsX80, w ∈ wsX8_keys := by decide +kernel
theorem kX8_keys_2 : Cond.fieldLink "LedgeLevelsModel" 79 "LedgeLevelsModel" "runTaken" "[I" ∈ wsX8_keys := by decide +kernel
set_option maxRecDepth 100000 in
set_option maxHeartbeats 1000000 in
theorem c_X8_keys {l : Launch} {D : va_G} {A : Nat → Prop} {h : vh} {am : AD} {m : CS} {u : Int}  (hR : RepM D am m h) (hM1 : Mk1 m) (hi_u : -2147483648 ≤ u ∧ u ≤ 2147483647) (hst : ∀ j, j < 6 → 0 ≤ m 26 0 j ∧ m 26 0 j < 8) : MX l D A yX8_keys wsX8_keys { frames := 2, cells := 0, slots := 0, locals := 42 } [.ref (am 0 0), vI u] h (fun rv h' => ∃ (r : Int) (m1 : CS), rv = some (vI r) ∧ MP D am h (m1) h' ∧ ((m1 0 0 0 = 1 ∧ (¬ (0 ≤ u ∧ u < 6)) ∧ SM m m1) ∨ (m1 0 0 0 = 0 ∧ (0 ≤ u ∧ u < 6) ∧ r = ((pc3 (m 26 0 u.toNat).toNat : Nat) : Int) ∧ SM m m1))) := by
  refine MX.of (cc := cX8_keys) (maxL := 2) (ret := (some .int)) [(0, .ref (am 0 0)), (1, vI u)] (by decide +kernel) rfl rfl (Nat.le_of_ble_eq_true rfl) ?_
  intro κ C hkl G
  subst hkl
  have C : CX κ "LedgeLevelsModel" "keys" cX8_keys wsX8_keys { frames := 2, cells := 0, slots := 0, locals := 42 } D A 2 := C
  have hiz : nq (D.1 20) (D.1 21) := cx_iz C
  obtain ⟨hM1a, hM1b⟩ := id hM1
  refine x_aload_n C dX8_keys_0 0 rfl ?_
  refine x_iconst C dX8_keys_1 0 (by decide) ?_
  have f1 : h (am 0 0) = some (eO 8 [vI (m 0 0 0), .ref (am 1 0), vI (m 0 0 2), .ref (am 3 0), .ref (am 4 0), .ref (am 5 0), .ref (am 6 0), .ref (am 7 0), .ref (am 8 0), .ref (am 9 0), .ref (am 10 0), .ref (am 11 0), .ref (am 12 0), .ref (am 13 0), vI (m 0 0 14), .ref (am 15 0), .ref (am 16 0), .ref (am 17 0), .ref (am 18 0), .ref (am 19 0), .ref (am 20 0), .ref (am 21 0), .ref (am 22 0), .ref (am 23 0), .ref (am 24 0), .ref (am 25 0), .ref (am 26 0), .ref (am 27 0), .ref (am 28 0), .ref (am 29 0), vI (((m 0 0 30).toNat : Nat) : Int), vI (m 0 0 31), vI (m 0 0 32), vI (((m 0 0 33).toNat : Nat) : Int), vI (m 0 0 34), .ref (am 35 0), .ref (am 36 0), .ref (am 37 0)]) := hR.1 0 0 (lm0 (by decide))
  refine x_put C f1 (T := TX8) rfl tyX8_ok nmX8 kX8_keys_1 0 (by decide) kX8_keys_0 rfl (fs' := [vI 0, .ref (am 1 0), vI (m 0 0 2), .ref (am 3 0), .ref (am 4 0), .ref (am 5 0), .ref (am 6 0), .ref (am 7 0), .ref (am 8 0), .ref (am 9 0), .ref (am 10 0), .ref (am 11 0), .ref (am 12 0), .ref (am 13 0), vI (m 0 0 14), .ref (am 15 0), .ref (am 16 0), .ref (am 17 0), .ref (am 18 0), .ref (am 19 0), .ref (am 20 0), .ref (am 21 0), .ref (am 22 0), .ref (am 23 0), .ref (am 24 0), .ref (am 25 0), .ref (am 26 0), .ref (am 27 0), .ref (am 28 0), .ref (am 29 0), vI (((m 0 0 30).toNat : Nat) : Int), vI (m 0 0 31), vI (m 0 0 32), vI (((m 0 0 33).toNat : Nat) : Int), vI (m 0 0 34), .ref (am 35 0), .ref (am 36 0), .ref (am 37 0)]) rfl rfl (by simp) rfl dX8_keys_2 (x_hn (fun h2 e3 => ?_))
  have f4 : h2 (am 0 0) = some (eO 8 [vI 0, .ref (am 1 0), vI (m 0 0 2), .ref (am 3 0), .ref (am 4 0), .ref (am 5 0), .ref (am 6 0), .ref (am 7 0), .ref (am 8 0), .ref (am 9 0), .ref (am 10 0), .ref (am 11 0), .ref (am 12 0), .ref (am 13 0), vI (m 0 0 14), .ref (am 15 0), .ref (am 16 0), .ref (am 17 0), .ref (am 18 0), .ref (am 19 0), .ref (am 20 0), .ref (am 21 0), .ref (am 22 0), .ref (am 23 0), .ref (am 24 0), .ref (am 25 0), .ref (am 26 0), .ref (am 27 0), .ref (am 28 0), .ref (am 29 0), vI (((m 0 0 30).toNat : Nat) : Int), vI (m 0 0 31), vI (m 0 0 32), vI (((m 0 0 33).toNat : Nat) : Int), vI (m 0 0 34), .ref (am 35 0), .ref (am 36 0), .ref (am 37 0)]) := by rw [e3]; exact hu_s
  refine x_iload_n C dX8_keys_5 1 rfl ?_
  refine x_callS C (n := 1) (As := [vI u]) (rest := []) (c_X8_isPerson (by omega)) gX8_keys_X8_isPerson (by decide +kernel) rfl rfl rfl (Nat.le_of_ble_eq_true rfl) ⟨by decide, by decide⟩ ⟨(by decide), (by decide)⟩ dX8_keys_6 (fun rv6 h7 hp8 => ?_)
  obtain ⟨rfl, e9⟩ := hp8
  obtain rfl := e9.symm
  have hbr5 := bI_cs ((0 ≤ u ∧ u ≤ 5))
  refine x_if_ne (tgt := 18) C dX8_keys_9 (by decide) (by omega) (fun c10 => ?_) (fun c10 => ?_)
  · skip
    have hs9 := hst u.toNat (by omega)
    obtain ⟨p9, hp9⟩ : ∃ p9, p9 = (m 26 0 u.toNat).toNat := ⟨_, rfl⟩
    refine x_aload_n C dX8_keys_18 0 rfl ?_
    refine x_get C (v := .ref (am 26 0)) f4 (T := TX8) rfl kX8_keys_1 26 (by decide) kX8_keys_2 rfl dX8_keys_19 ?_
    refine x_iload_n C dX8_keys_22 1 rfl ?_
    have f11 : h (am 26 0) = some (eI D 6 (m 26 0)) := hR.1 26 0 (lm0 (by decide))
    have f12 : h2 (am 26 0) = some (eI D 6 (m 26 0)) := by rw [e3, hu_n (hR.ne (lm0 (by decide)) (lm0 (by decide)) (fun zz9 => absurd zz9.1 (by decide)))]; exact f11
    refine x_iald C f12 ⟨by omega, by omega⟩ (by decide) dX8_keys_23 ?_
    refine x_topv (show (m 26 0) (Int.toNat u) = ((p9 : Nat) : Int) from by show m 26 0 u.toNat = _; omega) ?_
    refine x_iconst C dX8_keys_24 1 (by decide) ?_
    refine x_iandv C ((((p9) % 2 : Nat) : Int)) (by rw [show iI (1 : Int) = iI ((1 : Nat) : Int) from rfl, iI_and, Nat.and_one_is_mod]) dX8_keys_25 ?_
    refine x_aload_n C dX8_keys_26 0 rfl ?_
    refine x_get C (v := .ref (am 26 0)) f4 (T := TX8) rfl kX8_keys_1 26 (by decide) kX8_keys_2 rfl dX8_keys_27 ?_
    refine x_iload_n C dX8_keys_30 1 rfl ?_
    refine x_iald C f12 ⟨by omega, by omega⟩ (by decide) dX8_keys_31 ?_
    refine x_topv (show (m 26 0) (Int.toNat u) = ((p9 : Nat) : Int) from by show m 26 0 u.toNat = _; omega) ?_
    refine x_iconst C dX8_keys_32 1 (by decide) ?_
    refine x_ishrv C (((p9 / 2 : Nat) : Int)) (iI_shr 1 _ (by decide) (by omega)) dX8_keys_33 ?_
    refine x_iconst C dX8_keys_34 1 (by decide) ?_
    refine x_iandv C ((((p9 / 2) % 2 : Nat) : Int)) (by rw [show iI (1 : Int) = iI ((1 : Nat) : Int) from rfl, iI_and, Nat.and_one_is_mod]) dX8_keys_35 ?_
    refine x_iadd C dX8_keys_36 ?_
    refine x_aload_n C dX8_keys_37 0 rfl ?_
    refine x_get C (v := .ref (am 26 0)) f4 (T := TX8) rfl kX8_keys_1 26 (by decide) kX8_keys_2 rfl dX8_keys_38 ?_
    refine x_iload_n C dX8_keys_41 1 rfl ?_
    refine x_iald C f12 ⟨by omega, by omega⟩ (by decide) dX8_keys_42 ?_
    refine x_topv (show (m 26 0) (Int.toNat u) = ((p9 : Nat) : Int) from by show m 26 0 u.toNat = _; omega) ?_
    refine x_iconst C dX8_keys_43 2 (by decide) ?_
    refine x_ishrv C (((p9 / 4 : Nat) : Int)) (iI_shr 2 _ (by decide) (by omega)) dX8_keys_44 ?_
    refine x_iconst C dX8_keys_45 1 (by decide) ?_
    refine x_iandv C ((((p9 / 4) % 2 : Nat) : Int)) (by rw [show iI (1 : Int) = iI ((1 : Nat) : Int) from rfl, iI_and, Nat.and_one_is_mod]) dX8_keys_46 ?_
    refine x_iadd C dX8_keys_47 ?_
    refine x_iret C G dX8_keys_48 ?_ (by decide) (by decide)
    have cp13 : MP D am h (cu m 0 0 ((fu (m 0 0) 0 0))) h2 := by rw [e3]; exact (MP.up (MP.rf hR) (lm0 (by decide)) ((fu (m 0 0) 0 0)) rfl)
    first
      | exact ⟨_, _, rfl, cp13, Or.inl (⟨rfl, by omega, (by repeat (first | exact SM.rf | refine SM.th ?_ | refine SM.o2 ?_ | refine SM.o14 ?_ | refine SM.sr ?_ | refine SM.ly (by assumption) (by assumption) ?_ | refine SM.bm ?_ | refine SM.st ?_ | refine SM.mv ?_ | refine SM.up (by decide) ?_))⟩)⟩
      | exact ⟨_, _, rfl, cp13, Or.inr (⟨rfl, by omega, by rw [← hp9]; unfold pc3; omega, (by repeat (first | exact SM.rf | refine SM.th ?_ | refine SM.o2 ?_ | refine SM.o14 ?_ | refine SM.sr ?_ | refine SM.ly (by assumption) (by assumption) ?_ | refine SM.bm ?_ | refine SM.st ?_ | refine SM.mv ?_ | refine SM.up (by decide) ?_))⟩)⟩
  · skip
    refine x_aload_n C dX8_keys_12 0 rfl ?_
    refine x_iconst C dX8_keys_13 1 (by decide) ?_
    have cp14 : MP D am h (cu m 0 0 ((fu (m 0 0) 0 0))) h2 := by rw [e3]; exact (MP.up (MP.rf hR) (lm0 (by decide)) ((fu (m 0 0) 0 0)) rfl)
    refine x_callV C (n := 1) (qc := (RX8, TX8, 38)) (As := [vI 1]) (rest := []) (c_X8_fails (cp14.1)) gX8_keys_X8_fails (by decide +kernel) f4 rfl rfl rfl rfl (Nat.le_of_ble_eq_true rfl) ⟨by decide, by decide⟩ ⟨(by decide), (by decide)⟩ dX8_keys_14 (fun rv15 h16 hp17 => ?_)
    obtain ⟨rfl, cp19⟩ := hp17
    have cp20 : MP D am h ((cu ((cu m 0 0 ((fu (m 0 0) 0 0)))) 0 0 ((fu (((cu m 0 0 ((fu (m 0 0) 0 0)))) 0 0) 0 1)))) h16 := MP.trans cp14 cp19
    refine x_iret C G dX8_keys_17 ?_ (by decide) (by decide)
    first
      | exact ⟨_, _, rfl, cp20, Or.inl (⟨rfl, by omega, (by repeat (first | exact SM.rf | refine SM.th ?_ | refine SM.o2 ?_ | refine SM.o14 ?_ | refine SM.sr ?_ | refine SM.ly (by assumption) (by assumption) ?_ | refine SM.bm ?_ | refine SM.st ?_ | refine SM.mv ?_ | refine SM.up (by decide) ?_))⟩)⟩
      | exact ⟨_, _, rfl, cp20, Or.inr (⟨rfl, by omega, by rw [← hp9]; unfold pc3; omega, (by repeat (first | exact SM.rf | refine SM.th ?_ | refine SM.o2 ?_ | refine SM.o14 ?_ | refine SM.sr ?_ | refine SM.ly (by assumption) (by assumption) ?_ | refine SM.bm ?_ | refine SM.st ?_ | refine SM.mv ?_ | refine SM.up (by decide) ?_))⟩)⟩

theorem kX8_levels_0 : Cond.fieldLink "LedgeLevelsModel" 101 "LedgeLevelsModel" "thrown" "I" ∈ wsX8_levels := by decide +kernel
theorem kX8_levels_1 : ∀ w ∈ wsX80, w ∈ wsX8_levels := by decide +kernel
theorem kX8_levels_2 : Cond.fieldLink "LedgeLevelsModel" 109 "LedgeLevelsModel" "levels" "I" ∈ wsX8_levels := by decide +kernel
set_option maxRecDepth 100000 in
set_option maxHeartbeats 1000000 in
theorem c_X8_levels {l : Launch} {D : va_G} {A : Nat → Prop} {h : vh} {am : AD} {m : CS}  (hR : RepM D am m h) : MX l D A yX8_levels wsX8_levels { frames := 0, cells := 0, slots := 0, locals := 0 } [.ref (am 0 0)] h (fun rv h' => rv = some (vI (m 0 0 2)) ∧ MP D am h (cu m 0 0 (fu (m 0 0) 0 0)) h') := by
  refine MX.of (cc := cX8_levels) (maxL := 1) (ret := (some .int)) [(0, .ref (am 0 0))] (by decide +kernel) rfl rfl (Nat.le_of_ble_eq_true rfl) ?_
  intro κ C hkl G
  subst hkl
  have C : CX κ "LedgeLevelsModel" "levels" cX8_levels wsX8_levels { frames := 0, cells := 0, slots := 0, locals := 0 } D A 1 := C
  have hiz : nq (D.1 20) (D.1 21) := cx_iz C
  refine x_aload_n C dX8_levels_0 0 rfl ?_
  refine x_iconst C dX8_levels_1 0 (by decide) ?_
  have f1 : h (am 0 0) = some (eO 8 [vI (m 0 0 0), .ref (am 1 0), vI (m 0 0 2), .ref (am 3 0), .ref (am 4 0), .ref (am 5 0), .ref (am 6 0), .ref (am 7 0), .ref (am 8 0), .ref (am 9 0), .ref (am 10 0), .ref (am 11 0), .ref (am 12 0), .ref (am 13 0), vI (m 0 0 14), .ref (am 15 0), .ref (am 16 0), .ref (am 17 0), .ref (am 18 0), .ref (am 19 0), .ref (am 20 0), .ref (am 21 0), .ref (am 22 0), .ref (am 23 0), .ref (am 24 0), .ref (am 25 0), .ref (am 26 0), .ref (am 27 0), .ref (am 28 0), .ref (am 29 0), vI (((m 0 0 30).toNat : Nat) : Int), vI (m 0 0 31), vI (m 0 0 32), vI (((m 0 0 33).toNat : Nat) : Int), vI (m 0 0 34), .ref (am 35 0), .ref (am 36 0), .ref (am 37 0)]) := hR.1 0 0 (lm0 (by decide))
  refine x_put C f1 (T := TX8) rfl tyX8_ok nmX8 kX8_levels_1 0 (by decide) kX8_levels_0 rfl (fs' := [vI 0, .ref (am 1 0), vI (m 0 0 2), .ref (am 3 0), .ref (am 4 0), .ref (am 5 0), .ref (am 6 0), .ref (am 7 0), .ref (am 8 0), .ref (am 9 0), .ref (am 10 0), .ref (am 11 0), .ref (am 12 0), .ref (am 13 0), vI (m 0 0 14), .ref (am 15 0), .ref (am 16 0), .ref (am 17 0), .ref (am 18 0), .ref (am 19 0), .ref (am 20 0), .ref (am 21 0), .ref (am 22 0), .ref (am 23 0), .ref (am 24 0), .ref (am 25 0), .ref (am 26 0), .ref (am 27 0), .ref (am 28 0), .ref (am 29 0), vI (((m 0 0 30).toNat : Nat) : Int), vI (m 0 0 31), vI (m 0 0 32), vI (((m 0 0 33).toNat : Nat) : Int), vI (m 0 0 34), .ref (am 35 0), .ref (am 36 0), .ref (am 37 0)]) rfl rfl (by simp) rfl dX8_levels_2 (x_hn (fun h2 e3 => ?_))
  have f4 : h2 (am 0 0) = some (eO 8 [vI 0, .ref (am 1 0), vI (m 0 0 2), .ref (am 3 0), .ref (am 4 0), .ref (am 5 0), .ref (am 6 0), .ref (am 7 0), .ref (am 8 0), .ref (am 9 0), .ref (am 10 0), .ref (am 11 0), .ref (am 12 0), .ref (am 13 0), vI (m 0 0 14), .ref (am 15 0), .ref (am 16 0), .ref (am 17 0), .ref (am 18 0), .ref (am 19 0), .ref (am 20 0), .ref (am 21 0), .ref (am 22 0), .ref (am 23 0), .ref (am 24 0), .ref (am 25 0), .ref (am 26 0), .ref (am 27 0), .ref (am 28 0), .ref (am 29 0), vI (((m 0 0 30).toNat : Nat) : Int), vI (m 0 0 31), vI (m 0 0 32), vI (((m 0 0 33).toNat : Nat) : Int), vI (m 0 0 34), .ref (am 35 0), .ref (am 36 0), .ref (am 37 0)]) := by rw [e3]; exact hu_s
  refine x_aload_n C dX8_levels_5 0 rfl ?_
  refine x_get C (v := vI (m 0 0 2)) f4 (T := TX8) rfl kX8_levels_1 2 (by decide) kX8_levels_2 rfl dX8_levels_6 ?_
  refine x_iret C G dX8_levels_9 ?_ (by decide) (by decide)
  have cp5 : MP D am h (cu m 0 0 ((fu (m 0 0) 0 0))) h2 := by rw [e3]; exact (MP.up (MP.rf hR) (lm0 (by decide)) ((fu (m 0 0) 0 0)) rfl)
  exact ⟨rfl, cp5⟩

theorem kX8_works_0 : Cond.fieldLink "LedgeLevelsModel" 101 "LedgeLevelsModel" "thrown" "I" ∈ wsX8_works := by decide +kernel
theorem kX8_works_1 : ∀ w ∈ wsX80, w ∈ wsX8_works := by decide +kernel
theorem kX8_works_2 : Cond.fieldLink "LedgeLevelsModel" 112 "LedgeLevelsModel" "works" "I" ∈ wsX8_works := by decide +kernel
set_option maxRecDepth 100000 in
set_option maxHeartbeats 1000000 in
theorem c_X8_works {l : Launch} {D : va_G} {A : Nat → Prop} {h : vh} {am : AD} {m : CS}  (hR : RepM D am m h) : MX l D A yX8_works wsX8_works { frames := 0, cells := 0, slots := 0, locals := 0 } [.ref (am 0 0)] h (fun rv h' => rv = some (vI (m 0 0 14)) ∧ MP D am h (cu m 0 0 (fu (m 0 0) 0 0)) h') := by
  refine MX.of (cc := cX8_works) (maxL := 1) (ret := (some .int)) [(0, .ref (am 0 0))] (by decide +kernel) rfl rfl (Nat.le_of_ble_eq_true rfl) ?_
  intro κ C hkl G
  subst hkl
  have C : CX κ "LedgeLevelsModel" "works" cX8_works wsX8_works { frames := 0, cells := 0, slots := 0, locals := 0 } D A 1 := C
  have hiz : nq (D.1 20) (D.1 21) := cx_iz C
  refine x_aload_n C dX8_works_0 0 rfl ?_
  refine x_iconst C dX8_works_1 0 (by decide) ?_
  have f1 : h (am 0 0) = some (eO 8 [vI (m 0 0 0), .ref (am 1 0), vI (m 0 0 2), .ref (am 3 0), .ref (am 4 0), .ref (am 5 0), .ref (am 6 0), .ref (am 7 0), .ref (am 8 0), .ref (am 9 0), .ref (am 10 0), .ref (am 11 0), .ref (am 12 0), .ref (am 13 0), vI (m 0 0 14), .ref (am 15 0), .ref (am 16 0), .ref (am 17 0), .ref (am 18 0), .ref (am 19 0), .ref (am 20 0), .ref (am 21 0), .ref (am 22 0), .ref (am 23 0), .ref (am 24 0), .ref (am 25 0), .ref (am 26 0), .ref (am 27 0), .ref (am 28 0), .ref (am 29 0), vI (((m 0 0 30).toNat : Nat) : Int), vI (m 0 0 31), vI (m 0 0 32), vI (((m 0 0 33).toNat : Nat) : Int), vI (m 0 0 34), .ref (am 35 0), .ref (am 36 0), .ref (am 37 0)]) := hR.1 0 0 (lm0 (by decide))
  refine x_put C f1 (T := TX8) rfl tyX8_ok nmX8 kX8_works_1 0 (by decide) kX8_works_0 rfl (fs' := [vI 0, .ref (am 1 0), vI (m 0 0 2), .ref (am 3 0), .ref (am 4 0), .ref (am 5 0), .ref (am 6 0), .ref (am 7 0), .ref (am 8 0), .ref (am 9 0), .ref (am 10 0), .ref (am 11 0), .ref (am 12 0), .ref (am 13 0), vI (m 0 0 14), .ref (am 15 0), .ref (am 16 0), .ref (am 17 0), .ref (am 18 0), .ref (am 19 0), .ref (am 20 0), .ref (am 21 0), .ref (am 22 0), .ref (am 23 0), .ref (am 24 0), .ref (am 25 0), .ref (am 26 0), .ref (am 27 0), .ref (am 28 0), .ref (am 29 0), vI (((m 0 0 30).toNat : Nat) : Int), vI (m 0 0 31), vI (m 0 0 32), vI (((m 0 0 33).toNat : Nat) : Int), vI (m 0 0 34), .ref (am 35 0), .ref (am 36 0), .ref (am 37 0)]) rfl rfl (by simp) rfl dX8_works_2 (x_hn (fun h2 e3 => ?_))
  have f4 : h2 (am 0 0) = some (eO 8 [vI 0, .ref (am 1 0), vI (m 0 0 2), .ref (am 3 0), .ref (am 4 0), .ref (am 5 0), .ref (am 6 0), .ref (am 7 0), .ref (am 8 0), .ref (am 9 0), .ref (am 10 0), .ref (am 11 0), .ref (am 12 0), .ref (am 13 0), vI (m 0 0 14), .ref (am 15 0), .ref (am 16 0), .ref (am 17 0), .ref (am 18 0), .ref (am 19 0), .ref (am 20 0), .ref (am 21 0), .ref (am 22 0), .ref (am 23 0), .ref (am 24 0), .ref (am 25 0), .ref (am 26 0), .ref (am 27 0), .ref (am 28 0), .ref (am 29 0), vI (((m 0 0 30).toNat : Nat) : Int), vI (m 0 0 31), vI (m 0 0 32), vI (((m 0 0 33).toNat : Nat) : Int), vI (m 0 0 34), .ref (am 35 0), .ref (am 36 0), .ref (am 37 0)]) := by rw [e3]; exact hu_s
  refine x_aload_n C dX8_works_5 0 rfl ?_
  refine x_get C (v := vI (m 0 0 14)) f4 (T := TX8) rfl kX8_works_1 14 (by decide) kX8_works_2 rfl dX8_works_6 ?_
  refine x_iret C G dX8_works_9 ?_ (by decide) (by decide)
  have cp5 : MP D am h (cu m 0 0 ((fu (m 0 0) 0 0))) h2 := by rw [e3]; exact (MP.up (MP.rf hR) (lm0 (by decide)) ((fu (m 0 0) 0 0)) rfl)
  exact ⟨rfl, cp5⟩


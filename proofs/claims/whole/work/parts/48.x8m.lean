def PWn : List (Nat × va_E) → Prop
  | [] => True
  | x :: xs => (∀ p ∈ xs, x.1 ≠ p.1) ∧ PWn xs
/-- cells made so far, the newest first -/
def Bl (h0 : vh) (o : Nat) (l : List (Nat × va_E)) (h : vh) : Prop := (∀ p ∈ l, h p.1 = some p.2 ∧ h0 p.1 = none ∧ p.1 ≠ o) ∧ PWn l ∧ ∀ (b : Nat) (e : va_E), b ≠ o → h0 b = some e → h b = some e
theorem Bl.z {h0 : vh} {o : Nat} : Bl h0 o [] h0 := ⟨fun p hp => (by cases hp), trivial, fun _ _ _ h => h⟩
theorem Bl.s {h0 h : vh} {o q : Nat} {l : List (Nat × va_E)} {E e e' : va_E} (hB : Bl h0 o l h) (fr : h q = none) (ho : h o = some e) : Bl h0 o ((q, E) :: l) (hu (hu h q E) o e') := by
  have hqo : q ≠ o := fun z => by rw [z, ho] at fr; cases fr
  have hql : ∀ p ∈ l, q ≠ p.1 := fun p hp z => by rw [z, (hB.1 p hp).1] at fr; cases fr
  refine ⟨fun p hp => ?_, ⟨hql, hB.2.1⟩, fun b e9 h1 h2 => ?_⟩
  · rcases List.mem_cons.mp hp with rfl | hp
    · refine ⟨by rw [hu_n hqo]; exact hu_s, ?_, hqo⟩
      cases hh : h0 q with
      | none => rfl
      | some e9 => have := hB.2.2 q e9 hqo hh; rw [fr] at this; cases this
    · have h3 := hB.1 p hp
      exact ⟨by rw [hu_n h3.2.2, hu_n (fun z => hql p hp z.symm)]; exact h3.1, h3.2.1, h3.2.2⟩
  · have h3 := hB.2.2 b e9 h1 h2
    rw [hu_n h1, hu_n (fun z => by rw [z, fr] at h3; cases h3)]
    exact h3
def adl (l : List (Nat × va_E)) (j : Nat) : Nat := (l.map Prod.fst).getD j 0
theorem adl_m : ∀ {l : List (Nat × va_E)} {j : Nat}, j < l.length → ∃ p ∈ l, adl l j = p.1
  | [], j, h => absurd h (Nat.not_lt_zero _)
  | x :: xs, 0, h => ⟨x, List.Mem.head _, rfl⟩
  | x :: xs, j + 1, h => by
    obtain ⟨p, h1, h2⟩ := adl_m (l := xs) (j := j) (Nat.lt_of_succ_lt_succ h)
    exact ⟨p, List.Mem.tail _ h1, h2⟩
theorem adl_ne : ∀ {l : List (Nat × va_E)}, PWn l → ∀ {i j : Nat}, i < j → j < l.length → adl l i ≠ adl l j
  | [], _, i, j, _, h => absurd h (Nat.not_lt_zero _)
  | x :: xs, hp, 0, 0, h1, _ => absurd h1 (Nat.lt_irrefl _)
  | x :: xs, hp, 0, j + 1, _, h => by
    obtain ⟨p, h1, h2⟩ := adl_m (l := xs) (j := j) (Nat.lt_of_succ_lt_succ h)
    have e : adl (x :: xs) (j + 1) = adl xs j := rfl
    rw [e, h2]
    exact hp.1 p h1
  | x :: xs, hp, i + 1, 0, h1, _ => absurd h1 (Nat.not_lt_zero _)
  | x :: xs, hp, i + 1, j + 1, h1, h => adl_ne (l := xs) hp.2 (Nat.lt_of_succ_lt_succ h1) (Nat.lt_of_succ_lt_succ h)
/-- the place of a field's row among the made ones, counted from the oldest -/
def posM (k : Nat) : Nat := if k ≤ 1 then k else if k < 14 then k - 1 else if k < 30 then k - 2 else k - 7
def amL (o : Nat) (l : List (Nat × va_E)) : AD := fun k _ => if k = 0 then o else adl l (30 - posM k)
theorem posM_e {k : Nat} (h : lm k 0) : (k ≤ 1 ∧ posM k = k) ∨ (3 ≤ k ∧ k < 14 ∧ posM k = k - 1) ∨ (15 ≤ k ∧ k < 30 ∧ posM k = k - 2) ∨ (35 ≤ k ∧ k < 38 ∧ posM k = k - 7) := by
  unfold lm at h
  by_cases h1 : k ≤ 1
  · exact Or.inl ⟨h1, if_pos h1⟩
  · by_cases h2 : k < 14
    · exact Or.inr (Or.inl ⟨by omega, h2, (if_neg h1).trans (if_pos h2)⟩)
    · by_cases h3 : k < 30
      · exact Or.inr (Or.inr (Or.inl ⟨by omega, h3, (if_neg h1).trans ((if_neg h2).trans (if_pos h3))⟩))
      · exact Or.inr (Or.inr (Or.inr ⟨by omega, by omega, (if_neg h1).trans ((if_neg h2).trans (if_neg h3))⟩))
theorem posM_r {k : Nat} (h : lm k 0) : (k = 0 ∧ posM k = 0) ∨ (1 ≤ posM k ∧ posM k ≤ 30) := by
  have := posM_e h; omega
theorem posM_i {k k' : Nat} (h : lm k 0) (h' : lm k' 0) (e : posM k = posM k') : k = k' := by
  have := posM_e h; have := posM_e h'; omega
theorem amL_i {h0 h : vh} {o : Nat} {l : List (Nat × va_E)} (hB : Bl h0 o l h) (hl : l.length = 30) {k i k' i' : Nat} (l1 : lm k i) (l2 : lm k' i') (e : amL o l k i = amL o l k' i') : k = k' ∧ i = i' := by
  obtain rfl : i = 0 := l1.2.1
  obtain rfl : i' = 0 := l2.2.1
  refine ⟨?_, rfl⟩
  have p1 := posM_r l1
  have p2 := posM_r l2
  have ho : ∀ {a : Nat}, a < 30 → adl l a ≠ o := fun ha => by
    obtain ⟨p, h1, h2⟩ := adl_m (l := l) (j := _) (by rw [hl]; exact ha)
    rw [h2]; exact (hB.1 p h1).2.2
  unfold amL at e
  by_cases q : k = 0
  · by_cases q' : k' = 0
    · omega
    · rw [if_pos q, if_neg q'] at e
      exact absurd e.symm (ho (by omega))
  · by_cases q' : k' = 0
    · rw [if_neg q, if_pos q'] at e
      exact absurd e (ho (by omega))
    · rw [if_neg q, if_neg q'] at e
      refine posM_i l1 l2 ?_
      rcases Nat.lt_trichotomy (30 - posM k) (30 - posM k') with z | z | z
      · exact absurd e (adl_ne hB.2.1 z (by omega))
      · omega
      · exact absurd e.symm (adl_ne hB.2.1 z (by omega))
def mI0 : CS := fun _ _ _ => 0
def S0n : Nat → Nat → Int
  | 0 => fun _ => 0
  | n + 1 => fu (S0n n) n ((n : Int) + 2)
def mI : CS := cu mI0 1 0 S0
theorem S0n_3 : S0n 3 = S0 := rfl

theorem kX8_init_0 : Cond.methodLink "LedgeLevelsModel" 1 Lib.objectInit ∈ wsX8_init := by decide +kernel
theorem kX8_init_1 : Cond.instanceMethod Lib.objectInit ∈ wsX8_init := by decide +kernel
theorem kX8_init_2 : Cond.code Lib.objectInit ⟨#[0xb1]⟩ 1 none ∈ wsX8_init := by decide +kernel
theorem kX8_init_3 : Cond.arrayClass (newarray.typeOf .int) ∈ wsX8_init := by decide +kernel
theorem kX8_init_4 : Cond.fieldLink "LedgeLevelsModel" 7 "LedgeLevelsModel" "strength" "[I" ∈ wsX8_init := by decide +kernel
theorem kX8_init_5 : ∀ w ∈ wsX80, w ∈ wsX8_init := by decide +kernel
theorem kX8_init_6 : Cond.fieldLink "LedgeLevelsModel" 13 "LedgeLevelsModel" "maker" "[I" ∈ wsX8_init := by decide +kernel
theorem kX8_init_7 : Cond.fieldLink "LedgeLevelsModel" 16 "LedgeLevelsModel" "grid" "[I" ∈ wsX8_init := by decide +kernel
theorem kX8_init_8 : Cond.fieldLink "LedgeLevelsModel" 19 "LedgeLevelsModel" "begins" "[I" ∈ wsX8_init := by decide +kernel
theorem kX8_init_9 : Cond.fieldLink "LedgeLevelsModel" 22 "LedgeLevelsModel" "proofs" "[I" ∈ wsX8_init := by decide +kernel
theorem kX8_init_10 : Cond.fieldLink "LedgeLevelsModel" 25 "LedgeLevelsModel" "origin" "[I" ∈ wsX8_init := by decide +kernel
theorem kX8_init_11 : Cond.fieldLink "LedgeLevelsModel" 28 "LedgeLevelsModel" "undos" "[I" ∈ wsX8_init := by decide +kernel
theorem kX8_init_12 : Cond.fieldLink "LedgeLevelsModel" 31 "LedgeLevelsModel" "undoCell" "[I" ∈ wsX8_init := by decide +kernel
theorem kX8_init_13 : Cond.fieldLink "LedgeLevelsModel" 34 "LedgeLevelsModel" "undoKind" "[I" ∈ wsX8_init := by decide +kernel
theorem kX8_init_14 : Cond.fieldLink "LedgeLevelsModel" 37 "LedgeLevelsModel" "redos" "[I" ∈ wsX8_init := by decide +kernel
theorem kX8_init_15 : Cond.fieldLink "LedgeLevelsModel" 40 "LedgeLevelsModel" "redoCell" "[I" ∈ wsX8_init := by decide +kernel
theorem kX8_init_16 : Cond.fieldLink "LedgeLevelsModel" 43 "LedgeLevelsModel" "redoKind" "[I" ∈ wsX8_init := by decide +kernel
theorem kX8_init_17 : Cond.fieldLink "LedgeLevelsModel" 46 "LedgeLevelsModel" "author" "[I" ∈ wsX8_init := by decide +kernel
theorem kX8_init_18 : Cond.fieldLink "LedgeLevelsModel" 49 "LedgeLevelsModel" "shape" "[I" ∈ wsX8_init := by decide +kernel
theorem kX8_init_19 : Cond.fieldLink "LedgeLevelsModel" 52 "LedgeLevelsModel" "from" "[I" ∈ wsX8_init := by decide +kernel
theorem kX8_init_20 : Cond.fieldLink "LedgeLevelsModel" 55 "LedgeLevelsModel" "best" "[I" ∈ wsX8_init := by decide +kernel
theorem kX8_init_21 : Cond.fieldLink "LedgeLevelsModel" 58 "LedgeLevelsModel" "parent" "[I" ∈ wsX8_init := by decide +kernel
theorem kX8_init_22 : Cond.fieldLink "LedgeLevelsModel" 61 "LedgeLevelsModel" "record" "[I" ∈ wsX8_init := by decide +kernel
theorem kX8_init_23 : Cond.fieldLink "LedgeLevelsModel" 64 "LedgeLevelsModel" "stars" "[I" ∈ wsX8_init := by decide +kernel
theorem kX8_init_24 : Cond.fieldLink "LedgeLevelsModel" 67 "LedgeLevelsModel" "runState" "[I" ∈ wsX8_init := by decide +kernel
theorem kX8_init_25 : Cond.fieldLink "LedgeLevelsModel" 70 "LedgeLevelsModel" "runWork" "[I" ∈ wsX8_init := by decide +kernel
theorem kX8_init_26 : Cond.fieldLink "LedgeLevelsModel" 73 "LedgeLevelsModel" "runCell" "[I" ∈ wsX8_init := by decide +kernel
theorem kX8_init_27 : Cond.fieldLink "LedgeLevelsModel" 76 "LedgeLevelsModel" "runSpeed" "[I" ∈ wsX8_init := by decide +kernel
theorem kX8_init_28 : Cond.fieldLink "LedgeLevelsModel" 79 "LedgeLevelsModel" "runTaken" "[I" ∈ wsX8_init := by decide +kernel
theorem kX8_init_29 : Cond.fieldLink "LedgeLevelsModel" 82 "LedgeLevelsModel" "runSteps" "[I" ∈ wsX8_init := by decide +kernel
theorem kX8_init_30 : Cond.fieldLink "LedgeLevelsModel" 85 "LedgeLevelsModel" "ground" "[I" ∈ wsX8_init := by decide +kernel
theorem kX8_init_31 : Cond.fieldLink "LedgeLevelsModel" 88 "LedgeLevelsModel" "keyBit" "[I" ∈ wsX8_init := by decide +kernel
theorem kX8_init_32 : Cond.fieldLink "LedgeLevelsModel" 91 "LedgeLevelsModel" "queue" "[I" ∈ wsX8_init := by decide +kernel
theorem kX8_init_33 : Cond.fieldLink "LedgeLevelsModel" 94 "LedgeLevelsModel" "far" "[I" ∈ wsX8_init := by decide +kernel
theorem kX8_init_34 : Cond.arrayClass (newarray.typeOf .boolean) ∈ wsX8_init := by decide +kernel
theorem kX8_init_35 : Cond.fieldLink "LedgeLevelsModel" 97 "LedgeLevelsModel" "reached" "[Z" ∈ wsX8_init := by decide +kernel
set_option maxRecDepth 100000 in
set_option maxHeartbeats 4000000 in
theorem c_X8_init {l : Launch} {D : va_G} {A : Nat → Prop} {h : vh} {o : Nat} (ho : h o = some (eO 8 [vI 0, .null, vI 0, .null, .null, .null, .null, .null, .null, .null, .null, .null, .null, .null, vI 0, .null, .null, .null, .null, .null, .null, .null, .null, .null, .null, .null, .null, .null, .null, .null, vI ((0 : Nat) : Int), vI 0, vI 0, vI ((0 : Nat) : Int), vI 0, .null, .null, .null]))  : MX l D A yX8_init wsX8_init { frames := 1, cells := 30, slots := 17899, locals := 20 } [.ref o] h (fun rv h' => rv = none ∧ ∃ am : AD, am 0 0 = o ∧ RepM D am mI h' ∧ (∀ k i, lm k i → k ≠ 0 → h (am k i) = none) ∧ ∀ (b9 : Nat) (e9 : va_E), b9 ≠ o → h b9 = some e9 → h' b9 = some e9) := by
  refine MX.of (cc := cX8_init) (maxL := 2) (ret := none) [(0, .ref o)] (by decide +kernel) rfl rfl (Nat.le_of_ble_eq_true rfl) ?_
  intro κ C hkl G
  subst hkl
  have C : CX κ "LedgeLevelsModel" "<init>" cX8_init wsX8_init { frames := 1, cells := 30, slots := 17899, locals := 20 } D A 2 := C
  have hiz : nq (D.1 20) (D.1 21) := cx_iz C
  refine x_aload_n C dX8_init_0 0 rfl ?_
  refine x_objInit C kX8_init_0 kX8_init_1 kX8_init_2 (by decide) (by decide) dX8_init_1 ?_
  refine x_aload_n C dX8_init_4 0 rfl ?_
  refine x_iconst C dX8_init_5 3 (by decide) ?_
  refine x_newI C (N := 3) kX8_init_3 (by decide) (by decide) (by decide) (by decide) dX8_init_6 (fun q1 nq4 => x_hn (fun h2 e3 => ?_))
  have f5 : h2 o = some (eO 8 [vI 0, .null, vI 0, .null, .null, .null, .null, .null, .null, .null, .null, .null, .null, .null, vI 0, .null, .null, .null, .null, .null, .null, .null, .null, .null, .null, .null, .null, .null, .null, .null, vI ((0 : Nat) : Int), vI 0, vI 0, vI ((0 : Nat) : Int), vI 0, .null, .null, .null]) := by rw [e3, hu_n (vnn ho nq4)]; exact ho
  refine x_putF C f5 (T := TX8) rfl tyX8_ok nmX8 kX8_init_5 1 (by decide) kX8_init_4 rfl rfl rfl (fs' := [vI 0, .ref q1, vI 0, .null, .null, .null, .null, .null, .null, .null, .null, .null, .null, .null, vI 0, .null, .null, .null, .null, .null, .null, .null, .null, .null, .null, .null, .null, .null, .null, .null, vI ((0 : Nat) : Int), vI 0, vI 0, vI ((0 : Nat) : Int), vI 0, .null, .null, .null]) rfl rfl (by simp) rfl dX8_init_8 (x_hn (fun h6 e7 => ?_))
  have f8 : h6 o = some (eO 8 [vI 0, .ref q1, vI 0, .null, .null, .null, .null, .null, .null, .null, .null, .null, .null, .null, vI 0, .null, .null, .null, .null, .null, .null, .null, .null, .null, .null, .null, .null, .null, .null, .null, vI ((0 : Nat) : Int), vI 0, vI 0, vI ((0 : Nat) : Int), vI 0, .null, .null, .null]) := by rw [e7]; exact hu_s
  have bl9 : Bl h o ((q1, eI D 3 (fun _ => 0)) :: []) h6 := by rw [e7, e3]; exact Bl.s Bl.z nq4 ho
  refine x_aload_n C dX8_init_11 0 rfl ?_
  refine x_bipush C dX8_init_12 12 (by decide) ?_
  refine x_newI C (N := 12) kX8_init_3 (by decide) (by decide) (by decide) (by decide) dX8_init_14 (fun q10 nq13 => x_hn (fun h11 e12 => ?_))
  have f14 : h11 o = some (eO 8 [vI 0, .ref q1, vI 0, .null, .null, .null, .null, .null, .null, .null, .null, .null, .null, .null, vI 0, .null, .null, .null, .null, .null, .null, .null, .null, .null, .null, .null, .null, .null, .null, .null, vI ((0 : Nat) : Int), vI 0, vI 0, vI ((0 : Nat) : Int), vI 0, .null, .null, .null]) := by rw [e12, hu_n (vnn f8 nq13)]; exact f8
  refine x_putF C f14 (T := TX8) rfl tyX8_ok nmX8 kX8_init_5 3 (by decide) kX8_init_6 rfl rfl rfl (fs' := [vI 0, .ref q1, vI 0, .ref q10, .null, .null, .null, .null, .null, .null, .null, .null, .null, .null, vI 0, .null, .null, .null, .null, .null, .null, .null, .null, .null, .null, .null, .null, .null, .null, .null, vI ((0 : Nat) : Int), vI 0, vI 0, vI ((0 : Nat) : Int), vI 0, .null, .null, .null]) rfl rfl (by simp) rfl dX8_init_16 (x_hn (fun h15 e16 => ?_))
  have f17 : h15 o = some (eO 8 [vI 0, .ref q1, vI 0, .ref q10, .null, .null, .null, .null, .null, .null, .null, .null, .null, .null, vI 0, .null, .null, .null, .null, .null, .null, .null, .null, .null, .null, .null, .null, .null, .null, .null, vI ((0 : Nat) : Int), vI 0, vI 0, vI ((0 : Nat) : Int), vI 0, .null, .null, .null]) := by rw [e16]; exact hu_s
  have bl18 : Bl h o ((q10, eI D 12 (fun _ => 0)) :: (q1, eI D 3 (fun _ => 0)) :: []) h15 := by rw [e16, e12]; exact Bl.s bl9 nq13 f8
  refine x_aload_n C dX8_init_19 0 rfl ?_
  refine x_sipush C dX8_init_20 1152 (by decide) ?_
  refine x_newI C (N := 1152) kX8_init_3 (by decide) (by decide) (by decide) (by decide) dX8_init_23 (fun q19 nq22 => x_hn (fun h20 e21 => ?_))
  have f23 : h20 o = some (eO 8 [vI 0, .ref q1, vI 0, .ref q10, .null, .null, .null, .null, .null, .null, .null, .null, .null, .null, vI 0, .null, .null, .null, .null, .null, .null, .null, .null, .null, .null, .null, .null, .null, .null, .null, vI ((0 : Nat) : Int), vI 0, vI 0, vI ((0 : Nat) : Int), vI 0, .null, .null, .null]) := by rw [e21, hu_n (vnn f17 nq22)]; exact f17
  refine x_putF C f23 (T := TX8) rfl tyX8_ok nmX8 kX8_init_5 4 (by decide) kX8_init_7 rfl rfl rfl (fs' := [vI 0, .ref q1, vI 0, .ref q10, .ref q19, .null, .null, .null, .null, .null, .null, .null, .null, .null, vI 0, .null, .null, .null, .null, .null, .null, .null, .null, .null, .null, .null, .null, .null, .null, .null, vI ((0 : Nat) : Int), vI 0, vI 0, vI ((0 : Nat) : Int), vI 0, .null, .null, .null]) rfl rfl (by simp) rfl dX8_init_25 (x_hn (fun h24 e25 => ?_))
  have f26 : h24 o = some (eO 8 [vI 0, .ref q1, vI 0, .ref q10, .ref q19, .null, .null, .null, .null, .null, .null, .null, .null, .null, vI 0, .null, .null, .null, .null, .null, .null, .null, .null, .null, .null, .null, .null, .null, .null, .null, vI ((0 : Nat) : Int), vI 0, vI 0, vI ((0 : Nat) : Int), vI 0, .null, .null, .null]) := by rw [e25]; exact hu_s
  have bl27 : Bl h o ((q19, eI D 1152 (fun _ => 0)) :: (q10, eI D 12 (fun _ => 0)) :: (q1, eI D 3 (fun _ => 0)) :: []) h24 := by rw [e25, e21]; exact Bl.s bl18 nq22 f17
  refine x_aload_n C dX8_init_28 0 rfl ?_
  refine x_bipush C dX8_init_29 12 (by decide) ?_
  refine x_newI C (N := 12) kX8_init_3 (by decide) (by decide) (by decide) (by decide) dX8_init_31 (fun q28 nq31 => x_hn (fun h29 e30 => ?_))
  have f32 : h29 o = some (eO 8 [vI 0, .ref q1, vI 0, .ref q10, .ref q19, .null, .null, .null, .null, .null, .null, .null, .null, .null, vI 0, .null, .null, .null, .null, .null, .null, .null, .null, .null, .null, .null, .null, .null, .null, .null, vI ((0 : Nat) : Int), vI 0, vI 0, vI ((0 : Nat) : Int), vI 0, .null, .null, .null]) := by rw [e30, hu_n (vnn f26 nq31)]; exact f26
  refine x_putF C f32 (T := TX8) rfl tyX8_ok nmX8 kX8_init_5 5 (by decide) kX8_init_8 rfl rfl rfl (fs' := [vI 0, .ref q1, vI 0, .ref q10, .ref q19, .ref q28, .null, .null, .null, .null, .null, .null, .null, .null, vI 0, .null, .null, .null, .null, .null, .null, .null, .null, .null, .null, .null, .null, .null, .null, .null, vI ((0 : Nat) : Int), vI 0, vI 0, vI ((0 : Nat) : Int), vI 0, .null, .null, .null]) rfl rfl (by simp) rfl dX8_init_33 (x_hn (fun h33 e34 => ?_))
  have f35 : h33 o = some (eO 8 [vI 0, .ref q1, vI 0, .ref q10, .ref q19, .ref q28, .null, .null, .null, .null, .null, .null, .null, .null, vI 0, .null, .null, .null, .null, .null, .null, .null, .null, .null, .null, .null, .null, .null, .null, .null, vI ((0 : Nat) : Int), vI 0, vI 0, vI ((0 : Nat) : Int), vI 0, .null, .null, .null]) := by rw [e34]; exact hu_s
  have bl36 : Bl h o ((q28, eI D 12 (fun _ => 0)) :: (q19, eI D 1152 (fun _ => 0)) :: (q10, eI D 12 (fun _ => 0)) :: (q1, eI D 3 (fun _ => 0)) :: []) h33 := by rw [e34, e30]; exact Bl.s bl27 nq31 f26
  refine x_aload_n C dX8_init_36 0 rfl ?_
  refine x_bipush C dX8_init_37 12 (by decide) ?_
  refine x_newI C (N := 12) kX8_init_3 (by decide) (by decide) (by decide) (by decide) dX8_init_39 (fun q37 nq40 => x_hn (fun h38 e39 => ?_))
  have f41 : h38 o = some (eO 8 [vI 0, .ref q1, vI 0, .ref q10, .ref q19, .ref q28, .null, .null, .null, .null, .null, .null, .null, .null, vI 0, .null, .null, .null, .null, .null, .null, .null, .null, .null, .null, .null, .null, .null, .null, .null, vI ((0 : Nat) : Int), vI 0, vI 0, vI ((0 : Nat) : Int), vI 0, .null, .null, .null]) := by rw [e39, hu_n (vnn f35 nq40)]; exact f35
  refine x_putF C f41 (T := TX8) rfl tyX8_ok nmX8 kX8_init_5 6 (by decide) kX8_init_9 rfl rfl rfl (fs' := [vI 0, .ref q1, vI 0, .ref q10, .ref q19, .ref q28, .ref q37, .null, .null, .null, .null, .null, .null, .null, vI 0, .null, .null, .null, .null, .null, .null, .null, .null, .null, .null, .null, .null, .null, .null, .null, vI ((0 : Nat) : Int), vI 0, vI 0, vI ((0 : Nat) : Int), vI 0, .null, .null, .null]) rfl rfl (by simp) rfl dX8_init_41 (x_hn (fun h42 e43 => ?_))
  have f44 : h42 o = some (eO 8 [vI 0, .ref q1, vI 0, .ref q10, .ref q19, .ref q28, .ref q37, .null, .null, .null, .null, .null, .null, .null, vI 0, .null, .null, .null, .null, .null, .null, .null, .null, .null, .null, .null, .null, .null, .null, .null, vI ((0 : Nat) : Int), vI 0, vI 0, vI ((0 : Nat) : Int), vI 0, .null, .null, .null]) := by rw [e43]; exact hu_s
  have bl45 : Bl h o ((q37, eI D 12 (fun _ => 0)) :: (q28, eI D 12 (fun _ => 0)) :: (q19, eI D 1152 (fun _ => 0)) :: (q10, eI D 12 (fun _ => 0)) :: (q1, eI D 3 (fun _ => 0)) :: []) h42 := by rw [e43, e39]; exact Bl.s bl36 nq40 f35
  refine x_aload_n C dX8_init_44 0 rfl ?_
  refine x_bipush C dX8_init_45 12 (by decide) ?_
  refine x_newI C (N := 12) kX8_init_3 (by decide) (by decide) (by decide) (by decide) dX8_init_47 (fun q46 nq49 => x_hn (fun h47 e48 => ?_))
  have f50 : h47 o = some (eO 8 [vI 0, .ref q1, vI 0, .ref q10, .ref q19, .ref q28, .ref q37, .null, .null, .null, .null, .null, .null, .null, vI 0, .null, .null, .null, .null, .null, .null, .null, .null, .null, .null, .null, .null, .null, .null, .null, vI ((0 : Nat) : Int), vI 0, vI 0, vI ((0 : Nat) : Int), vI 0, .null, .null, .null]) := by rw [e48, hu_n (vnn f44 nq49)]; exact f44
  refine x_putF C f50 (T := TX8) rfl tyX8_ok nmX8 kX8_init_5 7 (by decide) kX8_init_10 rfl rfl rfl (fs' := [vI 0, .ref q1, vI 0, .ref q10, .ref q19, .ref q28, .ref q37, .ref q46, .null, .null, .null, .null, .null, .null, vI 0, .null, .null, .null, .null, .null, .null, .null, .null, .null, .null, .null, .null, .null, .null, .null, vI ((0 : Nat) : Int), vI 0, vI 0, vI ((0 : Nat) : Int), vI 0, .null, .null, .null]) rfl rfl (by simp) rfl dX8_init_49 (x_hn (fun h51 e52 => ?_))
  have f53 : h51 o = some (eO 8 [vI 0, .ref q1, vI 0, .ref q10, .ref q19, .ref q28, .ref q37, .ref q46, .null, .null, .null, .null, .null, .null, vI 0, .null, .null, .null, .null, .null, .null, .null, .null, .null, .null, .null, .null, .null, .null, .null, vI ((0 : Nat) : Int), vI 0, vI 0, vI ((0 : Nat) : Int), vI 0, .null, .null, .null]) := by rw [e52]; exact hu_s
  have bl54 : Bl h o ((q46, eI D 12 (fun _ => 0)) :: (q37, eI D 12 (fun _ => 0)) :: (q28, eI D 12 (fun _ => 0)) :: (q19, eI D 1152 (fun _ => 0)) :: (q10, eI D 12 (fun _ => 0)) :: (q1, eI D 3 (fun _ => 0)) :: []) h51 := by rw [e52, e48]; exact Bl.s bl45 nq49 f44
  refine x_aload_n C dX8_init_52 0 rfl ?_
  refine x_bipush C dX8_init_53 12 (by decide) ?_
  refine x_newI C (N := 12) kX8_init_3 (by decide) (by decide) (by decide) (by decide) dX8_init_55 (fun q55 nq58 => x_hn (fun h56 e57 => ?_))
  have f59 : h56 o = some (eO 8 [vI 0, .ref q1, vI 0, .ref q10, .ref q19, .ref q28, .ref q37, .ref q46, .null, .null, .null, .null, .null, .null, vI 0, .null, .null, .null, .null, .null, .null, .null, .null, .null, .null, .null, .null, .null, .null, .null, vI ((0 : Nat) : Int), vI 0, vI 0, vI ((0 : Nat) : Int), vI 0, .null, .null, .null]) := by rw [e57, hu_n (vnn f53 nq58)]; exact f53
  refine x_putF C f59 (T := TX8) rfl tyX8_ok nmX8 kX8_init_5 8 (by decide) kX8_init_11 rfl rfl rfl (fs' := [vI 0, .ref q1, vI 0, .ref q10, .ref q19, .ref q28, .ref q37, .ref q46, .ref q55, .null, .null, .null, .null, .null, vI 0, .null, .null, .null, .null, .null, .null, .null, .null, .null, .null, .null, .null, .null, .null, .null, vI ((0 : Nat) : Int), vI 0, vI 0, vI ((0 : Nat) : Int), vI 0, .null, .null, .null]) rfl rfl (by simp) rfl dX8_init_57 (x_hn (fun h60 e61 => ?_))
  have f62 : h60 o = some (eO 8 [vI 0, .ref q1, vI 0, .ref q10, .ref q19, .ref q28, .ref q37, .ref q46, .ref q55, .null, .null, .null, .null, .null, vI 0, .null, .null, .null, .null, .null, .null, .null, .null, .null, .null, .null, .null, .null, .null, .null, vI ((0 : Nat) : Int), vI 0, vI 0, vI ((0 : Nat) : Int), vI 0, .null, .null, .null]) := by rw [e61]; exact hu_s
  have bl63 : Bl h o ((q55, eI D 12 (fun _ => 0)) :: (q46, eI D 12 (fun _ => 0)) :: (q37, eI D 12 (fun _ => 0)) :: (q28, eI D 12 (fun _ => 0)) :: (q19, eI D 1152 (fun _ => 0)) :: (q10, eI D 12 (fun _ => 0)) :: (q1, eI D 3 (fun _ => 0)) :: []) h60 := by rw [e61, e57]; exact Bl.s bl54 nq58 f53
  refine x_aload_n C dX8_init_60 0 rfl ?_
  refine x_sipush C dX8_init_61 480 (by decide) ?_
  refine x_newI C (N := 480) kX8_init_3 (by decide) (by decide) (by decide) (by decide) dX8_init_64 (fun q64 nq67 => x_hn (fun h65 e66 => ?_))
  have f68 : h65 o = some (eO 8 [vI 0, .ref q1, vI 0, .ref q10, .ref q19, .ref q28, .ref q37, .ref q46, .ref q55, .null, .null, .null, .null, .null, vI 0, .null, .null, .null, .null, .null, .null, .null, .null, .null, .null, .null, .null, .null, .null, .null, vI ((0 : Nat) : Int), vI 0, vI 0, vI ((0 : Nat) : Int), vI 0, .null, .null, .null]) := by rw [e66, hu_n (vnn f62 nq67)]; exact f62
  refine x_putF C f68 (T := TX8) rfl tyX8_ok nmX8 kX8_init_5 9 (by decide) kX8_init_12 rfl rfl rfl (fs' := [vI 0, .ref q1, vI 0, .ref q10, .ref q19, .ref q28, .ref q37, .ref q46, .ref q55, .ref q64, .null, .null, .null, .null, vI 0, .null, .null, .null, .null, .null, .null, .null, .null, .null, .null, .null, .null, .null, .null, .null, vI ((0 : Nat) : Int), vI 0, vI 0, vI ((0 : Nat) : Int), vI 0, .null, .null, .null]) rfl rfl (by simp) rfl dX8_init_66 (x_hn (fun h69 e70 => ?_))
  have f71 : h69 o = some (eO 8 [vI 0, .ref q1, vI 0, .ref q10, .ref q19, .ref q28, .ref q37, .ref q46, .ref q55, .ref q64, .null, .null, .null, .null, vI 0, .null, .null, .null, .null, .null, .null, .null, .null, .null, .null, .null, .null, .null, .null, .null, vI ((0 : Nat) : Int), vI 0, vI 0, vI ((0 : Nat) : Int), vI 0, .null, .null, .null]) := by rw [e70]; exact hu_s
  have bl72 : Bl h o ((q64, eI D 480 (fun _ => 0)) :: (q55, eI D 12 (fun _ => 0)) :: (q46, eI D 12 (fun _ => 0)) :: (q37, eI D 12 (fun _ => 0)) :: (q28, eI D 12 (fun _ => 0)) :: (q19, eI D 1152 (fun _ => 0)) :: (q10, eI D 12 (fun _ => 0)) :: (q1, eI D 3 (fun _ => 0)) :: []) h69 := by rw [e70, e66]; exact Bl.s bl63 nq67 f62
  refine x_aload_n C dX8_init_69 0 rfl ?_
  refine x_sipush C dX8_init_70 480 (by decide) ?_
  refine x_newI C (N := 480) kX8_init_3 (by decide) (by decide) (by decide) (by decide) dX8_init_73 (fun q73 nq76 => x_hn (fun h74 e75 => ?_))
  have f77 : h74 o = some (eO 8 [vI 0, .ref q1, vI 0, .ref q10, .ref q19, .ref q28, .ref q37, .ref q46, .ref q55, .ref q64, .null, .null, .null, .null, vI 0, .null, .null, .null, .null, .null, .null, .null, .null, .null, .null, .null, .null, .null, .null, .null, vI ((0 : Nat) : Int), vI 0, vI 0, vI ((0 : Nat) : Int), vI 0, .null, .null, .null]) := by rw [e75, hu_n (vnn f71 nq76)]; exact f71
  refine x_putF C f77 (T := TX8) rfl tyX8_ok nmX8 kX8_init_5 10 (by decide) kX8_init_13 rfl rfl rfl (fs' := [vI 0, .ref q1, vI 0, .ref q10, .ref q19, .ref q28, .ref q37, .ref q46, .ref q55, .ref q64, .ref q73, .null, .null, .null, vI 0, .null, .null, .null, .null, .null, .null, .null, .null, .null, .null, .null, .null, .null, .null, .null, vI ((0 : Nat) : Int), vI 0, vI 0, vI ((0 : Nat) : Int), vI 0, .null, .null, .null]) rfl rfl (by simp) rfl dX8_init_75 (x_hn (fun h78 e79 => ?_))
  have f80 : h78 o = some (eO 8 [vI 0, .ref q1, vI 0, .ref q10, .ref q19, .ref q28, .ref q37, .ref q46, .ref q55, .ref q64, .ref q73, .null, .null, .null, vI 0, .null, .null, .null, .null, .null, .null, .null, .null, .null, .null, .null, .null, .null, .null, .null, vI ((0 : Nat) : Int), vI 0, vI 0, vI ((0 : Nat) : Int), vI 0, .null, .null, .null]) := by rw [e79]; exact hu_s
  have bl81 : Bl h o ((q73, eI D 480 (fun _ => 0)) :: (q64, eI D 480 (fun _ => 0)) :: (q55, eI D 12 (fun _ => 0)) :: (q46, eI D 12 (fun _ => 0)) :: (q37, eI D 12 (fun _ => 0)) :: (q28, eI D 12 (fun _ => 0)) :: (q19, eI D 1152 (fun _ => 0)) :: (q10, eI D 12 (fun _ => 0)) :: (q1, eI D 3 (fun _ => 0)) :: []) h78 := by rw [e79, e75]; exact Bl.s bl72 nq76 f71
  refine x_aload_n C dX8_init_78 0 rfl ?_
  refine x_bipush C dX8_init_79 12 (by decide) ?_
  refine x_newI C (N := 12) kX8_init_3 (by decide) (by decide) (by decide) (by decide) dX8_init_81 (fun q82 nq85 => x_hn (fun h83 e84 => ?_))
  have f86 : h83 o = some (eO 8 [vI 0, .ref q1, vI 0, .ref q10, .ref q19, .ref q28, .ref q37, .ref q46, .ref q55, .ref q64, .ref q73, .null, .null, .null, vI 0, .null, .null, .null, .null, .null, .null, .null, .null, .null, .null, .null, .null, .null, .null, .null, vI ((0 : Nat) : Int), vI 0, vI 0, vI ((0 : Nat) : Int), vI 0, .null, .null, .null]) := by rw [e84, hu_n (vnn f80 nq85)]; exact f80
  refine x_putF C f86 (T := TX8) rfl tyX8_ok nmX8 kX8_init_5 11 (by decide) kX8_init_14 rfl rfl rfl (fs' := [vI 0, .ref q1, vI 0, .ref q10, .ref q19, .ref q28, .ref q37, .ref q46, .ref q55, .ref q64, .ref q73, .ref q82, .null, .null, vI 0, .null, .null, .null, .null, .null, .null, .null, .null, .null, .null, .null, .null, .null, .null, .null, vI ((0 : Nat) : Int), vI 0, vI 0, vI ((0 : Nat) : Int), vI 0, .null, .null, .null]) rfl rfl (by simp) rfl dX8_init_83 (x_hn (fun h87 e88 => ?_))
  have f89 : h87 o = some (eO 8 [vI 0, .ref q1, vI 0, .ref q10, .ref q19, .ref q28, .ref q37, .ref q46, .ref q55, .ref q64, .ref q73, .ref q82, .null, .null, vI 0, .null, .null, .null, .null, .null, .null, .null, .null, .null, .null, .null, .null, .null, .null, .null, vI ((0 : Nat) : Int), vI 0, vI 0, vI ((0 : Nat) : Int), vI 0, .null, .null, .null]) := by rw [e88]; exact hu_s
  have bl90 : Bl h o ((q82, eI D 12 (fun _ => 0)) :: (q73, eI D 480 (fun _ => 0)) :: (q64, eI D 480 (fun _ => 0)) :: (q55, eI D 12 (fun _ => 0)) :: (q46, eI D 12 (fun _ => 0)) :: (q37, eI D 12 (fun _ => 0)) :: (q28, eI D 12 (fun _ => 0)) :: (q19, eI D 1152 (fun _ => 0)) :: (q10, eI D 12 (fun _ => 0)) :: (q1, eI D 3 (fun _ => 0)) :: []) h87 := by rw [e88, e84]; exact Bl.s bl81 nq85 f80
  refine x_aload_n C dX8_init_86 0 rfl ?_
  refine x_sipush C dX8_init_87 480 (by decide) ?_
  refine x_newI C (N := 480) kX8_init_3 (by decide) (by decide) (by decide) (by decide) dX8_init_90 (fun q91 nq94 => x_hn (fun h92 e93 => ?_))
  have f95 : h92 o = some (eO 8 [vI 0, .ref q1, vI 0, .ref q10, .ref q19, .ref q28, .ref q37, .ref q46, .ref q55, .ref q64, .ref q73, .ref q82, .null, .null, vI 0, .null, .null, .null, .null, .null, .null, .null, .null, .null, .null, .null, .null, .null, .null, .null, vI ((0 : Nat) : Int), vI 0, vI 0, vI ((0 : Nat) : Int), vI 0, .null, .null, .null]) := by rw [e93, hu_n (vnn f89 nq94)]; exact f89
  refine x_putF C f95 (T := TX8) rfl tyX8_ok nmX8 kX8_init_5 12 (by decide) kX8_init_15 rfl rfl rfl (fs' := [vI 0, .ref q1, vI 0, .ref q10, .ref q19, .ref q28, .ref q37, .ref q46, .ref q55, .ref q64, .ref q73, .ref q82, .ref q91, .null, vI 0, .null, .null, .null, .null, .null, .null, .null, .null, .null, .null, .null, .null, .null, .null, .null, vI ((0 : Nat) : Int), vI 0, vI 0, vI ((0 : Nat) : Int), vI 0, .null, .null, .null]) rfl rfl (by simp) rfl dX8_init_92 (x_hn (fun h96 e97 => ?_))
  have f98 : h96 o = some (eO 8 [vI 0, .ref q1, vI 0, .ref q10, .ref q19, .ref q28, .ref q37, .ref q46, .ref q55, .ref q64, .ref q73, .ref q82, .ref q91, .null, vI 0, .null, .null, .null, .null, .null, .null, .null, .null, .null, .null, .null, .null, .null, .null, .null, vI ((0 : Nat) : Int), vI 0, vI 0, vI ((0 : Nat) : Int), vI 0, .null, .null, .null]) := by rw [e97]; exact hu_s
  have bl99 : Bl h o ((q91, eI D 480 (fun _ => 0)) :: (q82, eI D 12 (fun _ => 0)) :: (q73, eI D 480 (fun _ => 0)) :: (q64, eI D 480 (fun _ => 0)) :: (q55, eI D 12 (fun _ => 0)) :: (q46, eI D 12 (fun _ => 0)) :: (q37, eI D 12 (fun _ => 0)) :: (q28, eI D 12 (fun _ => 0)) :: (q19, eI D 1152 (fun _ => 0)) :: (q10, eI D 12 (fun _ => 0)) :: (q1, eI D 3 (fun _ => 0)) :: []) h96 := by rw [e97, e93]; exact Bl.s bl90 nq94 f89
  refine x_aload_n C dX8_init_95 0 rfl ?_
  refine x_sipush C dX8_init_96 480 (by decide) ?_
  refine x_newI C (N := 480) kX8_init_3 (by decide) (by decide) (by decide) (by decide) dX8_init_99 (fun q100 nq103 => x_hn (fun h101 e102 => ?_))
  have f104 : h101 o = some (eO 8 [vI 0, .ref q1, vI 0, .ref q10, .ref q19, .ref q28, .ref q37, .ref q46, .ref q55, .ref q64, .ref q73, .ref q82, .ref q91, .null, vI 0, .null, .null, .null, .null, .null, .null, .null, .null, .null, .null, .null, .null, .null, .null, .null, vI ((0 : Nat) : Int), vI 0, vI 0, vI ((0 : Nat) : Int), vI 0, .null, .null, .null]) := by rw [e102, hu_n (vnn f98 nq103)]; exact f98
  refine x_putF C f104 (T := TX8) rfl tyX8_ok nmX8 kX8_init_5 13 (by decide) kX8_init_16 rfl rfl rfl (fs' := [vI 0, .ref q1, vI 0, .ref q10, .ref q19, .ref q28, .ref q37, .ref q46, .ref q55, .ref q64, .ref q73, .ref q82, .ref q91, .ref q100, vI 0, .null, .null, .null, .null, .null, .null, .null, .null, .null, .null, .null, .null, .null, .null, .null, vI ((0 : Nat) : Int), vI 0, vI 0, vI ((0 : Nat) : Int), vI 0, .null, .null, .null]) rfl rfl (by simp) rfl dX8_init_101 (x_hn (fun h105 e106 => ?_))
  have f107 : h105 o = some (eO 8 [vI 0, .ref q1, vI 0, .ref q10, .ref q19, .ref q28, .ref q37, .ref q46, .ref q55, .ref q64, .ref q73, .ref q82, .ref q91, .ref q100, vI 0, .null, .null, .null, .null, .null, .null, .null, .null, .null, .null, .null, .null, .null, .null, .null, vI ((0 : Nat) : Int), vI 0, vI 0, vI ((0 : Nat) : Int), vI 0, .null, .null, .null]) := by rw [e106]; exact hu_s
  have bl108 : Bl h o ((q100, eI D 480 (fun _ => 0)) :: (q91, eI D 480 (fun _ => 0)) :: (q82, eI D 12 (fun _ => 0)) :: (q73, eI D 480 (fun _ => 0)) :: (q64, eI D 480 (fun _ => 0)) :: (q55, eI D 12 (fun _ => 0)) :: (q46, eI D 12 (fun _ => 0)) :: (q37, eI D 12 (fun _ => 0)) :: (q28, eI D 12 (fun _ => 0)) :: (q19, eI D 1152 (fun _ => 0)) :: (q10, eI D 12 (fun _ => 0)) :: (q1, eI D 3 (fun _ => 0)) :: []) h105 := by rw [e106, e102]; exact Bl.s bl99 nq103 f98
  refine x_aload_n C dX8_init_104 0 rfl ?_
  refine x_bipush C dX8_init_105 20 (by decide) ?_
  refine x_newI C (N := 20) kX8_init_3 (by decide) (by decide) (by decide) (by decide) dX8_init_107 (fun q109 nq112 => x_hn (fun h110 e111 => ?_))
  have f113 : h110 o = some (eO 8 [vI 0, .ref q1, vI 0, .ref q10, .ref q19, .ref q28, .ref q37, .ref q46, .ref q55, .ref q64, .ref q73, .ref q82, .ref q91, .ref q100, vI 0, .null, .null, .null, .null, .null, .null, .null, .null, .null, .null, .null, .null, .null, .null, .null, vI ((0 : Nat) : Int), vI 0, vI 0, vI ((0 : Nat) : Int), vI 0, .null, .null, .null]) := by rw [e111, hu_n (vnn f107 nq112)]; exact f107
  refine x_putF C f113 (T := TX8) rfl tyX8_ok nmX8 kX8_init_5 15 (by decide) kX8_init_17 rfl rfl rfl (fs' := [vI 0, .ref q1, vI 0, .ref q10, .ref q19, .ref q28, .ref q37, .ref q46, .ref q55, .ref q64, .ref q73, .ref q82, .ref q91, .ref q100, vI 0, .ref q109, .null, .null, .null, .null, .null, .null, .null, .null, .null, .null, .null, .null, .null, .null, vI ((0 : Nat) : Int), vI 0, vI 0, vI ((0 : Nat) : Int), vI 0, .null, .null, .null]) rfl rfl (by simp) rfl dX8_init_109 (x_hn (fun h114 e115 => ?_))
  have f116 : h114 o = some (eO 8 [vI 0, .ref q1, vI 0, .ref q10, .ref q19, .ref q28, .ref q37, .ref q46, .ref q55, .ref q64, .ref q73, .ref q82, .ref q91, .ref q100, vI 0, .ref q109, .null, .null, .null, .null, .null, .null, .null, .null, .null, .null, .null, .null, .null, .null, vI ((0 : Nat) : Int), vI 0, vI 0, vI ((0 : Nat) : Int), vI 0, .null, .null, .null]) := by rw [e115]; exact hu_s
  have bl117 : Bl h o ((q109, eI D 20 (fun _ => 0)) :: (q100, eI D 480 (fun _ => 0)) :: (q91, eI D 480 (fun _ => 0)) :: (q82, eI D 12 (fun _ => 0)) :: (q73, eI D 480 (fun _ => 0)) :: (q64, eI D 480 (fun _ => 0)) :: (q55, eI D 12 (fun _ => 0)) :: (q46, eI D 12 (fun _ => 0)) :: (q37, eI D 12 (fun _ => 0)) :: (q28, eI D 12 (fun _ => 0)) :: (q19, eI D 1152 (fun _ => 0)) :: (q10, eI D 12 (fun _ => 0)) :: (q1, eI D 3 (fun _ => 0)) :: []) h114 := by rw [e115, e111]; exact Bl.s bl108 nq112 f107
  refine x_aload_n C dX8_init_112 0 rfl ?_
  refine x_sipush C dX8_init_113 1920 (by decide) ?_
  refine x_newI C (N := 1920) kX8_init_3 (by decide) (by decide) (by decide) (by decide) dX8_init_116 (fun q118 nq121 => x_hn (fun h119 e120 => ?_))
  have f122 : h119 o = some (eO 8 [vI 0, .ref q1, vI 0, .ref q10, .ref q19, .ref q28, .ref q37, .ref q46, .ref q55, .ref q64, .ref q73, .ref q82, .ref q91, .ref q100, vI 0, .ref q109, .null, .null, .null, .null, .null, .null, .null, .null, .null, .null, .null, .null, .null, .null, vI ((0 : Nat) : Int), vI 0, vI 0, vI ((0 : Nat) : Int), vI 0, .null, .null, .null]) := by rw [e120, hu_n (vnn f116 nq121)]; exact f116
  refine x_putF C f122 (T := TX8) rfl tyX8_ok nmX8 kX8_init_5 16 (by decide) kX8_init_18 rfl rfl rfl (fs' := [vI 0, .ref q1, vI 0, .ref q10, .ref q19, .ref q28, .ref q37, .ref q46, .ref q55, .ref q64, .ref q73, .ref q82, .ref q91, .ref q100, vI 0, .ref q109, .ref q118, .null, .null, .null, .null, .null, .null, .null, .null, .null, .null, .null, .null, .null, vI ((0 : Nat) : Int), vI 0, vI 0, vI ((0 : Nat) : Int), vI 0, .null, .null, .null]) rfl rfl (by simp) rfl dX8_init_118 (x_hn (fun h123 e124 => ?_))
  have f125 : h123 o = some (eO 8 [vI 0, .ref q1, vI 0, .ref q10, .ref q19, .ref q28, .ref q37, .ref q46, .ref q55, .ref q64, .ref q73, .ref q82, .ref q91, .ref q100, vI 0, .ref q109, .ref q118, .null, .null, .null, .null, .null, .null, .null, .null, .null, .null, .null, .null, .null, vI ((0 : Nat) : Int), vI 0, vI 0, vI ((0 : Nat) : Int), vI 0, .null, .null, .null]) := by rw [e124]; exact hu_s
  have bl126 : Bl h o ((q118, eI D 1920 (fun _ => 0)) :: (q109, eI D 20 (fun _ => 0)) :: (q100, eI D 480 (fun _ => 0)) :: (q91, eI D 480 (fun _ => 0)) :: (q82, eI D 12 (fun _ => 0)) :: (q73, eI D 480 (fun _ => 0)) :: (q64, eI D 480 (fun _ => 0)) :: (q55, eI D 12 (fun _ => 0)) :: (q46, eI D 12 (fun _ => 0)) :: (q37, eI D 12 (fun _ => 0)) :: (q28, eI D 12 (fun _ => 0)) :: (q19, eI D 1152 (fun _ => 0)) :: (q10, eI D 12 (fun _ => 0)) :: (q1, eI D 3 (fun _ => 0)) :: []) h123 := by rw [e124, e120]; exact Bl.s bl117 nq121 f116
  refine x_aload_n C dX8_init_121 0 rfl ?_
  refine x_bipush C dX8_init_122 20 (by decide) ?_
  refine x_newI C (N := 20) kX8_init_3 (by decide) (by decide) (by decide) (by decide) dX8_init_124 (fun q127 nq130 => x_hn (fun h128 e129 => ?_))
  have f131 : h128 o = some (eO 8 [vI 0, .ref q1, vI 0, .ref q10, .ref q19, .ref q28, .ref q37, .ref q46, .ref q55, .ref q64, .ref q73, .ref q82, .ref q91, .ref q100, vI 0, .ref q109, .ref q118, .null, .null, .null, .null, .null, .null, .null, .null, .null, .null, .null, .null, .null, vI ((0 : Nat) : Int), vI 0, vI 0, vI ((0 : Nat) : Int), vI 0, .null, .null, .null]) := by rw [e129, hu_n (vnn f125 nq130)]; exact f125
  refine x_putF C f131 (T := TX8) rfl tyX8_ok nmX8 kX8_init_5 17 (by decide) kX8_init_19 rfl rfl rfl (fs' := [vI 0, .ref q1, vI 0, .ref q10, .ref q19, .ref q28, .ref q37, .ref q46, .ref q55, .ref q64, .ref q73, .ref q82, .ref q91, .ref q100, vI 0, .ref q109, .ref q118, .ref q127, .null, .null, .null, .null, .null, .null, .null, .null, .null, .null, .null, .null, vI ((0 : Nat) : Int), vI 0, vI 0, vI ((0 : Nat) : Int), vI 0, .null, .null, .null]) rfl rfl (by simp) rfl dX8_init_126 (x_hn (fun h132 e133 => ?_))
  have f134 : h132 o = some (eO 8 [vI 0, .ref q1, vI 0, .ref q10, .ref q19, .ref q28, .ref q37, .ref q46, .ref q55, .ref q64, .ref q73, .ref q82, .ref q91, .ref q100, vI 0, .ref q109, .ref q118, .ref q127, .null, .null, .null, .null, .null, .null, .null, .null, .null, .null, .null, .null, vI ((0 : Nat) : Int), vI 0, vI 0, vI ((0 : Nat) : Int), vI 0, .null, .null, .null]) := by rw [e133]; exact hu_s
  have bl135 : Bl h o ((q127, eI D 20 (fun _ => 0)) :: (q118, eI D 1920 (fun _ => 0)) :: (q109, eI D 20 (fun _ => 0)) :: (q100, eI D 480 (fun _ => 0)) :: (q91, eI D 480 (fun _ => 0)) :: (q82, eI D 12 (fun _ => 0)) :: (q73, eI D 480 (fun _ => 0)) :: (q64, eI D 480 (fun _ => 0)) :: (q55, eI D 12 (fun _ => 0)) :: (q46, eI D 12 (fun _ => 0)) :: (q37, eI D 12 (fun _ => 0)) :: (q28, eI D 12 (fun _ => 0)) :: (q19, eI D 1152 (fun _ => 0)) :: (q10, eI D 12 (fun _ => 0)) :: (q1, eI D 3 (fun _ => 0)) :: []) h132 := by rw [e133, e129]; exact Bl.s bl126 nq130 f125
  refine x_aload_n C dX8_init_129 0 rfl ?_
  refine x_bipush C dX8_init_130 20 (by decide) ?_
  refine x_newI C (N := 20) kX8_init_3 (by decide) (by decide) (by decide) (by decide) dX8_init_132 (fun q136 nq139 => x_hn (fun h137 e138 => ?_))
  have f140 : h137 o = some (eO 8 [vI 0, .ref q1, vI 0, .ref q10, .ref q19, .ref q28, .ref q37, .ref q46, .ref q55, .ref q64, .ref q73, .ref q82, .ref q91, .ref q100, vI 0, .ref q109, .ref q118, .ref q127, .null, .null, .null, .null, .null, .null, .null, .null, .null, .null, .null, .null, vI ((0 : Nat) : Int), vI 0, vI 0, vI ((0 : Nat) : Int), vI 0, .null, .null, .null]) := by rw [e138, hu_n (vnn f134 nq139)]; exact f134
  refine x_putF C f140 (T := TX8) rfl tyX8_ok nmX8 kX8_init_5 18 (by decide) kX8_init_20 rfl rfl rfl (fs' := [vI 0, .ref q1, vI 0, .ref q10, .ref q19, .ref q28, .ref q37, .ref q46, .ref q55, .ref q64, .ref q73, .ref q82, .ref q91, .ref q100, vI 0, .ref q109, .ref q118, .ref q127, .ref q136, .null, .null, .null, .null, .null, .null, .null, .null, .null, .null, .null, vI ((0 : Nat) : Int), vI 0, vI 0, vI ((0 : Nat) : Int), vI 0, .null, .null, .null]) rfl rfl (by simp) rfl dX8_init_134 (x_hn (fun h141 e142 => ?_))
  have f143 : h141 o = some (eO 8 [vI 0, .ref q1, vI 0, .ref q10, .ref q19, .ref q28, .ref q37, .ref q46, .ref q55, .ref q64, .ref q73, .ref q82, .ref q91, .ref q100, vI 0, .ref q109, .ref q118, .ref q127, .ref q136, .null, .null, .null, .null, .null, .null, .null, .null, .null, .null, .null, vI ((0 : Nat) : Int), vI 0, vI 0, vI ((0 : Nat) : Int), vI 0, .null, .null, .null]) := by rw [e142]; exact hu_s
  have bl144 : Bl h o ((q136, eI D 20 (fun _ => 0)) :: (q127, eI D 20 (fun _ => 0)) :: (q118, eI D 1920 (fun _ => 0)) :: (q109, eI D 20 (fun _ => 0)) :: (q100, eI D 480 (fun _ => 0)) :: (q91, eI D 480 (fun _ => 0)) :: (q82, eI D 12 (fun _ => 0)) :: (q73, eI D 480 (fun _ => 0)) :: (q64, eI D 480 (fun _ => 0)) :: (q55, eI D 12 (fun _ => 0)) :: (q46, eI D 12 (fun _ => 0)) :: (q37, eI D 12 (fun _ => 0)) :: (q28, eI D 12 (fun _ => 0)) :: (q19, eI D 1152 (fun _ => 0)) :: (q10, eI D 12 (fun _ => 0)) :: (q1, eI D 3 (fun _ => 0)) :: []) h141 := by rw [e142, e138]; exact Bl.s bl135 nq139 f134
  refine x_aload_n C dX8_init_137 0 rfl ?_
  refine x_bipush C dX8_init_138 20 (by decide) ?_
  refine x_newI C (N := 20) kX8_init_3 (by decide) (by decide) (by decide) (by decide) dX8_init_140 (fun q145 nq148 => x_hn (fun h146 e147 => ?_))
  have f149 : h146 o = some (eO 8 [vI 0, .ref q1, vI 0, .ref q10, .ref q19, .ref q28, .ref q37, .ref q46, .ref q55, .ref q64, .ref q73, .ref q82, .ref q91, .ref q100, vI 0, .ref q109, .ref q118, .ref q127, .ref q136, .null, .null, .null, .null, .null, .null, .null, .null, .null, .null, .null, vI ((0 : Nat) : Int), vI 0, vI 0, vI ((0 : Nat) : Int), vI 0, .null, .null, .null]) := by rw [e147, hu_n (vnn f143 nq148)]; exact f143
  refine x_putF C f149 (T := TX8) rfl tyX8_ok nmX8 kX8_init_5 19 (by decide) kX8_init_21 rfl rfl rfl (fs' := [vI 0, .ref q1, vI 0, .ref q10, .ref q19, .ref q28, .ref q37, .ref q46, .ref q55, .ref q64, .ref q73, .ref q82, .ref q91, .ref q100, vI 0, .ref q109, .ref q118, .ref q127, .ref q136, .ref q145, .null, .null, .null, .null, .null, .null, .null, .null, .null, .null, vI ((0 : Nat) : Int), vI 0, vI 0, vI ((0 : Nat) : Int), vI 0, .null, .null, .null]) rfl rfl (by simp) rfl dX8_init_142 (x_hn (fun h150 e151 => ?_))
  have f152 : h150 o = some (eO 8 [vI 0, .ref q1, vI 0, .ref q10, .ref q19, .ref q28, .ref q37, .ref q46, .ref q55, .ref q64, .ref q73, .ref q82, .ref q91, .ref q100, vI 0, .ref q109, .ref q118, .ref q127, .ref q136, .ref q145, .null, .null, .null, .null, .null, .null, .null, .null, .null, .null, vI ((0 : Nat) : Int), vI 0, vI 0, vI ((0 : Nat) : Int), vI 0, .null, .null, .null]) := by rw [e151]; exact hu_s
  have bl153 : Bl h o ((q145, eI D 20 (fun _ => 0)) :: (q136, eI D 20 (fun _ => 0)) :: (q127, eI D 20 (fun _ => 0)) :: (q118, eI D 1920 (fun _ => 0)) :: (q109, eI D 20 (fun _ => 0)) :: (q100, eI D 480 (fun _ => 0)) :: (q91, eI D 480 (fun _ => 0)) :: (q82, eI D 12 (fun _ => 0)) :: (q73, eI D 480 (fun _ => 0)) :: (q64, eI D 480 (fun _ => 0)) :: (q55, eI D 12 (fun _ => 0)) :: (q46, eI D 12 (fun _ => 0)) :: (q37, eI D 12 (fun _ => 0)) :: (q28, eI D 12 (fun _ => 0)) :: (q19, eI D 1152 (fun _ => 0)) :: (q10, eI D 12 (fun _ => 0)) :: (q1, eI D 3 (fun _ => 0)) :: []) h150 := by rw [e151, e147]; exact Bl.s bl144 nq148 f143
  refine x_aload_n C dX8_init_145 0 rfl ?_
  refine x_bipush C dX8_init_146 20 (by decide) ?_
  refine x_newI C (N := 20) kX8_init_3 (by decide) (by decide) (by decide) (by decide) dX8_init_148 (fun q154 nq157 => x_hn (fun h155 e156 => ?_))
  have f158 : h155 o = some (eO 8 [vI 0, .ref q1, vI 0, .ref q10, .ref q19, .ref q28, .ref q37, .ref q46, .ref q55, .ref q64, .ref q73, .ref q82, .ref q91, .ref q100, vI 0, .ref q109, .ref q118, .ref q127, .ref q136, .ref q145, .null, .null, .null, .null, .null, .null, .null, .null, .null, .null, vI ((0 : Nat) : Int), vI 0, vI 0, vI ((0 : Nat) : Int), vI 0, .null, .null, .null]) := by rw [e156, hu_n (vnn f152 nq157)]; exact f152
  refine x_putF C f158 (T := TX8) rfl tyX8_ok nmX8 kX8_init_5 20 (by decide) kX8_init_22 rfl rfl rfl (fs' := [vI 0, .ref q1, vI 0, .ref q10, .ref q19, .ref q28, .ref q37, .ref q46, .ref q55, .ref q64, .ref q73, .ref q82, .ref q91, .ref q100, vI 0, .ref q109, .ref q118, .ref q127, .ref q136, .ref q145, .ref q154, .null, .null, .null, .null, .null, .null, .null, .null, .null, vI ((0 : Nat) : Int), vI 0, vI 0, vI ((0 : Nat) : Int), vI 0, .null, .null, .null]) rfl rfl (by simp) rfl dX8_init_150 (x_hn (fun h159 e160 => ?_))
  have f161 : h159 o = some (eO 8 [vI 0, .ref q1, vI 0, .ref q10, .ref q19, .ref q28, .ref q37, .ref q46, .ref q55, .ref q64, .ref q73, .ref q82, .ref q91, .ref q100, vI 0, .ref q109, .ref q118, .ref q127, .ref q136, .ref q145, .ref q154, .null, .null, .null, .null, .null, .null, .null, .null, .null, vI ((0 : Nat) : Int), vI 0, vI 0, vI ((0 : Nat) : Int), vI 0, .null, .null, .null]) := by rw [e160]; exact hu_s
  have bl162 : Bl h o ((q154, eI D 20 (fun _ => 0)) :: (q145, eI D 20 (fun _ => 0)) :: (q136, eI D 20 (fun _ => 0)) :: (q127, eI D 20 (fun _ => 0)) :: (q118, eI D 1920 (fun _ => 0)) :: (q109, eI D 20 (fun _ => 0)) :: (q100, eI D 480 (fun _ => 0)) :: (q91, eI D 480 (fun _ => 0)) :: (q82, eI D 12 (fun _ => 0)) :: (q73, eI D 480 (fun _ => 0)) :: (q64, eI D 480 (fun _ => 0)) :: (q55, eI D 12 (fun _ => 0)) :: (q46, eI D 12 (fun _ => 0)) :: (q37, eI D 12 (fun _ => 0)) :: (q28, eI D 12 (fun _ => 0)) :: (q19, eI D 1152 (fun _ => 0)) :: (q10, eI D 12 (fun _ => 0)) :: (q1, eI D 3 (fun _ => 0)) :: []) h159 := by rw [e160, e156]; exact Bl.s bl153 nq157 f152
  refine x_aload_n C dX8_init_153 0 rfl ?_
  refine x_bipush C dX8_init_154 120 (by decide) ?_
  refine x_newI C (N := 120) kX8_init_3 (by decide) (by decide) (by decide) (by decide) dX8_init_156 (fun q163 nq166 => x_hn (fun h164 e165 => ?_))
  have f167 : h164 o = some (eO 8 [vI 0, .ref q1, vI 0, .ref q10, .ref q19, .ref q28, .ref q37, .ref q46, .ref q55, .ref q64, .ref q73, .ref q82, .ref q91, .ref q100, vI 0, .ref q109, .ref q118, .ref q127, .ref q136, .ref q145, .ref q154, .null, .null, .null, .null, .null, .null, .null, .null, .null, vI ((0 : Nat) : Int), vI 0, vI 0, vI ((0 : Nat) : Int), vI 0, .null, .null, .null]) := by rw [e165, hu_n (vnn f161 nq166)]; exact f161
  refine x_putF C f167 (T := TX8) rfl tyX8_ok nmX8 kX8_init_5 21 (by decide) kX8_init_23 rfl rfl rfl (fs' := [vI 0, .ref q1, vI 0, .ref q10, .ref q19, .ref q28, .ref q37, .ref q46, .ref q55, .ref q64, .ref q73, .ref q82, .ref q91, .ref q100, vI 0, .ref q109, .ref q118, .ref q127, .ref q136, .ref q145, .ref q154, .ref q163, .null, .null, .null, .null, .null, .null, .null, .null, vI ((0 : Nat) : Int), vI 0, vI 0, vI ((0 : Nat) : Int), vI 0, .null, .null, .null]) rfl rfl (by simp) rfl dX8_init_158 (x_hn (fun h168 e169 => ?_))
  have f170 : h168 o = some (eO 8 [vI 0, .ref q1, vI 0, .ref q10, .ref q19, .ref q28, .ref q37, .ref q46, .ref q55, .ref q64, .ref q73, .ref q82, .ref q91, .ref q100, vI 0, .ref q109, .ref q118, .ref q127, .ref q136, .ref q145, .ref q154, .ref q163, .null, .null, .null, .null, .null, .null, .null, .null, vI ((0 : Nat) : Int), vI 0, vI 0, vI ((0 : Nat) : Int), vI 0, .null, .null, .null]) := by rw [e169]; exact hu_s
  have bl171 : Bl h o ((q163, eI D 120 (fun _ => 0)) :: (q154, eI D 20 (fun _ => 0)) :: (q145, eI D 20 (fun _ => 0)) :: (q136, eI D 20 (fun _ => 0)) :: (q127, eI D 20 (fun _ => 0)) :: (q118, eI D 1920 (fun _ => 0)) :: (q109, eI D 20 (fun _ => 0)) :: (q100, eI D 480 (fun _ => 0)) :: (q91, eI D 480 (fun _ => 0)) :: (q82, eI D 12 (fun _ => 0)) :: (q73, eI D 480 (fun _ => 0)) :: (q64, eI D 480 (fun _ => 0)) :: (q55, eI D 12 (fun _ => 0)) :: (q46, eI D 12 (fun _ => 0)) :: (q37, eI D 12 (fun _ => 0)) :: (q28, eI D 12 (fun _ => 0)) :: (q19, eI D 1152 (fun _ => 0)) :: (q10, eI D 12 (fun _ => 0)) :: (q1, eI D 3 (fun _ => 0)) :: []) h168 := by rw [e169, e165]; exact Bl.s bl162 nq166 f161
  refine x_aload_n C dX8_init_161 0 rfl ?_
  refine x_bipush C dX8_init_162 6 (by decide) ?_
  refine x_newI C (N := 6) kX8_init_3 (by decide) (by decide) (by decide) (by decide) dX8_init_164 (fun q172 nq175 => x_hn (fun h173 e174 => ?_))
  have f176 : h173 o = some (eO 8 [vI 0, .ref q1, vI 0, .ref q10, .ref q19, .ref q28, .ref q37, .ref q46, .ref q55, .ref q64, .ref q73, .ref q82, .ref q91, .ref q100, vI 0, .ref q109, .ref q118, .ref q127, .ref q136, .ref q145, .ref q154, .ref q163, .null, .null, .null, .null, .null, .null, .null, .null, vI ((0 : Nat) : Int), vI 0, vI 0, vI ((0 : Nat) : Int), vI 0, .null, .null, .null]) := by rw [e174, hu_n (vnn f170 nq175)]; exact f170
  refine x_putF C f176 (T := TX8) rfl tyX8_ok nmX8 kX8_init_5 22 (by decide) kX8_init_24 rfl rfl rfl (fs' := [vI 0, .ref q1, vI 0, .ref q10, .ref q19, .ref q28, .ref q37, .ref q46, .ref q55, .ref q64, .ref q73, .ref q82, .ref q91, .ref q100, vI 0, .ref q109, .ref q118, .ref q127, .ref q136, .ref q145, .ref q154, .ref q163, .ref q172, .null, .null, .null, .null, .null, .null, .null, vI ((0 : Nat) : Int), vI 0, vI 0, vI ((0 : Nat) : Int), vI 0, .null, .null, .null]) rfl rfl (by simp) rfl dX8_init_166 (x_hn (fun h177 e178 => ?_))
  have f179 : h177 o = some (eO 8 [vI 0, .ref q1, vI 0, .ref q10, .ref q19, .ref q28, .ref q37, .ref q46, .ref q55, .ref q64, .ref q73, .ref q82, .ref q91, .ref q100, vI 0, .ref q109, .ref q118, .ref q127, .ref q136, .ref q145, .ref q154, .ref q163, .ref q172, .null, .null, .null, .null, .null, .null, .null, vI ((0 : Nat) : Int), vI 0, vI 0, vI ((0 : Nat) : Int), vI 0, .null, .null, .null]) := by rw [e178]; exact hu_s
  have bl180 : Bl h o ((q172, eI D 6 (fun _ => 0)) :: (q163, eI D 120 (fun _ => 0)) :: (q154, eI D 20 (fun _ => 0)) :: (q145, eI D 20 (fun _ => 0)) :: (q136, eI D 20 (fun _ => 0)) :: (q127, eI D 20 (fun _ => 0)) :: (q118, eI D 1920 (fun _ => 0)) :: (q109, eI D 20 (fun _ => 0)) :: (q100, eI D 480 (fun _ => 0)) :: (q91, eI D 480 (fun _ => 0)) :: (q82, eI D 12 (fun _ => 0)) :: (q73, eI D 480 (fun _ => 0)) :: (q64, eI D 480 (fun _ => 0)) :: (q55, eI D 12 (fun _ => 0)) :: (q46, eI D 12 (fun _ => 0)) :: (q37, eI D 12 (fun _ => 0)) :: (q28, eI D 12 (fun _ => 0)) :: (q19, eI D 1152 (fun _ => 0)) :: (q10, eI D 12 (fun _ => 0)) :: (q1, eI D 3 (fun _ => 0)) :: []) h177 := by rw [e178, e174]; exact Bl.s bl171 nq175 f170
  refine x_aload_n C dX8_init_169 0 rfl ?_
  refine x_bipush C dX8_init_170 6 (by decide) ?_
  refine x_newI C (N := 6) kX8_init_3 (by decide) (by decide) (by decide) (by decide) dX8_init_172 (fun q181 nq184 => x_hn (fun h182 e183 => ?_))
  have f185 : h182 o = some (eO 8 [vI 0, .ref q1, vI 0, .ref q10, .ref q19, .ref q28, .ref q37, .ref q46, .ref q55, .ref q64, .ref q73, .ref q82, .ref q91, .ref q100, vI 0, .ref q109, .ref q118, .ref q127, .ref q136, .ref q145, .ref q154, .ref q163, .ref q172, .null, .null, .null, .null, .null, .null, .null, vI ((0 : Nat) : Int), vI 0, vI 0, vI ((0 : Nat) : Int), vI 0, .null, .null, .null]) := by rw [e183, hu_n (vnn f179 nq184)]; exact f179
  refine x_putF C f185 (T := TX8) rfl tyX8_ok nmX8 kX8_init_5 23 (by decide) kX8_init_25 rfl rfl rfl (fs' := [vI 0, .ref q1, vI 0, .ref q10, .ref q19, .ref q28, .ref q37, .ref q46, .ref q55, .ref q64, .ref q73, .ref q82, .ref q91, .ref q100, vI 0, .ref q109, .ref q118, .ref q127, .ref q136, .ref q145, .ref q154, .ref q163, .ref q172, .ref q181, .null, .null, .null, .null, .null, .null, vI ((0 : Nat) : Int), vI 0, vI 0, vI ((0 : Nat) : Int), vI 0, .null, .null, .null]) rfl rfl (by simp) rfl dX8_init_174 (x_hn (fun h186 e187 => ?_))
  have f188 : h186 o = some (eO 8 [vI 0, .ref q1, vI 0, .ref q10, .ref q19, .ref q28, .ref q37, .ref q46, .ref q55, .ref q64, .ref q73, .ref q82, .ref q91, .ref q100, vI 0, .ref q109, .ref q118, .ref q127, .ref q136, .ref q145, .ref q154, .ref q163, .ref q172, .ref q181, .null, .null, .null, .null, .null, .null, vI ((0 : Nat) : Int), vI 0, vI 0, vI ((0 : Nat) : Int), vI 0, .null, .null, .null]) := by rw [e187]; exact hu_s
  have bl189 : Bl h o ((q181, eI D 6 (fun _ => 0)) :: (q172, eI D 6 (fun _ => 0)) :: (q163, eI D 120 (fun _ => 0)) :: (q154, eI D 20 (fun _ => 0)) :: (q145, eI D 20 (fun _ => 0)) :: (q136, eI D 20 (fun _ => 0)) :: (q127, eI D 20 (fun _ => 0)) :: (q118, eI D 1920 (fun _ => 0)) :: (q109, eI D 20 (fun _ => 0)) :: (q100, eI D 480 (fun _ => 0)) :: (q91, eI D 480 (fun _ => 0)) :: (q82, eI D 12 (fun _ => 0)) :: (q73, eI D 480 (fun _ => 0)) :: (q64, eI D 480 (fun _ => 0)) :: (q55, eI D 12 (fun _ => 0)) :: (q46, eI D 12 (fun _ => 0)) :: (q37, eI D 12 (fun _ => 0)) :: (q28, eI D 12 (fun _ => 0)) :: (q19, eI D 1152 (fun _ => 0)) :: (q10, eI D 12 (fun _ => 0)) :: (q1, eI D 3 (fun _ => 0)) :: []) h186 := by rw [e187, e183]; exact Bl.s bl180 nq184 f179
  refine x_aload_n C dX8_init_177 0 rfl ?_
  refine x_bipush C dX8_init_178 6 (by decide) ?_
  refine x_newI C (N := 6) kX8_init_3 (by decide) (by decide) (by decide) (by decide) dX8_init_180 (fun q190 nq193 => x_hn (fun h191 e192 => ?_))
  have f194 : h191 o = some (eO 8 [vI 0, .ref q1, vI 0, .ref q10, .ref q19, .ref q28, .ref q37, .ref q46, .ref q55, .ref q64, .ref q73, .ref q82, .ref q91, .ref q100, vI 0, .ref q109, .ref q118, .ref q127, .ref q136, .ref q145, .ref q154, .ref q163, .ref q172, .ref q181, .null, .null, .null, .null, .null, .null, vI ((0 : Nat) : Int), vI 0, vI 0, vI ((0 : Nat) : Int), vI 0, .null, .null, .null]) := by rw [e192, hu_n (vnn f188 nq193)]; exact f188
  refine x_putF C f194 (T := TX8) rfl tyX8_ok nmX8 kX8_init_5 24 (by decide) kX8_init_26 rfl rfl rfl (fs' := [vI 0, .ref q1, vI 0, .ref q10, .ref q19, .ref q28, .ref q37, .ref q46, .ref q55, .ref q64, .ref q73, .ref q82, .ref q91, .ref q100, vI 0, .ref q109, .ref q118, .ref q127, .ref q136, .ref q145, .ref q154, .ref q163, .ref q172, .ref q181, .ref q190, .null, .null, .null, .null, .null, vI ((0 : Nat) : Int), vI 0, vI 0, vI ((0 : Nat) : Int), vI 0, .null, .null, .null]) rfl rfl (by simp) rfl dX8_init_182 (x_hn (fun h195 e196 => ?_))
  have f197 : h195 o = some (eO 8 [vI 0, .ref q1, vI 0, .ref q10, .ref q19, .ref q28, .ref q37, .ref q46, .ref q55, .ref q64, .ref q73, .ref q82, .ref q91, .ref q100, vI 0, .ref q109, .ref q118, .ref q127, .ref q136, .ref q145, .ref q154, .ref q163, .ref q172, .ref q181, .ref q190, .null, .null, .null, .null, .null, vI ((0 : Nat) : Int), vI 0, vI 0, vI ((0 : Nat) : Int), vI 0, .null, .null, .null]) := by rw [e196]; exact hu_s
  have bl198 : Bl h o ((q190, eI D 6 (fun _ => 0)) :: (q181, eI D 6 (fun _ => 0)) :: (q172, eI D 6 (fun _ => 0)) :: (q163, eI D 120 (fun _ => 0)) :: (q154, eI D 20 (fun _ => 0)) :: (q145, eI D 20 (fun _ => 0)) :: (q136, eI D 20 (fun _ => 0)) :: (q127, eI D 20 (fun _ => 0)) :: (q118, eI D 1920 (fun _ => 0)) :: (q109, eI D 20 (fun _ => 0)) :: (q100, eI D 480 (fun _ => 0)) :: (q91, eI D 480 (fun _ => 0)) :: (q82, eI D 12 (fun _ => 0)) :: (q73, eI D 480 (fun _ => 0)) :: (q64, eI D 480 (fun _ => 0)) :: (q55, eI D 12 (fun _ => 0)) :: (q46, eI D 12 (fun _ => 0)) :: (q37, eI D 12 (fun _ => 0)) :: (q28, eI D 12 (fun _ => 0)) :: (q19, eI D 1152 (fun _ => 0)) :: (q10, eI D 12 (fun _ => 0)) :: (q1, eI D 3 (fun _ => 0)) :: []) h195 := by rw [e196, e192]; exact Bl.s bl189 nq193 f188
  refine x_aload_n C dX8_init_185 0 rfl ?_
  refine x_bipush C dX8_init_186 6 (by decide) ?_
  refine x_newI C (N := 6) kX8_init_3 (by decide) (by decide) (by decide) (by decide) dX8_init_188 (fun q199 nq202 => x_hn (fun h200 e201 => ?_))
  have f203 : h200 o = some (eO 8 [vI 0, .ref q1, vI 0, .ref q10, .ref q19, .ref q28, .ref q37, .ref q46, .ref q55, .ref q64, .ref q73, .ref q82, .ref q91, .ref q100, vI 0, .ref q109, .ref q118, .ref q127, .ref q136, .ref q145, .ref q154, .ref q163, .ref q172, .ref q181, .ref q190, .null, .null, .null, .null, .null, vI ((0 : Nat) : Int), vI 0, vI 0, vI ((0 : Nat) : Int), vI 0, .null, .null, .null]) := by rw [e201, hu_n (vnn f197 nq202)]; exact f197
  refine x_putF C f203 (T := TX8) rfl tyX8_ok nmX8 kX8_init_5 25 (by decide) kX8_init_27 rfl rfl rfl (fs' := [vI 0, .ref q1, vI 0, .ref q10, .ref q19, .ref q28, .ref q37, .ref q46, .ref q55, .ref q64, .ref q73, .ref q82, .ref q91, .ref q100, vI 0, .ref q109, .ref q118, .ref q127, .ref q136, .ref q145, .ref q154, .ref q163, .ref q172, .ref q181, .ref q190, .ref q199, .null, .null, .null, .null, vI ((0 : Nat) : Int), vI 0, vI 0, vI ((0 : Nat) : Int), vI 0, .null, .null, .null]) rfl rfl (by simp) rfl dX8_init_190 (x_hn (fun h204 e205 => ?_))
  have f206 : h204 o = some (eO 8 [vI 0, .ref q1, vI 0, .ref q10, .ref q19, .ref q28, .ref q37, .ref q46, .ref q55, .ref q64, .ref q73, .ref q82, .ref q91, .ref q100, vI 0, .ref q109, .ref q118, .ref q127, .ref q136, .ref q145, .ref q154, .ref q163, .ref q172, .ref q181, .ref q190, .ref q199, .null, .null, .null, .null, vI ((0 : Nat) : Int), vI 0, vI 0, vI ((0 : Nat) : Int), vI 0, .null, .null, .null]) := by rw [e205]; exact hu_s
  have bl207 : Bl h o ((q199, eI D 6 (fun _ => 0)) :: (q190, eI D 6 (fun _ => 0)) :: (q181, eI D 6 (fun _ => 0)) :: (q172, eI D 6 (fun _ => 0)) :: (q163, eI D 120 (fun _ => 0)) :: (q154, eI D 20 (fun _ => 0)) :: (q145, eI D 20 (fun _ => 0)) :: (q136, eI D 20 (fun _ => 0)) :: (q127, eI D 20 (fun _ => 0)) :: (q118, eI D 1920 (fun _ => 0)) :: (q109, eI D 20 (fun _ => 0)) :: (q100, eI D 480 (fun _ => 0)) :: (q91, eI D 480 (fun _ => 0)) :: (q82, eI D 12 (fun _ => 0)) :: (q73, eI D 480 (fun _ => 0)) :: (q64, eI D 480 (fun _ => 0)) :: (q55, eI D 12 (fun _ => 0)) :: (q46, eI D 12 (fun _ => 0)) :: (q37, eI D 12 (fun _ => 0)) :: (q28, eI D 12 (fun _ => 0)) :: (q19, eI D 1152 (fun _ => 0)) :: (q10, eI D 12 (fun _ => 0)) :: (q1, eI D 3 (fun _ => 0)) :: []) h204 := by rw [e205, e201]; exact Bl.s bl198 nq202 f197
  refine x_aload_n C dX8_init_193 0 rfl ?_
  refine x_bipush C dX8_init_194 6 (by decide) ?_
  refine x_newI C (N := 6) kX8_init_3 (by decide) (by decide) (by decide) (by decide) dX8_init_196 (fun q208 nq211 => x_hn (fun h209 e210 => ?_))
  have f212 : h209 o = some (eO 8 [vI 0, .ref q1, vI 0, .ref q10, .ref q19, .ref q28, .ref q37, .ref q46, .ref q55, .ref q64, .ref q73, .ref q82, .ref q91, .ref q100, vI 0, .ref q109, .ref q118, .ref q127, .ref q136, .ref q145, .ref q154, .ref q163, .ref q172, .ref q181, .ref q190, .ref q199, .null, .null, .null, .null, vI ((0 : Nat) : Int), vI 0, vI 0, vI ((0 : Nat) : Int), vI 0, .null, .null, .null]) := by rw [e210, hu_n (vnn f206 nq211)]; exact f206
  refine x_putF C f212 (T := TX8) rfl tyX8_ok nmX8 kX8_init_5 26 (by decide) kX8_init_28 rfl rfl rfl (fs' := [vI 0, .ref q1, vI 0, .ref q10, .ref q19, .ref q28, .ref q37, .ref q46, .ref q55, .ref q64, .ref q73, .ref q82, .ref q91, .ref q100, vI 0, .ref q109, .ref q118, .ref q127, .ref q136, .ref q145, .ref q154, .ref q163, .ref q172, .ref q181, .ref q190, .ref q199, .ref q208, .null, .null, .null, vI ((0 : Nat) : Int), vI 0, vI 0, vI ((0 : Nat) : Int), vI 0, .null, .null, .null]) rfl rfl (by simp) rfl dX8_init_198 (x_hn (fun h213 e214 => ?_))
  have f215 : h213 o = some (eO 8 [vI 0, .ref q1, vI 0, .ref q10, .ref q19, .ref q28, .ref q37, .ref q46, .ref q55, .ref q64, .ref q73, .ref q82, .ref q91, .ref q100, vI 0, .ref q109, .ref q118, .ref q127, .ref q136, .ref q145, .ref q154, .ref q163, .ref q172, .ref q181, .ref q190, .ref q199, .ref q208, .null, .null, .null, vI ((0 : Nat) : Int), vI 0, vI 0, vI ((0 : Nat) : Int), vI 0, .null, .null, .null]) := by rw [e214]; exact hu_s
  have bl216 : Bl h o ((q208, eI D 6 (fun _ => 0)) :: (q199, eI D 6 (fun _ => 0)) :: (q190, eI D 6 (fun _ => 0)) :: (q181, eI D 6 (fun _ => 0)) :: (q172, eI D 6 (fun _ => 0)) :: (q163, eI D 120 (fun _ => 0)) :: (q154, eI D 20 (fun _ => 0)) :: (q145, eI D 20 (fun _ => 0)) :: (q136, eI D 20 (fun _ => 0)) :: (q127, eI D 20 (fun _ => 0)) :: (q118, eI D 1920 (fun _ => 0)) :: (q109, eI D 20 (fun _ => 0)) :: (q100, eI D 480 (fun _ => 0)) :: (q91, eI D 480 (fun _ => 0)) :: (q82, eI D 12 (fun _ => 0)) :: (q73, eI D 480 (fun _ => 0)) :: (q64, eI D 480 (fun _ => 0)) :: (q55, eI D 12 (fun _ => 0)) :: (q46, eI D 12 (fun _ => 0)) :: (q37, eI D 12 (fun _ => 0)) :: (q28, eI D 12 (fun _ => 0)) :: (q19, eI D 1152 (fun _ => 0)) :: (q10, eI D 12 (fun _ => 0)) :: (q1, eI D 3 (fun _ => 0)) :: []) h213 := by rw [e214, e210]; exact Bl.s bl207 nq211 f206
  refine x_aload_n C dX8_init_201 0 rfl ?_
  refine x_bipush C dX8_init_202 6 (by decide) ?_
  refine x_newI C (N := 6) kX8_init_3 (by decide) (by decide) (by decide) (by decide) dX8_init_204 (fun q217 nq220 => x_hn (fun h218 e219 => ?_))
  have f221 : h218 o = some (eO 8 [vI 0, .ref q1, vI 0, .ref q10, .ref q19, .ref q28, .ref q37, .ref q46, .ref q55, .ref q64, .ref q73, .ref q82, .ref q91, .ref q100, vI 0, .ref q109, .ref q118, .ref q127, .ref q136, .ref q145, .ref q154, .ref q163, .ref q172, .ref q181, .ref q190, .ref q199, .ref q208, .null, .null, .null, vI ((0 : Nat) : Int), vI 0, vI 0, vI ((0 : Nat) : Int), vI 0, .null, .null, .null]) := by rw [e219, hu_n (vnn f215 nq220)]; exact f215
  refine x_putF C f221 (T := TX8) rfl tyX8_ok nmX8 kX8_init_5 27 (by decide) kX8_init_29 rfl rfl rfl (fs' := [vI 0, .ref q1, vI 0, .ref q10, .ref q19, .ref q28, .ref q37, .ref q46, .ref q55, .ref q64, .ref q73, .ref q82, .ref q91, .ref q100, vI 0, .ref q109, .ref q118, .ref q127, .ref q136, .ref q145, .ref q154, .ref q163, .ref q172, .ref q181, .ref q190, .ref q199, .ref q208, .ref q217, .null, .null, vI ((0 : Nat) : Int), vI 0, vI 0, vI ((0 : Nat) : Int), vI 0, .null, .null, .null]) rfl rfl (by simp) rfl dX8_init_206 (x_hn (fun h222 e223 => ?_))
  have f224 : h222 o = some (eO 8 [vI 0, .ref q1, vI 0, .ref q10, .ref q19, .ref q28, .ref q37, .ref q46, .ref q55, .ref q64, .ref q73, .ref q82, .ref q91, .ref q100, vI 0, .ref q109, .ref q118, .ref q127, .ref q136, .ref q145, .ref q154, .ref q163, .ref q172, .ref q181, .ref q190, .ref q199, .ref q208, .ref q217, .null, .null, vI ((0 : Nat) : Int), vI 0, vI 0, vI ((0 : Nat) : Int), vI 0, .null, .null, .null]) := by rw [e223]; exact hu_s
  have bl225 : Bl h o ((q217, eI D 6 (fun _ => 0)) :: (q208, eI D 6 (fun _ => 0)) :: (q199, eI D 6 (fun _ => 0)) :: (q190, eI D 6 (fun _ => 0)) :: (q181, eI D 6 (fun _ => 0)) :: (q172, eI D 6 (fun _ => 0)) :: (q163, eI D 120 (fun _ => 0)) :: (q154, eI D 20 (fun _ => 0)) :: (q145, eI D 20 (fun _ => 0)) :: (q136, eI D 20 (fun _ => 0)) :: (q127, eI D 20 (fun _ => 0)) :: (q118, eI D 1920 (fun _ => 0)) :: (q109, eI D 20 (fun _ => 0)) :: (q100, eI D 480 (fun _ => 0)) :: (q91, eI D 480 (fun _ => 0)) :: (q82, eI D 12 (fun _ => 0)) :: (q73, eI D 480 (fun _ => 0)) :: (q64, eI D 480 (fun _ => 0)) :: (q55, eI D 12 (fun _ => 0)) :: (q46, eI D 12 (fun _ => 0)) :: (q37, eI D 12 (fun _ => 0)) :: (q28, eI D 12 (fun _ => 0)) :: (q19, eI D 1152 (fun _ => 0)) :: (q10, eI D 12 (fun _ => 0)) :: (q1, eI D 3 (fun _ => 0)) :: []) h222 := by rw [e223, e219]; exact Bl.s bl216 nq220 f215
  refine x_aload_n C dX8_init_209 0 rfl ?_
  refine x_bipush C dX8_init_210 96 (by decide) ?_
  refine x_newI C (N := 96) kX8_init_3 (by decide) (by decide) (by decide) (by decide) dX8_init_212 (fun q226 nq229 => x_hn (fun h227 e228 => ?_))
  have f230 : h227 o = some (eO 8 [vI 0, .ref q1, vI 0, .ref q10, .ref q19, .ref q28, .ref q37, .ref q46, .ref q55, .ref q64, .ref q73, .ref q82, .ref q91, .ref q100, vI 0, .ref q109, .ref q118, .ref q127, .ref q136, .ref q145, .ref q154, .ref q163, .ref q172, .ref q181, .ref q190, .ref q199, .ref q208, .ref q217, .null, .null, vI ((0 : Nat) : Int), vI 0, vI 0, vI ((0 : Nat) : Int), vI 0, .null, .null, .null]) := by rw [e228, hu_n (vnn f224 nq229)]; exact f224
  refine x_putF C f230 (T := TX8) rfl tyX8_ok nmX8 kX8_init_5 28 (by decide) kX8_init_30 rfl rfl rfl (fs' := [vI 0, .ref q1, vI 0, .ref q10, .ref q19, .ref q28, .ref q37, .ref q46, .ref q55, .ref q64, .ref q73, .ref q82, .ref q91, .ref q100, vI 0, .ref q109, .ref q118, .ref q127, .ref q136, .ref q145, .ref q154, .ref q163, .ref q172, .ref q181, .ref q190, .ref q199, .ref q208, .ref q217, .ref q226, .null, vI ((0 : Nat) : Int), vI 0, vI 0, vI ((0 : Nat) : Int), vI 0, .null, .null, .null]) rfl rfl (by simp) rfl dX8_init_214 (x_hn (fun h231 e232 => ?_))
  have f233 : h231 o = some (eO 8 [vI 0, .ref q1, vI 0, .ref q10, .ref q19, .ref q28, .ref q37, .ref q46, .ref q55, .ref q64, .ref q73, .ref q82, .ref q91, .ref q100, vI 0, .ref q109, .ref q118, .ref q127, .ref q136, .ref q145, .ref q154, .ref q163, .ref q172, .ref q181, .ref q190, .ref q199, .ref q208, .ref q217, .ref q226, .null, vI ((0 : Nat) : Int), vI 0, vI 0, vI ((0 : Nat) : Int), vI 0, .null, .null, .null]) := by rw [e232]; exact hu_s
  have bl234 : Bl h o ((q226, eI D 96 (fun _ => 0)) :: (q217, eI D 6 (fun _ => 0)) :: (q208, eI D 6 (fun _ => 0)) :: (q199, eI D 6 (fun _ => 0)) :: (q190, eI D 6 (fun _ => 0)) :: (q181, eI D 6 (fun _ => 0)) :: (q172, eI D 6 (fun _ => 0)) :: (q163, eI D 120 (fun _ => 0)) :: (q154, eI D 20 (fun _ => 0)) :: (q145, eI D 20 (fun _ => 0)) :: (q136, eI D 20 (fun _ => 0)) :: (q127, eI D 20 (fun _ => 0)) :: (q118, eI D 1920 (fun _ => 0)) :: (q109, eI D 20 (fun _ => 0)) :: (q100, eI D 480 (fun _ => 0)) :: (q91, eI D 480 (fun _ => 0)) :: (q82, eI D 12 (fun _ => 0)) :: (q73, eI D 480 (fun _ => 0)) :: (q64, eI D 480 (fun _ => 0)) :: (q55, eI D 12 (fun _ => 0)) :: (q46, eI D 12 (fun _ => 0)) :: (q37, eI D 12 (fun _ => 0)) :: (q28, eI D 12 (fun _ => 0)) :: (q19, eI D 1152 (fun _ => 0)) :: (q10, eI D 12 (fun _ => 0)) :: (q1, eI D 3 (fun _ => 0)) :: []) h231 := by rw [e232, e228]; exact Bl.s bl225 nq229 f224
  refine x_aload_n C dX8_init_217 0 rfl ?_
  refine x_bipush C dX8_init_218 96 (by decide) ?_
  refine x_newI C (N := 96) kX8_init_3 (by decide) (by decide) (by decide) (by decide) dX8_init_220 (fun q235 nq238 => x_hn (fun h236 e237 => ?_))
  have f239 : h236 o = some (eO 8 [vI 0, .ref q1, vI 0, .ref q10, .ref q19, .ref q28, .ref q37, .ref q46, .ref q55, .ref q64, .ref q73, .ref q82, .ref q91, .ref q100, vI 0, .ref q109, .ref q118, .ref q127, .ref q136, .ref q145, .ref q154, .ref q163, .ref q172, .ref q181, .ref q190, .ref q199, .ref q208, .ref q217, .ref q226, .null, vI ((0 : Nat) : Int), vI 0, vI 0, vI ((0 : Nat) : Int), vI 0, .null, .null, .null]) := by rw [e237, hu_n (vnn f233 nq238)]; exact f233
  refine x_putF C f239 (T := TX8) rfl tyX8_ok nmX8 kX8_init_5 29 (by decide) kX8_init_31 rfl rfl rfl (fs' := [vI 0, .ref q1, vI 0, .ref q10, .ref q19, .ref q28, .ref q37, .ref q46, .ref q55, .ref q64, .ref q73, .ref q82, .ref q91, .ref q100, vI 0, .ref q109, .ref q118, .ref q127, .ref q136, .ref q145, .ref q154, .ref q163, .ref q172, .ref q181, .ref q190, .ref q199, .ref q208, .ref q217, .ref q226, .ref q235, vI ((0 : Nat) : Int), vI 0, vI 0, vI ((0 : Nat) : Int), vI 0, .null, .null, .null]) rfl rfl (by simp) rfl dX8_init_222 (x_hn (fun h240 e241 => ?_))
  have f242 : h240 o = some (eO 8 [vI 0, .ref q1, vI 0, .ref q10, .ref q19, .ref q28, .ref q37, .ref q46, .ref q55, .ref q64, .ref q73, .ref q82, .ref q91, .ref q100, vI 0, .ref q109, .ref q118, .ref q127, .ref q136, .ref q145, .ref q154, .ref q163, .ref q172, .ref q181, .ref q190, .ref q199, .ref q208, .ref q217, .ref q226, .ref q235, vI ((0 : Nat) : Int), vI 0, vI 0, vI ((0 : Nat) : Int), vI 0, .null, .null, .null]) := by rw [e241]; exact hu_s
  have bl243 : Bl h o ((q235, eI D 96 (fun _ => 0)) :: (q226, eI D 96 (fun _ => 0)) :: (q217, eI D 6 (fun _ => 0)) :: (q208, eI D 6 (fun _ => 0)) :: (q199, eI D 6 (fun _ => 0)) :: (q190, eI D 6 (fun _ => 0)) :: (q181, eI D 6 (fun _ => 0)) :: (q172, eI D 6 (fun _ => 0)) :: (q163, eI D 120 (fun _ => 0)) :: (q154, eI D 20 (fun _ => 0)) :: (q145, eI D 20 (fun _ => 0)) :: (q136, eI D 20 (fun _ => 0)) :: (q127, eI D 20 (fun _ => 0)) :: (q118, eI D 1920 (fun _ => 0)) :: (q109, eI D 20 (fun _ => 0)) :: (q100, eI D 480 (fun _ => 0)) :: (q91, eI D 480 (fun _ => 0)) :: (q82, eI D 12 (fun _ => 0)) :: (q73, eI D 480 (fun _ => 0)) :: (q64, eI D 480 (fun _ => 0)) :: (q55, eI D 12 (fun _ => 0)) :: (q46, eI D 12 (fun _ => 0)) :: (q37, eI D 12 (fun _ => 0)) :: (q28, eI D 12 (fun _ => 0)) :: (q19, eI D 1152 (fun _ => 0)) :: (q10, eI D 12 (fun _ => 0)) :: (q1, eI D 3 (fun _ => 0)) :: []) h240 := by rw [e241, e237]; exact Bl.s bl234 nq238 f233
  refine x_aload_n C dX8_init_225 0 rfl ?_
  refine x_sipush C dX8_init_226 6144 (by decide) ?_
  refine x_newI C (N := 6144) kX8_init_3 (by decide) (by decide) (by decide) (by decide) dX8_init_229 (fun q244 nq247 => x_hn (fun h245 e246 => ?_))
  have f248 : h245 o = some (eO 8 [vI 0, .ref q1, vI 0, .ref q10, .ref q19, .ref q28, .ref q37, .ref q46, .ref q55, .ref q64, .ref q73, .ref q82, .ref q91, .ref q100, vI 0, .ref q109, .ref q118, .ref q127, .ref q136, .ref q145, .ref q154, .ref q163, .ref q172, .ref q181, .ref q190, .ref q199, .ref q208, .ref q217, .ref q226, .ref q235, vI ((0 : Nat) : Int), vI 0, vI 0, vI ((0 : Nat) : Int), vI 0, .null, .null, .null]) := by rw [e246, hu_n (vnn f242 nq247)]; exact f242
  refine x_putF C f248 (T := TX8) rfl tyX8_ok nmX8 kX8_init_5 35 (by decide) kX8_init_32 rfl rfl rfl (fs' := [vI 0, .ref q1, vI 0, .ref q10, .ref q19, .ref q28, .ref q37, .ref q46, .ref q55, .ref q64, .ref q73, .ref q82, .ref q91, .ref q100, vI 0, .ref q109, .ref q118, .ref q127, .ref q136, .ref q145, .ref q154, .ref q163, .ref q172, .ref q181, .ref q190, .ref q199, .ref q208, .ref q217, .ref q226, .ref q235, vI ((0 : Nat) : Int), vI 0, vI 0, vI ((0 : Nat) : Int), vI 0, .ref q244, .null, .null]) rfl rfl (by simp) rfl dX8_init_231 (x_hn (fun h249 e250 => ?_))
  have f251 : h249 o = some (eO 8 [vI 0, .ref q1, vI 0, .ref q10, .ref q19, .ref q28, .ref q37, .ref q46, .ref q55, .ref q64, .ref q73, .ref q82, .ref q91, .ref q100, vI 0, .ref q109, .ref q118, .ref q127, .ref q136, .ref q145, .ref q154, .ref q163, .ref q172, .ref q181, .ref q190, .ref q199, .ref q208, .ref q217, .ref q226, .ref q235, vI ((0 : Nat) : Int), vI 0, vI 0, vI ((0 : Nat) : Int), vI 0, .ref q244, .null, .null]) := by rw [e250]; exact hu_s
  have bl252 : Bl h o ((q244, eI D 6144 (fun _ => 0)) :: (q235, eI D 96 (fun _ => 0)) :: (q226, eI D 96 (fun _ => 0)) :: (q217, eI D 6 (fun _ => 0)) :: (q208, eI D 6 (fun _ => 0)) :: (q199, eI D 6 (fun _ => 0)) :: (q190, eI D 6 (fun _ => 0)) :: (q181, eI D 6 (fun _ => 0)) :: (q172, eI D 6 (fun _ => 0)) :: (q163, eI D 120 (fun _ => 0)) :: (q154, eI D 20 (fun _ => 0)) :: (q145, eI D 20 (fun _ => 0)) :: (q136, eI D 20 (fun _ => 0)) :: (q127, eI D 20 (fun _ => 0)) :: (q118, eI D 1920 (fun _ => 0)) :: (q109, eI D 20 (fun _ => 0)) :: (q100, eI D 480 (fun _ => 0)) :: (q91, eI D 480 (fun _ => 0)) :: (q82, eI D 12 (fun _ => 0)) :: (q73, eI D 480 (fun _ => 0)) :: (q64, eI D 480 (fun _ => 0)) :: (q55, eI D 12 (fun _ => 0)) :: (q46, eI D 12 (fun _ => 0)) :: (q37, eI D 12 (fun _ => 0)) :: (q28, eI D 12 (fun _ => 0)) :: (q19, eI D 1152 (fun _ => 0)) :: (q10, eI D 12 (fun _ => 0)) :: (q1, eI D 3 (fun _ => 0)) :: []) h249 := by rw [e250, e246]; exact Bl.s bl243 nq247 f242
  refine x_aload_n C dX8_init_234 0 rfl ?_
  refine x_sipush C dX8_init_235 6144 (by decide) ?_
  refine x_newI C (N := 6144) kX8_init_3 (by decide) (by decide) (by decide) (by decide) dX8_init_238 (fun q253 nq256 => x_hn (fun h254 e255 => ?_))
  have f257 : h254 o = some (eO 8 [vI 0, .ref q1, vI 0, .ref q10, .ref q19, .ref q28, .ref q37, .ref q46, .ref q55, .ref q64, .ref q73, .ref q82, .ref q91, .ref q100, vI 0, .ref q109, .ref q118, .ref q127, .ref q136, .ref q145, .ref q154, .ref q163, .ref q172, .ref q181, .ref q190, .ref q199, .ref q208, .ref q217, .ref q226, .ref q235, vI ((0 : Nat) : Int), vI 0, vI 0, vI ((0 : Nat) : Int), vI 0, .ref q244, .null, .null]) := by rw [e255, hu_n (vnn f251 nq256)]; exact f251
  refine x_putF C f257 (T := TX8) rfl tyX8_ok nmX8 kX8_init_5 36 (by decide) kX8_init_33 rfl rfl rfl (fs' := [vI 0, .ref q1, vI 0, .ref q10, .ref q19, .ref q28, .ref q37, .ref q46, .ref q55, .ref q64, .ref q73, .ref q82, .ref q91, .ref q100, vI 0, .ref q109, .ref q118, .ref q127, .ref q136, .ref q145, .ref q154, .ref q163, .ref q172, .ref q181, .ref q190, .ref q199, .ref q208, .ref q217, .ref q226, .ref q235, vI ((0 : Nat) : Int), vI 0, vI 0, vI ((0 : Nat) : Int), vI 0, .ref q244, .ref q253, .null]) rfl rfl (by simp) rfl dX8_init_240 (x_hn (fun h258 e259 => ?_))
  have f260 : h258 o = some (eO 8 [vI 0, .ref q1, vI 0, .ref q10, .ref q19, .ref q28, .ref q37, .ref q46, .ref q55, .ref q64, .ref q73, .ref q82, .ref q91, .ref q100, vI 0, .ref q109, .ref q118, .ref q127, .ref q136, .ref q145, .ref q154, .ref q163, .ref q172, .ref q181, .ref q190, .ref q199, .ref q208, .ref q217, .ref q226, .ref q235, vI ((0 : Nat) : Int), vI 0, vI 0, vI ((0 : Nat) : Int), vI 0, .ref q244, .ref q253, .null]) := by rw [e259]; exact hu_s
  have bl261 : Bl h o ((q253, eI D 6144 (fun _ => 0)) :: (q244, eI D 6144 (fun _ => 0)) :: (q235, eI D 96 (fun _ => 0)) :: (q226, eI D 96 (fun _ => 0)) :: (q217, eI D 6 (fun _ => 0)) :: (q208, eI D 6 (fun _ => 0)) :: (q199, eI D 6 (fun _ => 0)) :: (q190, eI D 6 (fun _ => 0)) :: (q181, eI D 6 (fun _ => 0)) :: (q172, eI D 6 (fun _ => 0)) :: (q163, eI D 120 (fun _ => 0)) :: (q154, eI D 20 (fun _ => 0)) :: (q145, eI D 20 (fun _ => 0)) :: (q136, eI D 20 (fun _ => 0)) :: (q127, eI D 20 (fun _ => 0)) :: (q118, eI D 1920 (fun _ => 0)) :: (q109, eI D 20 (fun _ => 0)) :: (q100, eI D 480 (fun _ => 0)) :: (q91, eI D 480 (fun _ => 0)) :: (q82, eI D 12 (fun _ => 0)) :: (q73, eI D 480 (fun _ => 0)) :: (q64, eI D 480 (fun _ => 0)) :: (q55, eI D 12 (fun _ => 0)) :: (q46, eI D 12 (fun _ => 0)) :: (q37, eI D 12 (fun _ => 0)) :: (q28, eI D 12 (fun _ => 0)) :: (q19, eI D 1152 (fun _ => 0)) :: (q10, eI D 12 (fun _ => 0)) :: (q1, eI D 3 (fun _ => 0)) :: []) h258 := by rw [e259, e255]; exact Bl.s bl252 nq256 f251
  refine x_aload_n C dX8_init_243 0 rfl ?_
  refine x_bipush C dX8_init_244 96 (by decide) ?_
  refine x_newZ C (N := 96) kX8_init_34 (by decide) (by decide) (by decide) (by decide) dX8_init_246 (fun q262 nq265 => x_hn (fun h263 e264 => ?_))
  have f266 : h263 o = some (eO 8 [vI 0, .ref q1, vI 0, .ref q10, .ref q19, .ref q28, .ref q37, .ref q46, .ref q55, .ref q64, .ref q73, .ref q82, .ref q91, .ref q100, vI 0, .ref q109, .ref q118, .ref q127, .ref q136, .ref q145, .ref q154, .ref q163, .ref q172, .ref q181, .ref q190, .ref q199, .ref q208, .ref q217, .ref q226, .ref q235, vI ((0 : Nat) : Int), vI 0, vI 0, vI ((0 : Nat) : Int), vI 0, .ref q244, .ref q253, .null]) := by rw [e264, hu_n (vnn f260 nq265)]; exact f260
  refine x_putF C f266 (T := TX8) rfl tyX8_ok nmX8 kX8_init_5 37 (by decide) kX8_init_35 rfl rfl rfl (fs' := [vI 0, .ref q1, vI 0, .ref q10, .ref q19, .ref q28, .ref q37, .ref q46, .ref q55, .ref q64, .ref q73, .ref q82, .ref q91, .ref q100, vI 0, .ref q109, .ref q118, .ref q127, .ref q136, .ref q145, .ref q154, .ref q163, .ref q172, .ref q181, .ref q190, .ref q199, .ref q208, .ref q217, .ref q226, .ref q235, vI ((0 : Nat) : Int), vI 0, vI 0, vI ((0 : Nat) : Int), vI 0, .ref q244, .ref q253, .ref q262]) rfl rfl (by simp) rfl dX8_init_248 (x_hn (fun h267 e268 => ?_))
  have f269 : h267 o = some (eO 8 [vI 0, .ref q1, vI 0, .ref q10, .ref q19, .ref q28, .ref q37, .ref q46, .ref q55, .ref q64, .ref q73, .ref q82, .ref q91, .ref q100, vI 0, .ref q109, .ref q118, .ref q127, .ref q136, .ref q145, .ref q154, .ref q163, .ref q172, .ref q181, .ref q190, .ref q199, .ref q208, .ref q217, .ref q226, .ref q235, vI ((0 : Nat) : Int), vI 0, vI 0, vI ((0 : Nat) : Int), vI 0, .ref q244, .ref q253, .ref q262]) := by rw [e268]; exact hu_s
  have bl270 : Bl h o ((q262, eZ D 96 (fun _ => 0)) :: (q253, eI D 6144 (fun _ => 0)) :: (q244, eI D 6144 (fun _ => 0)) :: (q235, eI D 96 (fun _ => 0)) :: (q226, eI D 96 (fun _ => 0)) :: (q217, eI D 6 (fun _ => 0)) :: (q208, eI D 6 (fun _ => 0)) :: (q199, eI D 6 (fun _ => 0)) :: (q190, eI D 6 (fun _ => 0)) :: (q181, eI D 6 (fun _ => 0)) :: (q172, eI D 6 (fun _ => 0)) :: (q163, eI D 120 (fun _ => 0)) :: (q154, eI D 20 (fun _ => 0)) :: (q145, eI D 20 (fun _ => 0)) :: (q136, eI D 20 (fun _ => 0)) :: (q127, eI D 20 (fun _ => 0)) :: (q118, eI D 1920 (fun _ => 0)) :: (q109, eI D 20 (fun _ => 0)) :: (q100, eI D 480 (fun _ => 0)) :: (q91, eI D 480 (fun _ => 0)) :: (q82, eI D 12 (fun _ => 0)) :: (q73, eI D 480 (fun _ => 0)) :: (q64, eI D 480 (fun _ => 0)) :: (q55, eI D 12 (fun _ => 0)) :: (q46, eI D 12 (fun _ => 0)) :: (q37, eI D 12 (fun _ => 0)) :: (q28, eI D 12 (fun _ => 0)) :: (q19, eI D 1152 (fun _ => 0)) :: (q10, eI D 12 (fun _ => 0)) :: (q1, eI D 3 (fun _ => 0)) :: []) h267 := by rw [e268, e264]; exact Bl.s bl261 nq265 f260
  obtain ⟨l9, hl9⟩ : ∃ l9, l9 = (q262, eZ D 96 (fun _ => 0)) :: (q253, eI D 6144 (fun _ => 0)) :: (q244, eI D 6144 (fun _ => 0)) :: (q235, eI D 96 (fun _ => 0)) :: (q226, eI D 96 (fun _ => 0)) :: (q217, eI D 6 (fun _ => 0)) :: (q208, eI D 6 (fun _ => 0)) :: (q199, eI D 6 (fun _ => 0)) :: (q190, eI D 6 (fun _ => 0)) :: (q181, eI D 6 (fun _ => 0)) :: (q172, eI D 6 (fun _ => 0)) :: (q163, eI D 120 (fun _ => 0)) :: (q154, eI D 20 (fun _ => 0)) :: (q145, eI D 20 (fun _ => 0)) :: (q136, eI D 20 (fun _ => 0)) :: (q127, eI D 20 (fun _ => 0)) :: (q118, eI D 1920 (fun _ => 0)) :: (q109, eI D 20 (fun _ => 0)) :: (q100, eI D 480 (fun _ => 0)) :: (q91, eI D 480 (fun _ => 0)) :: (q82, eI D 12 (fun _ => 0)) :: (q73, eI D 480 (fun _ => 0)) :: (q64, eI D 480 (fun _ => 0)) :: (q55, eI D 12 (fun _ => 0)) :: (q46, eI D 12 (fun _ => 0)) :: (q37, eI D 12 (fun _ => 0)) :: (q28, eI D 12 (fun _ => 0)) :: (q19, eI D 1152 (fun _ => 0)) :: (q10, eI D 12 (fun _ => 0)) :: (q1, eI D 3 (fun _ => 0)) :: [] := ⟨_, rfl⟩
  obtain ⟨am, ham⟩ : ∃ am, am = amL o l9 := ⟨_, rfl⟩
  obtain ⟨h9, hh9⟩ : ∃ h9, h9 = h267 := ⟨_, rfl⟩
  have ham0 : am 0 0 = o := by rw [ham]; rfl
  have hm1 : am 1 0 = q1 := by rw [ham, hl9]; rfl
  have hm3 : am 3 0 = q10 := by rw [ham, hl9]; rfl
  have hm4 : am 4 0 = q19 := by rw [ham, hl9]; rfl
  have hm5 : am 5 0 = q28 := by rw [ham, hl9]; rfl
  have hm6 : am 6 0 = q37 := by rw [ham, hl9]; rfl
  have hm7 : am 7 0 = q46 := by rw [ham, hl9]; rfl
  have hm8 : am 8 0 = q55 := by rw [ham, hl9]; rfl
  have hm9 : am 9 0 = q64 := by rw [ham, hl9]; rfl
  have hm10 : am 10 0 = q73 := by rw [ham, hl9]; rfl
  have hm11 : am 11 0 = q82 := by rw [ham, hl9]; rfl
  have hm12 : am 12 0 = q91 := by rw [ham, hl9]; rfl
  have hm13 : am 13 0 = q100 := by rw [ham, hl9]; rfl
  have hm15 : am 15 0 = q109 := by rw [ham, hl9]; rfl
  have hm16 : am 16 0 = q118 := by rw [ham, hl9]; rfl
  have hm17 : am 17 0 = q127 := by rw [ham, hl9]; rfl
  have hm18 : am 18 0 = q136 := by rw [ham, hl9]; rfl
  have hm19 : am 19 0 = q145 := by rw [ham, hl9]; rfl
  have hm20 : am 20 0 = q154 := by rw [ham, hl9]; rfl
  have hm21 : am 21 0 = q163 := by rw [ham, hl9]; rfl
  have hm22 : am 22 0 = q172 := by rw [ham, hl9]; rfl
  have hm23 : am 23 0 = q181 := by rw [ham, hl9]; rfl
  have hm24 : am 24 0 = q190 := by rw [ham, hl9]; rfl
  have hm25 : am 25 0 = q199 := by rw [ham, hl9]; rfl
  have hm26 : am 26 0 = q208 := by rw [ham, hl9]; rfl
  have hm27 : am 27 0 = q217 := by rw [ham, hl9]; rfl
  have hm28 : am 28 0 = q226 := by rw [ham, hl9]; rfl
  have hm29 : am 29 0 = q235 := by rw [ham, hl9]; rfl
  have hm35 : am 35 0 = q244 := by rw [ham, hl9]; rfl
  have hm36 : am 36 0 = q253 := by rw [ham, hl9]; rfl
  have hm37 : am 37 0 = q262 := by rw [ham, hl9]; rfl
  have hBB : Bl h o l9 h9 := by rw [hl9, hh9]; exact bl270
  have hRM : RepM D am mI0 h9 := by
    refine ⟨fun k i hl => ?_, fun k i k' i' l1 l2 e => by rw [ham] at e; exact amL_i hBB (by rw [hl9]; rfl) l1 l2 e⟩
    obtain rfl : i = 0 := hl.2.1
    have hl0 := hl
    unfold lm at hl0
    rcases (show k = 0 ∨ k = 1 ∨ k = 3 ∨ k = 4 ∨ k = 5 ∨ k = 6 ∨ k = 7 ∨ k = 8 ∨ k = 9 ∨ k = 10 ∨ k = 11 ∨ k = 12 ∨ k = 13 ∨ k = 15 ∨ k = 16 ∨ k = 17 ∨ k = 18 ∨ k = 19 ∨ k = 20 ∨ k = 21 ∨ k = 22 ∨ k = 23 ∨ k = 24 ∨ k = 25 ∨ k = 26 ∨ k = 27 ∨ k = 28 ∨ k = 29 ∨ k = 35 ∨ k = 36 ∨ k = 37 by omega) with rfl | rfl | rfl | rfl | rfl | rfl | rfl | rfl | rfl | rfl | rfl | rfl | rfl | rfl | rfl | rfl | rfl | rfl | rfl | rfl | rfl | rfl | rfl | rfl | rfl | rfl | rfl | rfl | rfl | rfl | rfl
    · rw [ham0, hh9]
      refine Eq.trans f269 (congrArg some ?_)
      show _ = eO 8 _
      rw [hm1, hm3, hm4, hm5, hm6, hm7, hm8, hm9, hm10, hm11, hm12, hm13, hm15, hm16, hm17, hm18, hm19, hm20, hm21, hm22, hm23, hm24, hm25, hm26, hm27, hm28, hm29, hm35, hm36, hm37]
      rfl
    · rw [hm1, hh9]; exact (bl270.1 (q1, eI D 3 (fun _ => 0)) (List.Mem.tail _ (List.Mem.tail _ (List.Mem.tail _ (List.Mem.tail _ (List.Mem.tail _ (List.Mem.tail _ (List.Mem.tail _ (List.Mem.tail _ (List.Mem.tail _ (List.Mem.tail _ (List.Mem.tail _ (List.Mem.tail _ (List.Mem.tail _ (List.Mem.tail _ (List.Mem.tail _ (List.Mem.tail _ (List.Mem.tail _ (List.Mem.tail _ (List.Mem.tail _ (List.Mem.tail _ (List.Mem.tail _ (List.Mem.tail _ (List.Mem.tail _ (List.Mem.tail _ (List.Mem.tail _ (List.Mem.tail _ (List.Mem.tail _ (List.Mem.tail _ (List.Mem.tail _ (List.Mem.head _))))))))))))))))))))))))))))))).1
    · rw [hm3, hh9]; exact (bl270.1 (q10, eI D 12 (fun _ => 0)) (List.Mem.tail _ (List.Mem.tail _ (List.Mem.tail _ (List.Mem.tail _ (List.Mem.tail _ (List.Mem.tail _ (List.Mem.tail _ (List.Mem.tail _ (List.Mem.tail _ (List.Mem.tail _ (List.Mem.tail _ (List.Mem.tail _ (List.Mem.tail _ (List.Mem.tail _ (List.Mem.tail _ (List.Mem.tail _ (List.Mem.tail _ (List.Mem.tail _ (List.Mem.tail _ (List.Mem.tail _ (List.Mem.tail _ (List.Mem.tail _ (List.Mem.tail _ (List.Mem.tail _ (List.Mem.tail _ (List.Mem.tail _ (List.Mem.tail _ (List.Mem.tail _ (List.Mem.head _)))))))))))))))))))))))))))))).1
    · rw [hm4, hh9]; exact (bl270.1 (q19, eI D 1152 (fun _ => 0)) (List.Mem.tail _ (List.Mem.tail _ (List.Mem.tail _ (List.Mem.tail _ (List.Mem.tail _ (List.Mem.tail _ (List.Mem.tail _ (List.Mem.tail _ (List.Mem.tail _ (List.Mem.tail _ (List.Mem.tail _ (List.Mem.tail _ (List.Mem.tail _ (List.Mem.tail _ (List.Mem.tail _ (List.Mem.tail _ (List.Mem.tail _ (List.Mem.tail _ (List.Mem.tail _ (List.Mem.tail _ (List.Mem.tail _ (List.Mem.tail _ (List.Mem.tail _ (List.Mem.tail _ (List.Mem.tail _ (List.Mem.tail _ (List.Mem.tail _ (List.Mem.head _))))))))))))))))))))))))))))).1
    · rw [hm5, hh9]; exact (bl270.1 (q28, eI D 12 (fun _ => 0)) (List.Mem.tail _ (List.Mem.tail _ (List.Mem.tail _ (List.Mem.tail _ (List.Mem.tail _ (List.Mem.tail _ (List.Mem.tail _ (List.Mem.tail _ (List.Mem.tail _ (List.Mem.tail _ (List.Mem.tail _ (List.Mem.tail _ (List.Mem.tail _ (List.Mem.tail _ (List.Mem.tail _ (List.Mem.tail _ (List.Mem.tail _ (List.Mem.tail _ (List.Mem.tail _ (List.Mem.tail _ (List.Mem.tail _ (List.Mem.tail _ (List.Mem.tail _ (List.Mem.tail _ (List.Mem.tail _ (List.Mem.tail _ (List.Mem.head _)))))))))))))))))))))))))))).1
    · rw [hm6, hh9]; exact (bl270.1 (q37, eI D 12 (fun _ => 0)) (List.Mem.tail _ (List.Mem.tail _ (List.Mem.tail _ (List.Mem.tail _ (List.Mem.tail _ (List.Mem.tail _ (List.Mem.tail _ (List.Mem.tail _ (List.Mem.tail _ (List.Mem.tail _ (List.Mem.tail _ (List.Mem.tail _ (List.Mem.tail _ (List.Mem.tail _ (List.Mem.tail _ (List.Mem.tail _ (List.Mem.tail _ (List.Mem.tail _ (List.Mem.tail _ (List.Mem.tail _ (List.Mem.tail _ (List.Mem.tail _ (List.Mem.tail _ (List.Mem.tail _ (List.Mem.tail _ (List.Mem.head _))))))))))))))))))))))))))).1
    · rw [hm7, hh9]; exact (bl270.1 (q46, eI D 12 (fun _ => 0)) (List.Mem.tail _ (List.Mem.tail _ (List.Mem.tail _ (List.Mem.tail _ (List.Mem.tail _ (List.Mem.tail _ (List.Mem.tail _ (List.Mem.tail _ (List.Mem.tail _ (List.Mem.tail _ (List.Mem.tail _ (List.Mem.tail _ (List.Mem.tail _ (List.Mem.tail _ (List.Mem.tail _ (List.Mem.tail _ (List.Mem.tail _ (List.Mem.tail _ (List.Mem.tail _ (List.Mem.tail _ (List.Mem.tail _ (List.Mem.tail _ (List.Mem.tail _ (List.Mem.tail _ (List.Mem.head _)))))))))))))))))))))))))).1
    · rw [hm8, hh9]; exact (bl270.1 (q55, eI D 12 (fun _ => 0)) (List.Mem.tail _ (List.Mem.tail _ (List.Mem.tail _ (List.Mem.tail _ (List.Mem.tail _ (List.Mem.tail _ (List.Mem.tail _ (List.Mem.tail _ (List.Mem.tail _ (List.Mem.tail _ (List.Mem.tail _ (List.Mem.tail _ (List.Mem.tail _ (List.Mem.tail _ (List.Mem.tail _ (List.Mem.tail _ (List.Mem.tail _ (List.Mem.tail _ (List.Mem.tail _ (List.Mem.tail _ (List.Mem.tail _ (List.Mem.tail _ (List.Mem.tail _ (List.Mem.head _))))))))))))))))))))))))).1
    · rw [hm9, hh9]; exact (bl270.1 (q64, eI D 480 (fun _ => 0)) (List.Mem.tail _ (List.Mem.tail _ (List.Mem.tail _ (List.Mem.tail _ (List.Mem.tail _ (List.Mem.tail _ (List.Mem.tail _ (List.Mem.tail _ (List.Mem.tail _ (List.Mem.tail _ (List.Mem.tail _ (List.Mem.tail _ (List.Mem.tail _ (List.Mem.tail _ (List.Mem.tail _ (List.Mem.tail _ (List.Mem.tail _ (List.Mem.tail _ (List.Mem.tail _ (List.Mem.tail _ (List.Mem.tail _ (List.Mem.tail _ (List.Mem.head _)))))))))))))))))))))))).1
    · rw [hm10, hh9]; exact (bl270.1 (q73, eI D 480 (fun _ => 0)) (List.Mem.tail _ (List.Mem.tail _ (List.Mem.tail _ (List.Mem.tail _ (List.Mem.tail _ (List.Mem.tail _ (List.Mem.tail _ (List.Mem.tail _ (List.Mem.tail _ (List.Mem.tail _ (List.Mem.tail _ (List.Mem.tail _ (List.Mem.tail _ (List.Mem.tail _ (List.Mem.tail _ (List.Mem.tail _ (List.Mem.tail _ (List.Mem.tail _ (List.Mem.tail _ (List.Mem.tail _ (List.Mem.tail _ (List.Mem.head _))))))))))))))))))))))).1
    · rw [hm11, hh9]; exact (bl270.1 (q82, eI D 12 (fun _ => 0)) (List.Mem.tail _ (List.Mem.tail _ (List.Mem.tail _ (List.Mem.tail _ (List.Mem.tail _ (List.Mem.tail _ (List.Mem.tail _ (List.Mem.tail _ (List.Mem.tail _ (List.Mem.tail _ (List.Mem.tail _ (List.Mem.tail _ (List.Mem.tail _ (List.Mem.tail _ (List.Mem.tail _ (List.Mem.tail _ (List.Mem.tail _ (List.Mem.tail _ (List.Mem.tail _ (List.Mem.tail _ (List.Mem.head _)))))))))))))))))))))).1
    · rw [hm12, hh9]; exact (bl270.1 (q91, eI D 480 (fun _ => 0)) (List.Mem.tail _ (List.Mem.tail _ (List.Mem.tail _ (List.Mem.tail _ (List.Mem.tail _ (List.Mem.tail _ (List.Mem.tail _ (List.Mem.tail _ (List.Mem.tail _ (List.Mem.tail _ (List.Mem.tail _ (List.Mem.tail _ (List.Mem.tail _ (List.Mem.tail _ (List.Mem.tail _ (List.Mem.tail _ (List.Mem.tail _ (List.Mem.tail _ (List.Mem.tail _ (List.Mem.head _))))))))))))))))))))).1
    · rw [hm13, hh9]; exact (bl270.1 (q100, eI D 480 (fun _ => 0)) (List.Mem.tail _ (List.Mem.tail _ (List.Mem.tail _ (List.Mem.tail _ (List.Mem.tail _ (List.Mem.tail _ (List.Mem.tail _ (List.Mem.tail _ (List.Mem.tail _ (List.Mem.tail _ (List.Mem.tail _ (List.Mem.tail _ (List.Mem.tail _ (List.Mem.tail _ (List.Mem.tail _ (List.Mem.tail _ (List.Mem.tail _ (List.Mem.tail _ (List.Mem.head _)))))))))))))))))))).1
    · rw [hm15, hh9]; exact (bl270.1 (q109, eI D 20 (fun _ => 0)) (List.Mem.tail _ (List.Mem.tail _ (List.Mem.tail _ (List.Mem.tail _ (List.Mem.tail _ (List.Mem.tail _ (List.Mem.tail _ (List.Mem.tail _ (List.Mem.tail _ (List.Mem.tail _ (List.Mem.tail _ (List.Mem.tail _ (List.Mem.tail _ (List.Mem.tail _ (List.Mem.tail _ (List.Mem.tail _ (List.Mem.tail _ (List.Mem.head _))))))))))))))))))).1
    · rw [hm16, hh9]; exact (bl270.1 (q118, eI D 1920 (fun _ => 0)) (List.Mem.tail _ (List.Mem.tail _ (List.Mem.tail _ (List.Mem.tail _ (List.Mem.tail _ (List.Mem.tail _ (List.Mem.tail _ (List.Mem.tail _ (List.Mem.tail _ (List.Mem.tail _ (List.Mem.tail _ (List.Mem.tail _ (List.Mem.tail _ (List.Mem.tail _ (List.Mem.tail _ (List.Mem.tail _ (List.Mem.head _)))))))))))))))))).1
    · rw [hm17, hh9]; exact (bl270.1 (q127, eI D 20 (fun _ => 0)) (List.Mem.tail _ (List.Mem.tail _ (List.Mem.tail _ (List.Mem.tail _ (List.Mem.tail _ (List.Mem.tail _ (List.Mem.tail _ (List.Mem.tail _ (List.Mem.tail _ (List.Mem.tail _ (List.Mem.tail _ (List.Mem.tail _ (List.Mem.tail _ (List.Mem.tail _ (List.Mem.tail _ (List.Mem.head _))))))))))))))))).1
    · rw [hm18, hh9]; exact (bl270.1 (q136, eI D 20 (fun _ => 0)) (List.Mem.tail _ (List.Mem.tail _ (List.Mem.tail _ (List.Mem.tail _ (List.Mem.tail _ (List.Mem.tail _ (List.Mem.tail _ (List.Mem.tail _ (List.Mem.tail _ (List.Mem.tail _ (List.Mem.tail _ (List.Mem.tail _ (List.Mem.tail _ (List.Mem.tail _ (List.Mem.head _)))))))))))))))).1
    · rw [hm19, hh9]; exact (bl270.1 (q145, eI D 20 (fun _ => 0)) (List.Mem.tail _ (List.Mem.tail _ (List.Mem.tail _ (List.Mem.tail _ (List.Mem.tail _ (List.Mem.tail _ (List.Mem.tail _ (List.Mem.tail _ (List.Mem.tail _ (List.Mem.tail _ (List.Mem.tail _ (List.Mem.tail _ (List.Mem.tail _ (List.Mem.head _))))))))))))))).1
    · rw [hm20, hh9]; exact (bl270.1 (q154, eI D 20 (fun _ => 0)) (List.Mem.tail _ (List.Mem.tail _ (List.Mem.tail _ (List.Mem.tail _ (List.Mem.tail _ (List.Mem.tail _ (List.Mem.tail _ (List.Mem.tail _ (List.Mem.tail _ (List.Mem.tail _ (List.Mem.tail _ (List.Mem.tail _ (List.Mem.head _)))))))))))))).1
    · rw [hm21, hh9]; exact (bl270.1 (q163, eI D 120 (fun _ => 0)) (List.Mem.tail _ (List.Mem.tail _ (List.Mem.tail _ (List.Mem.tail _ (List.Mem.tail _ (List.Mem.tail _ (List.Mem.tail _ (List.Mem.tail _ (List.Mem.tail _ (List.Mem.tail _ (List.Mem.tail _ (List.Mem.head _))))))))))))).1
    · rw [hm22, hh9]; exact (bl270.1 (q172, eI D 6 (fun _ => 0)) (List.Mem.tail _ (List.Mem.tail _ (List.Mem.tail _ (List.Mem.tail _ (List.Mem.tail _ (List.Mem.tail _ (List.Mem.tail _ (List.Mem.tail _ (List.Mem.tail _ (List.Mem.tail _ (List.Mem.head _)))))))))))).1
    · rw [hm23, hh9]; exact (bl270.1 (q181, eI D 6 (fun _ => 0)) (List.Mem.tail _ (List.Mem.tail _ (List.Mem.tail _ (List.Mem.tail _ (List.Mem.tail _ (List.Mem.tail _ (List.Mem.tail _ (List.Mem.tail _ (List.Mem.tail _ (List.Mem.head _))))))))))).1
    · rw [hm24, hh9]; exact (bl270.1 (q190, eI D 6 (fun _ => 0)) (List.Mem.tail _ (List.Mem.tail _ (List.Mem.tail _ (List.Mem.tail _ (List.Mem.tail _ (List.Mem.tail _ (List.Mem.tail _ (List.Mem.tail _ (List.Mem.head _)))))))))).1
    · rw [hm25, hh9]; exact (bl270.1 (q199, eI D 6 (fun _ => 0)) (List.Mem.tail _ (List.Mem.tail _ (List.Mem.tail _ (List.Mem.tail _ (List.Mem.tail _ (List.Mem.tail _ (List.Mem.tail _ (List.Mem.head _))))))))).1
    · rw [hm26, hh9]; exact (bl270.1 (q208, eI D 6 (fun _ => 0)) (List.Mem.tail _ (List.Mem.tail _ (List.Mem.tail _ (List.Mem.tail _ (List.Mem.tail _ (List.Mem.tail _ (List.Mem.head _)))))))).1
    · rw [hm27, hh9]; exact (bl270.1 (q217, eI D 6 (fun _ => 0)) (List.Mem.tail _ (List.Mem.tail _ (List.Mem.tail _ (List.Mem.tail _ (List.Mem.tail _ (List.Mem.head _))))))).1
    · rw [hm28, hh9]; exact (bl270.1 (q226, eI D 96 (fun _ => 0)) (List.Mem.tail _ (List.Mem.tail _ (List.Mem.tail _ (List.Mem.tail _ (List.Mem.head _)))))).1
    · rw [hm29, hh9]; exact (bl270.1 (q235, eI D 96 (fun _ => 0)) (List.Mem.tail _ (List.Mem.tail _ (List.Mem.tail _ (List.Mem.head _))))).1
    · rw [hm35, hh9]; exact (bl270.1 (q244, eI D 6144 (fun _ => 0)) (List.Mem.tail _ (List.Mem.tail _ (List.Mem.head _)))).1
    · rw [hm36, hh9]; exact (bl270.1 (q253, eI D 6144 (fun _ => 0)) (List.Mem.tail _ (List.Mem.head _))).1
    · rw [hm37, hh9]; exact (bl270.1 (q262, eZ D 96 (fun _ => 0)) (List.Mem.head _)).1
  have hfree : ∀ k i, lm k i → k ≠ 0 → h (am k i) = none := fun k i hl hk => by
    obtain rfl : i = 0 := hl.2.1
    have p1 := posM_r hl
    rw [ham]
    unfold amL
    rw [if_neg hk]
    obtain ⟨p, h1, h2⟩ := adl_m (l := l9) (j := 30 - posM k) (by rw [hl9]; show 30 - posM k < 30; omega)
    rw [h2]; exact (hBB.1 p h1).2.1
  rw [← ham0, ← hh9]
  refine x_iconst C dX8_init_251 0 (by decide) ?_
  refine x_istore_n C (ls' := [(0, .ref (am 0 0)), (1, vI 0)]) dX8_init_252 (by decide) rfl ?_
  have LP : ∀ (N : Nat) (n : Nat) (h271 : vh)   (hn : n ≤ 3) (hN : 3 - n < N) (hcp : MP D am h9 (cu mI0 1 0 (S0n n)) h271), X κ 30 17899 h271 [(0, .ref (am 0 0)), (1, vI ((n : Nat) : Int))] 253 [] := by
    intro N
    induction N with
    | zero => intro n h271 hn hN hcp; exfalso; omega
    | succ N ihLP =>
      intro n h271 hn hN hcp
      refine x_iload_n C dX8_init_253 1 rfl ?_
      refine x_iconst C dX8_init_254 3 (by decide) ?_
      refine x_icmp_ge (tgt := 273) C dX8_init_255 (by decide) (by omega) (by omega) (fun c272 => ?_) (fun c272 => ?_)
      · skip
        refine x_vret C G dX8_init_273 ?_ (by decide) (by decide)
        have hn3 : n = 3 := by omega
        rw [hn3, S0n_3] at hcp
        exact ⟨rfl, am, ham0, hcp.1, hfree, fun b9 e9 hb9 he9 => by
          have h1 := hBB.2.2 b9 e9 hb9 he9
          refine (hcp.2 b9 (by rw [h1]; exact fun z => by cases z) (fun k i hl => ?_)).trans h1
          by_cases hk : k = 0
          · subst hk; rw [hl.2.1, ham0]; exact hb9
          · intro z
            have h2 := hfree k i hl hk
            rw [← z, he9] at h2; cases h2⟩
      · skip
        refine x_aload_n C dX8_init_258 0 rfl ?_
        have f273 : h271 (am 0 0) = some (eO 8 [vI (((cu mI0 1 0 (S0n n)) 0 0) 0), .ref (am 1 0), vI (((cu mI0 1 0 (S0n n)) 0 0) 2), .ref (am 3 0), .ref (am 4 0), .ref (am 5 0), .ref (am 6 0), .ref (am 7 0), .ref (am 8 0), .ref (am 9 0), .ref (am 10 0), .ref (am 11 0), .ref (am 12 0), .ref (am 13 0), vI (((cu mI0 1 0 (S0n n)) 0 0) 14), .ref (am 15 0), .ref (am 16 0), .ref (am 17 0), .ref (am 18 0), .ref (am 19 0), .ref (am 20 0), .ref (am 21 0), .ref (am 22 0), .ref (am 23 0), .ref (am 24 0), .ref (am 25 0), .ref (am 26 0), .ref (am 27 0), .ref (am 28 0), .ref (am 29 0), vI (((((cu mI0 1 0 (S0n n)) 0 0) 30).toNat : Nat) : Int), vI (((cu mI0 1 0 (S0n n)) 0 0) 31), vI (((cu mI0 1 0 (S0n n)) 0 0) 32), vI (((((cu mI0 1 0 (S0n n)) 0 0) 33).toNat : Nat) : Int), vI (((cu mI0 1 0 (S0n n)) 0 0) 34), .ref (am 35 0), .ref (am 36 0), .ref (am 37 0)]) := hcp.1.1 0 0 (lm0 (by decide))
        refine x_get C (v := .ref (am 1 0)) f273 (T := TX8) rfl kX8_init_5 1 (by decide) kX8_init_4 rfl dX8_init_259 ?_
        refine x_iload_n C dX8_init_262 1 rfl ?_
        refine x_iload_n C dX8_init_263 1 rfl ?_
        refine x_iconst C dX8_init_264 2 (by decide) ?_
        refine x_iadd C dX8_init_265 ?_
        have f274 : h271 (am 1 0) = some (eI D 3 (((cu mI0 1 0 (S0n n)) 1 0))) := hcp.1.1 1 0 (lm0 (by decide))
        refine x_iast C f274 ⟨by omega, by omega⟩ (by decide) dX8_init_266 (x_hn (fun h275 e276 => ?_))
        have f277 : h275 (am 1 0) = some (eI D 3 (fu (((cu mI0 1 0 (S0n n)) 1 0)) (Int.toNat (((n : Nat) : Int))) ((((n : Nat) : Int)) + 2))) := by rw [e276]; exact hu_s
        refine x_iinc C (x := ((n : Nat) : Int)) (ls' := [(0, .ref (am 0 0)), (1, vI ((((n : Nat) : Int)) + 1))]) dX8_init_267 1 rfl (by decide) rfl ?_
        refine x_goto (tgt := 253) C dX8_init_270 (by decide) ?_
        have cp278 : MP D am h9 (cu (cu mI0 1 0 (S0n n)) 1 0 (fu (((cu mI0 1 0 (S0n n)) 1 0)) (Int.toNat (((n : Nat) : Int))) ((((n : Nat) : Int)) + 2))) h275 := by rw [e276]; exact (MP.up hcp (lm0 (by decide)) (fu (((cu mI0 1 0 (S0n n)) 1 0)) (Int.toNat (((n : Nat) : Int))) ((((n : Nat) : Int)) + 2)) rfl)
        exact ihLP (n + 1) h275 (by omega) (by omega) (by have q9 := cp278; rw [cu_u] at q9; exact q9)
  exact LP (4) 0 h9 (by omega) (by omega) (by show MP D am h9 (cu mI0 1 0 (fun _ => 0)) h9; exact MPid rfl (MP.rf hRM))


section XRk
variable {κ : KX} {own nm : String} {cc : ByteArray} {Ts : List Cond} {R' : Room} {D : va_G} {A : Nat → Prop} {nL n1 n2 : Nat} {h : vh} {ls : List (Nat × Value)} {pc : Nat} {st : List Value}
theorem x_newRk (C : CX κ own nm cc Ts R' D A nL) {z : Int} {N k t0 index : Nat} {Cn : String} (ht : (tyL D)[t0]? = some (D.1 k, .object Cn)) (hcl : Cond.classLink own index Cn ∈ Ts) (hmem : Cond.arrayOver (.object Cn) ∈ nwAll) (hz : z = (N : Int)) (hN : N ≤ 60000000) (hc1 : n1 + 1 ≤ R'.cells) (hs1 : n2 + N ≤ R'.slots) (d : decode cc pc = .ok (.anewarray index, 3)) (kk : ∀ q : Nat, h q = none → X κ (n1 + 1) (n2 + N) (hu h q (eR D k N (fun _ => none))) ls (pc + 3) (.ref q :: st)) : X κ n1 n2 h ls pc (vI z :: st) := by
  refine x_newR C ht hcl ?_ hz hN hc1 hs1 d kk
  obtain ⟨p, l, e, R, s, m, args, below, meth, c, Q, D0, A0, nL0⟩ := κ
  obtain ⟨hx, hb, hml, ho, hts, hlk, hnm, hE, rfl, rfl, rfl, rfl⟩ := C
  exact hE.2.2.1 _ hmem
end XRk
theorem k_none {h2 h3 : vh} {o q : Nat} {e0 : va_E} (keep : ∀ (b : Nat) (e : va_E), b ≠ o → h2 b = some e → h3 b = some e) (ho : h3 o = some e0) (hq : h3 q = none) : h2 q = none := by
  cases hh : h2 q with
  | none => rfl
  | some e =>
    have := keep q e (fun z => by rw [z, ho] at hq; cases hq) hh
    rw [hq] at this; cases this
def S0 : Nat → Int := fu (fu (fu (fun _ => 0) 0 2) 1 3) 2 4
def cI : CS := fun k _ => match k with
  | 1 => S0
  | 4 => oF [6]
  | 5 => oF [0, 0, 0, 0, 0, 0, -1]
  | 6 => oF [0, 0, 0, 0, 1]
  | 24 => oF [0, 0, 0, 0, 1]
  | _ => fun _ => 0
def adI (a : Nat → Nat) : AD := fun k i => if k < 10 then a k else if k = 23 then a (10 + i) else a (16 + i)
def lst22 (l : List Nat) : Nat → Nat := fun j => l.getD j 0
theorem six {P : Nat → Prop} (h : P 0 ∧ P 1 ∧ P 2 ∧ P 3 ∧ P 4 ∧ P 5) : ∀ i, i < 6 → P i := fun i hi => by
  obtain ⟨h0, h1, h2, h3, h4, h5⟩ := h
  rcases (show i = 0 ∨ i = 1 ∨ i = 2 ∨ i = 3 ∨ i = 4 ∨ i = 5 by omega) with rfl | rfl | rfl | rfl | rfl | rfl
  · exact h0
  · exact h1
  · exact h2
  · exact h3
  · exact h4
  · exact h5
theorem repI {D : va_G} {a : Nat → Nat} {h : vh} (h0 : ∀ k, k < 10 → h (a k) = some (entK D (adI a) (cI k 0) k 0)) (h1 : ∀ i, i < 6 → h (a (10 + i)) = some (entK D (adI a) (cI 23 i) 23 i)) (h2 : ∀ i, i < 6 → h (a (16 + i)) = some (entK D (adI a) (cI 24 i) 24 i)) (hd : ∀ i j, i < j → j < 22 → a i ≠ a j) : RepC D (adI a) cI 0 0 h := by
  have hx : ∀ k i, lv 0 0 k i → ∃ n, n < 22 ∧ adI a k i = a n ∧ ((k < 10 ∧ i = 0 ∧ n = k) ∨ (k = 23 ∧ i < 6 ∧ n = 10 + i) ∨ (k = 24 ∧ i < 6 ∧ n = 16 + i)) := fun k i hl => by
    rcases lv_or hl with q | q | q | q
    · exact ⟨k, by omega, if_pos q.1, Or.inl ⟨q.1, q.2, rfl⟩⟩
    · exfalso; omega
    · exfalso; omega
    · rcases (show k = 23 ∨ k = 24 by omega) with rfl | rfl
      · exact ⟨10 + i, by omega, rfl, Or.inr (Or.inl ⟨rfl, q.2, rfl⟩)⟩
      · exact ⟨16 + i, by omega, rfl, Or.inr (Or.inr ⟨rfl, q.2, rfl⟩)⟩
  refine ⟨fun k i hl => ?_, fun k i k' i' l1 l2 e => ?_⟩
  · obtain ⟨n, n1, n2, n3⟩ := hx k i hl
    rw [n2]
    rcases n3 with ⟨q1, rfl, rfl⟩ | ⟨rfl, q2, rfl⟩ | ⟨rfl, q2, rfl⟩
    · exact h0 _ q1
    · exact h1 i q2
    · exact h2 i q2
  · obtain ⟨n, n1, n2, n3⟩ := hx k i l1
    obtain ⟨m, m1, m2, m3⟩ := hx k' i' l2
    rw [n2, m2] at e
    have : n = m := by
      rcases Nat.lt_trichotomy n m with q | q | q
      · exact absurd e (hd n m q m1)
      · exact q
      · exact absurd e.symm (hd m n q n1)
    omega

theorem kX7_init_0 : Cond.methodLink "LedgeLevels" 1 Lib.objectInit ∈ wsX7_init := by decide +kernel
theorem kX7_init_1 : Cond.instanceMethod Lib.objectInit ∈ wsX7_init := by decide +kernel
theorem kX7_init_2 : Cond.code Lib.objectInit ⟨#[0xb1]⟩ 1 none ∈ wsX7_init := by decide +kernel
theorem kX7_init_3 : Cond.arrayClass (newarray.typeOf .int) ∈ wsX7_init := by decide +kernel
theorem kX7_init_4 : Cond.fieldLink "LedgeLevels" 7 "LedgeLevels" "strengths" "[I" ∈ wsX7_init := by decide +kernel
theorem kX7_init_5 : ∀ w ∈ wsX70, w ∈ wsX7_init := by decide +kernel
theorem kX7_init_6 : Cond.classLink "LedgeLevels" 13 "LedgeLevels$Level" ∈ wsX7_init := by decide +kernel
theorem kX7_init_7 : Cond.fieldLink "LedgeLevels" 15 "LedgeLevels" "levels" "[LLedgeLevels$Level;" ∈ wsX7_init := by decide +kernel
theorem kX7_init_8 : Cond.classLink "LedgeLevels" 19 "LedgeLevels$Work" ∈ wsX7_init := by decide +kernel
theorem kX7_init_9 : Cond.fieldLink "LedgeLevels" 21 "LedgeLevels" "works" "[LLedgeLevels$Work;" ∈ wsX7_init := by decide +kernel
theorem kX7_init_10 : Cond.classLink "LedgeLevels" 25 "LedgeLevels$Run" ∈ wsX7_init := by decide +kernel
theorem kX7_init_11 : Cond.fieldLink "LedgeLevels" 27 "LedgeLevels" "runs" "[LLedgeLevels$Run;" ∈ wsX7_init := by decide +kernel
theorem kX7_init_12 : ∀ w ∈ wsX50, w ∈ wsX7_init := by decide +kernel
theorem kX7_init_13 : Cond.classLink "LedgeLevels" 31 "LedgeLevels$Search" ∈ wsX7_init := by decide +kernel
theorem kX7_init_14 : Cond.instantiable "LedgeLevels$Search" 7 ∈ wsX7_init := by decide +kernel
theorem kX7_init_15 : Cond.initialized "LedgeLevels$Search" ∈ wsX7_init := by decide +kernel
theorem kX7_init_16 : Cond.instanceMethod yX5_init ∈ wsX7_init := by decide +kernel
theorem kX7_init_17 : Cond.methodLink "LedgeLevels" 33 yX5_init ∈ wsX7_init := by decide +kernel
theorem kX7_init_18 : Cond.fieldLink "LedgeLevels" 36 "LedgeLevels" "search" "LLedgeLevels$Search;" ∈ wsX7_init := by decide +kernel
theorem kX7_init_19 : Cond.fieldLink "LedgeLevels" 40 "LedgeLevels" "levelCount" "I" ∈ wsX7_init := by decide +kernel
theorem kX7_init_20 : Cond.fieldLink "LedgeLevels" 44 "LedgeLevels" "workCount" "I" ∈ wsX7_init := by decide +kernel
theorem kX7_init_21 : ∀ w ∈ wsX40, w ∈ wsX7_init := by decide +kernel
theorem kX7_init_22 : Cond.instantiable "LedgeLevels$Run" 4 ∈ wsX7_init := by decide +kernel
theorem kX7_init_23 : Cond.initialized "LedgeLevels$Run" ∈ wsX7_init := by decide +kernel
theorem kX7_init_24 : Cond.instanceMethod yX4_init ∈ wsX7_init := by decide +kernel
theorem kX7_init_25 : Cond.methodLink "LedgeLevels" 47 yX4_init ∈ wsX7_init := by decide +kernel
set_option maxRecDepth 100000 in
set_option maxHeartbeats 1000000 in
theorem c_X7_init {l : Launch} {D : va_G} {A : Nat → Prop} {h : vh} {o : Nat} (ho : h o = some (eO 7 [.null, .null, .null, .null, .null, vI 0, vI 0]))  : MX l D A yX7_init wsX7_init { frames := 3, cells := 21, slots := 12491, locals := 62 } [.ref o] h (fun rv h' => rv = none ∧ ∃ a : Nat → Nat, a 0 = o ∧ RepC D (adI a) cI 0 0 h' ∧ (∀ j, 0 < j → j < 22 → h (a j) = none) ∧ ∀ (b9 : Nat) (e9 : va_E), b9 ≠ o → h b9 = some e9 → h' b9 = some e9) := by
  refine MX.of (cc := cX7_init) (maxL := 2) (ret := none) [(0, .ref o)] (by decide +kernel) rfl rfl (Nat.le_of_ble_eq_true rfl) ?_
  intro κ C hkl G
  subst hkl
  have C : CX κ "LedgeLevels" "<init>" cX7_init wsX7_init { frames := 3, cells := 21, slots := 12491, locals := 62 } D A 2 := C
  have hiz : nq (D.1 20) (D.1 21) := cx_iz C
  refine x_aload_n C dX7_init_0 0 rfl ?_
  refine x_objInit C kX7_init_0 kX7_init_1 kX7_init_2 (by decide) (by decide) dX7_init_1 ?_
  refine x_aload_n C dX7_init_4 0 rfl ?_
  refine x_iconst C dX7_init_5 3 (by decide) ?_
  refine x_newI C (N := 3) kX7_init_3 (by decide) (by decide) (by decide) (by decide) dX7_init_6 (fun q1 nq4 => x_hn (fun h2 e3 => ?_))
  have nb5 : h q1 = none := nq4
  have f6 : h2 q1 = some (eI D 3 (fun _ => 0)) := by rw [e3]; exact hu_s
  refine x_dup C dX7_init_8 rfl ?_
  refine x_iconst C dX7_init_9 0 (by decide) ?_
  refine x_iconst C dX7_init_10 2 (by decide) ?_
  refine x_iast C f6 ⟨by omega, by omega⟩ (by decide) dX7_init_11 (x_hn (fun h7 e8 => ?_))
  have f9 : h7 q1 = some (eI D 3 (fu (fun _ => 0) (Int.toNat 0) 2)) := by rw [e8]; exact hu_s
  refine x_dup C dX7_init_12 rfl ?_
  refine x_iconst C dX7_init_13 1 (by decide) ?_
  refine x_iconst C dX7_init_14 3 (by decide) ?_
  refine x_iast C f9 ⟨by omega, by omega⟩ (by decide) dX7_init_15 (x_hn (fun h10 e11 => ?_))
  have f12 : h10 q1 = some (eI D 3 (fu (fu (fun _ => 0) (Int.toNat 0) 2) (Int.toNat 1) 3)) := by rw [e11]; exact hu_s
  refine x_dup C dX7_init_16 rfl ?_
  refine x_iconst C dX7_init_17 2 (by decide) ?_
  refine x_iconst C dX7_init_18 4 (by decide) ?_
  refine x_iast C f12 ⟨by omega, by omega⟩ (by decide) dX7_init_19 (x_hn (fun h13 e14 => ?_))
  have f15 : h13 q1 = some (eI D 3 (fu (fu (fu (fun _ => 0) (Int.toNat 0) 2) (Int.toNat 1) 3) (Int.toNat 2) 4)) := by rw [e14]; exact hu_s
  have f16 : h2 o = some (eO 7 [.null, .null, .null, .null, .null, vI 0, vI 0]) := by rw [e3, hu_n (vnn ho nq4)]; exact ho
  have f17 : h7 o = some (eO 7 [.null, .null, .null, .null, .null, vI 0, vI 0]) := by rw [e8, hu_n (vnn ho nq4)]; exact f16
  have f18 : h10 o = some (eO 7 [.null, .null, .null, .null, .null, vI 0, vI 0]) := by rw [e11, hu_n (vnn ho nq4)]; exact f17
  have f19 : h13 o = some (eO 7 [.null, .null, .null, .null, .null, vI 0, vI 0]) := by rw [e14, hu_n (vnn ho nq4)]; exact f18
  refine x_putF C f19 (T := TX7) rfl tyX7_ok nmX7 kX7_init_5 0 (by decide) kX7_init_4 rfl rfl rfl (fs' := [.ref q1, .null, .null, .null, .null, vI 0, vI 0]) rfl rfl (by simp) rfl dX7_init_20 (x_hn (fun h20 e21 => ?_))
  have f22 : h20 o = some (eO 7 [.ref q1, .null, .null, .null, .null, vI 0, vI 0]) := by rw [e21]; exact hu_s
  refine x_aload_n C dX7_init_23 0 rfl ?_
  refine x_bipush C dX7_init_24 12 (by decide) ?_
  refine x_newRk C (k := 22) (t0 := 2) (Cn := RX3) (N := 12) rfl kX7_init_6 (by decide +kernel) (by decide) (by decide) (by decide) (by decide) dX7_init_26 (fun q23 nq26 => x_hn (fun h24 e25 => ?_))
  have nb27 : h q23 = none := by rw [e21, e14, e11, e8, e3] at nq26; exact (hu_none (hu_none (hu_none (hu_none (hu_none nq26).1).1).1).1).1
  have f28 : h24 q23 = some (eR D 22 12 (fun _ => none)) := by rw [e25]; exact hu_s
  have f29 : h20 q1 = some (eI D 3 (fu (fu (fu (fun _ => 0) (Int.toNat 0) 2) (Int.toNat 1) 3) (Int.toNat 2) 4)) := by rw [e21, hu_n (Ne.symm (vnn ho nq4))]; exact f15
  have f30 : h24 o = some (eO 7 [.ref q1, .null, .null, .null, .null, vI 0, vI 0]) := by rw [e25, hu_n (vnn f22 nq26)]; exact f22
  refine x_putF C f30 (T := TX7) rfl tyX7_ok nmX7 kX7_init_5 1 (by decide) kX7_init_7 rfl rfl rfl (fs' := [.ref q1, .ref q23, .null, .null, .null, vI 0, vI 0]) rfl rfl (by simp) rfl dX7_init_29 (x_hn (fun h31 e32 => ?_))
  have f33 : h31 o = some (eO 7 [.ref q1, .ref q23, .null, .null, .null, vI 0, vI 0]) := by rw [e32]; exact hu_s
  refine x_aload_n C dX7_init_32 0 rfl ?_
  refine x_bipush C dX7_init_33 20 (by decide) ?_
  refine x_newRk C (k := 24) (t0 := 4) (Cn := RX6) (N := 20) rfl kX7_init_8 (by decide +kernel) (by decide) (by decide) (by decide) (by decide) dX7_init_35 (fun q34 nq37 => x_hn (fun h35 e36 => ?_))
  have nb38 : h q34 = none := by rw [e32, e25, e21, e14, e11, e8, e3] at nq37; exact (hu_none (hu_none (hu_none (hu_none (hu_none (hu_none (hu_none nq37).1).1).1).1).1).1).1
  have f39 : h35 q34 = some (eR D 24 20 (fun _ => none)) := by rw [e36]; exact hu_s
  have f40 : h24 q1 = some (eI D 3 (fu (fu (fu (fun _ => 0) (Int.toNat 0) 2) (Int.toNat 1) 3) (Int.toNat 2) 4)) := by rw [e25, hu_n (vnn f29 nq26)]; exact f29
  have f41 : h31 q1 = some (eI D 3 (fu (fu (fu (fun _ => 0) (Int.toNat 0) 2) (Int.toNat 1) 3) (Int.toNat 2) 4)) := by rw [e32, hu_n (Ne.symm (vnn ho nq4))]; exact f40
  have f42 : h31 q23 = some (eR D 22 12 (fun _ => none)) := by rw [e32, hu_n (Ne.symm (vnn f22 nq26))]; exact f28
  have f43 : h35 o = some (eO 7 [.ref q1, .ref q23, .null, .null, .null, vI 0, vI 0]) := by rw [e36, hu_n (vnn f33 nq37)]; exact f33
  refine x_putF C f43 (T := TX7) rfl tyX7_ok nmX7 kX7_init_5 2 (by decide) kX7_init_9 rfl rfl rfl (fs' := [.ref q1, .ref q23, .ref q34, .null, .null, vI 0, vI 0]) rfl rfl (by simp) rfl dX7_init_38 (x_hn (fun h44 e45 => ?_))
  have f46 : h44 o = some (eO 7 [.ref q1, .ref q23, .ref q34, .null, .null, vI 0, vI 0]) := by rw [e45]; exact hu_s
  refine x_aload_n C dX7_init_41 0 rfl ?_
  refine x_bipush C dX7_init_42 6 (by decide) ?_
  refine x_newRk C (k := 23) (t0 := 3) (Cn := RX4) (N := 6) rfl kX7_init_10 (by decide +kernel) (by decide) (by decide) (by decide) (by decide) dX7_init_44 (fun q47 nq50 => x_hn (fun h48 e49 => ?_))
  have nb51 : h q47 = none := by rw [e45, e36, e32, e25, e21, e14, e11, e8, e3] at nq50; exact (hu_none (hu_none (hu_none (hu_none (hu_none (hu_none (hu_none (hu_none (hu_none nq50).1).1).1).1).1).1).1).1).1
  have f52 : h48 q47 = some (eR D 23 6 (fun _ => none)) := by rw [e49]; exact hu_s
  have f53 : h35 q1 = some (eI D 3 (fu (fu (fu (fun _ => 0) (Int.toNat 0) 2) (Int.toNat 1) 3) (Int.toNat 2) 4)) := by rw [e36, hu_n (vnn f41 nq37)]; exact f41
  have f54 : h44 q1 = some (eI D 3 (fu (fu (fu (fun _ => 0) (Int.toNat 0) 2) (Int.toNat 1) 3) (Int.toNat 2) 4)) := by rw [e45, hu_n (Ne.symm (vnn ho nq4))]; exact f53
  have f55 : h35 q23 = some (eR D 22 12 (fun _ => none)) := by rw [e36, hu_n (vnn f42 nq37)]; exact f42
  have f56 : h44 q23 = some (eR D 22 12 (fun _ => none)) := by rw [e45, hu_n (Ne.symm (vnn f22 nq26))]; exact f55
  have f57 : h44 q34 = some (eR D 24 20 (fun _ => none)) := by rw [e45, hu_n (Ne.symm (vnn f33 nq37))]; exact f39
  have f58 : h48 o = some (eO 7 [.ref q1, .ref q23, .ref q34, .null, .null, vI 0, vI 0]) := by rw [e49, hu_n (vnn f46 nq50)]; exact f46
  refine x_putF C f58 (T := TX7) rfl tyX7_ok nmX7 kX7_init_5 3 (by decide) kX7_init_11 rfl rfl rfl (fs' := [.ref q1, .ref q23, .ref q34, .ref q47, .null, vI 0, vI 0]) rfl rfl (by simp) rfl dX7_init_47 (x_hn (fun h59 e60 => ?_))
  have f61 : h59 o = some (eO 7 [.ref q1, .ref q23, .ref q34, .ref q47, .null, vI 0, vI 0]) := by rw [e60]; exact hu_s
  refine x_aload_n C dX7_init_50 0 rfl ?_
  refine x_new C (ci := 5) (T := TX5) (fs := [.null, .null, .null, .null, vI 0, vI 0, vI 0]) rfl tyX5_ok kX7_init_12 kX7_init_13 kX7_init_14 kX7_init_15 (by intro j hj; rcases (show j = 0 ∨ j = 1 ∨ j = 2 ∨ j = 3 ∨ j = 4 ∨ j = 5 ∨ j = 6 by omega) with rfl | rfl | rfl | rfl | rfl | rfl | rfl <;> rfl) (by decide) (by decide) dX7_init_51 (fun q62 nq65 => x_hn (fun h63 e64 => ?_))
  have nb66 : h q62 = none := by rw [e60, e49, e45, e36, e32, e25, e21, e14, e11, e8, e3] at nq65; exact (hu_none (hu_none (hu_none (hu_none (hu_none (hu_none (hu_none (hu_none (hu_none (hu_none (hu_none nq65).1).1).1).1).1).1).1).1).1).1).1
  have f67 : h63 q62 = some (eO 5 [.null, .null, .null, .null, vI 0, vI 0, vI 0]) := by rw [e64]; exact hu_s
  have f68 : h48 q1 = some (eI D 3 (fu (fu (fu (fun _ => 0) (Int.toNat 0) 2) (Int.toNat 1) 3) (Int.toNat 2) 4)) := by rw [e49, hu_n (vnn f54 nq50)]; exact f54
  have f69 : h59 q1 = some (eI D 3 (fu (fu (fu (fun _ => 0) (Int.toNat 0) 2) (Int.toNat 1) 3) (Int.toNat 2) 4)) := by rw [e60, hu_n (Ne.symm (vnn ho nq4))]; exact f68
  have f70 : h48 q23 = some (eR D 22 12 (fun _ => none)) := by rw [e49, hu_n (vnn f56 nq50)]; exact f56
  have f71 : h59 q23 = some (eR D 22 12 (fun _ => none)) := by rw [e60, hu_n (Ne.symm (vnn f22 nq26))]; exact f70
  have f72 : h48 q34 = some (eR D 24 20 (fun _ => none)) := by rw [e49, hu_n (vnn f57 nq50)]; exact f57
  have f73 : h59 q34 = some (eR D 24 20 (fun _ => none)) := by rw [e60, hu_n (Ne.symm (vnn f33 nq37))]; exact f72
  have f74 : h59 q47 = some (eR D 23 6 (fun _ => none)) := by rw [e60, hu_n (Ne.symm (vnn f46 nq50))]; exact f52
  refine x_dup C dX7_init_54 rfl ?_
  refine x_aload_n C dX7_init_55 0 rfl ?_
  have f75 : h63 o = some (eO 7 [.ref q1, .ref q23, .ref q34, .ref q47, .null, vI 0, vI 0]) := by rw [e64, hu_n (vnn f61 nq65)]; exact f61
  refine x_get C (v := .ref q1) f75 (T := TX7) rfl kX7_init_5 0 (by decide) kX7_init_4 rfl dX7_init_56 ?_
  refine x_callI C (n := 1) (As := [.ref q1]) (rest := [.ref q62, .ref o]) (c_X5_init f67) gX7_init_X5_init kX7_init_15 kX7_init_17 kX7_init_16 rfl (by decide +kernel) rfl rfl rfl (Nat.le_of_ble_eq_true rfl) ⟨by decide, by decide⟩ ⟨(by decide), (by decide)⟩ dX7_init_59 (fun rv76 h77 hp78 => ?_)
  obtain ⟨rfl, qk80, qk81, qk82, qk83, ⟨nk84, nk85, nk86, nk87⟩, dk94, ⟨fe88, fe92, fe89, fe90, fe91⟩, keep93⟩ := hp78
  have f95 : h63 q1 = some (eI D 3 (fu (fu (fu (fun _ => 0) (Int.toNat 0) 2) (Int.toNat 1) 3) (Int.toNat 2) 4)) := by rw [e64, hu_n (vnn f69 nq65)]; exact f69
  have f96 : h63 q23 = some (eR D 22 12 (fun _ => none)) := by rw [e64, hu_n (vnn f71 nq65)]; exact f71
  have f97 : h63 q34 = some (eR D 24 20 (fun _ => none)) := by rw [e64, hu_n (vnn f73 nq65)]; exact f73
  have f98 : h63 q47 = some (eR D 23 6 (fun _ => none)) := by rw [e64, hu_n (vnn f74 nq65)]; exact f74
  have nb99 : h59 qk80 = none := by have nk849 := nk84; rw [e64] at nk849; exact (hu_none nk849).1
  have nb100 : h48 qk80 = none := by have nb999 := nb99; rw [e60] at nb999; exact (hu_none nb999).1
  have nb101 : h44 qk80 = none := by have nb1009 := nb100; rw [e49] at nb1009; exact (hu_none nb1009).1
  have nb102 : h35 qk80 = none := by have nb1019 := nb101; rw [e45] at nb1019; exact (hu_none nb1019).1
  have nb103 : h31 qk80 = none := by have nb1029 := nb102; rw [e36] at nb1029; exact (hu_none nb1029).1
  have nb104 : h24 qk80 = none := by have nb1039 := nb103; rw [e32] at nb1039; exact (hu_none nb1039).1
  have nb105 : h20 qk80 = none := by have nb1049 := nb104; rw [e25] at nb1049; exact (hu_none nb1049).1
  have nb106 : h13 qk80 = none := by have nb1059 := nb105; rw [e21] at nb1059; exact (hu_none nb1059).1
  have nb107 : h10 qk80 = none := by have nb1069 := nb106; rw [e14] at nb1069; exact (hu_none nb1069).1
  have nb108 : h7 qk80 = none := by have nb1079 := nb107; rw [e11] at nb1079; exact (hu_none nb1079).1
  have nb109 : h2 qk80 = none := by have nb1089 := nb108; rw [e8] at nb1089; exact (hu_none nb1089).1
  have nb110 : h qk80 = none := by have nb1099 := nb109; rw [e3] at nb1099; exact (hu_none nb1099).1
  have nb111 : h59 qk81 = none := by have nk859 := nk85; rw [e64] at nk859; exact (hu_none nk859).1
  have nb112 : h48 qk81 = none := by have nb1119 := nb111; rw [e60] at nb1119; exact (hu_none nb1119).1
  have nb113 : h44 qk81 = none := by have nb1129 := nb112; rw [e49] at nb1129; exact (hu_none nb1129).1
  have nb114 : h35 qk81 = none := by have nb1139 := nb113; rw [e45] at nb1139; exact (hu_none nb1139).1
  have nb115 : h31 qk81 = none := by have nb1149 := nb114; rw [e36] at nb1149; exact (hu_none nb1149).1
  have nb116 : h24 qk81 = none := by have nb1159 := nb115; rw [e32] at nb1159; exact (hu_none nb1159).1
  have nb117 : h20 qk81 = none := by have nb1169 := nb116; rw [e25] at nb1169; exact (hu_none nb1169).1
  have nb118 : h13 qk81 = none := by have nb1179 := nb117; rw [e21] at nb1179; exact (hu_none nb1179).1
  have nb119 : h10 qk81 = none := by have nb1189 := nb118; rw [e14] at nb1189; exact (hu_none nb1189).1
  have nb120 : h7 qk81 = none := by have nb1199 := nb119; rw [e11] at nb1199; exact (hu_none nb1199).1
  have nb121 : h2 qk81 = none := by have nb1209 := nb120; rw [e8] at nb1209; exact (hu_none nb1209).1
  have nb122 : h qk81 = none := by have nb1219 := nb121; rw [e3] at nb1219; exact (hu_none nb1219).1
  have nb123 : h59 qk82 = none := by have nk869 := nk86; rw [e64] at nk869; exact (hu_none nk869).1
  have nb124 : h48 qk82 = none := by have nb1239 := nb123; rw [e60] at nb1239; exact (hu_none nb1239).1
  have nb125 : h44 qk82 = none := by have nb1249 := nb124; rw [e49] at nb1249; exact (hu_none nb1249).1
  have nb126 : h35 qk82 = none := by have nb1259 := nb125; rw [e45] at nb1259; exact (hu_none nb1259).1
  have nb127 : h31 qk82 = none := by have nb1269 := nb126; rw [e36] at nb1269; exact (hu_none nb1269).1
  have nb128 : h24 qk82 = none := by have nb1279 := nb127; rw [e32] at nb1279; exact (hu_none nb1279).1
  have nb129 : h20 qk82 = none := by have nb1289 := nb128; rw [e25] at nb1289; exact (hu_none nb1289).1
  have nb130 : h13 qk82 = none := by have nb1299 := nb129; rw [e21] at nb1299; exact (hu_none nb1299).1
  have nb131 : h10 qk82 = none := by have nb1309 := nb130; rw [e14] at nb1309; exact (hu_none nb1309).1
  have nb132 : h7 qk82 = none := by have nb1319 := nb131; rw [e11] at nb1319; exact (hu_none nb1319).1
  have nb133 : h2 qk82 = none := by have nb1329 := nb132; rw [e8] at nb1329; exact (hu_none nb1329).1
  have nb134 : h qk82 = none := by have nb1339 := nb133; rw [e3] at nb1339; exact (hu_none nb1339).1
  have nb135 : h59 qk83 = none := by have nk879 := nk87; rw [e64] at nk879; exact (hu_none nk879).1
  have nb136 : h48 qk83 = none := by have nb1359 := nb135; rw [e60] at nb1359; exact (hu_none nb1359).1
  have nb137 : h44 qk83 = none := by have nb1369 := nb136; rw [e49] at nb1369; exact (hu_none nb1369).1
  have nb138 : h35 qk83 = none := by have nb1379 := nb137; rw [e45] at nb1379; exact (hu_none nb1379).1
  have nb139 : h31 qk83 = none := by have nb1389 := nb138; rw [e36] at nb1389; exact (hu_none nb1389).1
  have nb140 : h24 qk83 = none := by have nb1399 := nb139; rw [e32] at nb1399; exact (hu_none nb1399).1
  have nb141 : h20 qk83 = none := by have nb1409 := nb140; rw [e25] at nb1409; exact (hu_none nb1409).1
  have nb142 : h13 qk83 = none := by have nb1419 := nb141; rw [e21] at nb1419; exact (hu_none nb1419).1
  have nb143 : h10 qk83 = none := by have nb1429 := nb142; rw [e14] at nb1429; exact (hu_none nb1429).1
  have nb144 : h7 qk83 = none := by have nb1439 := nb143; rw [e11] at nb1439; exact (hu_none nb1439).1
  have nb145 : h2 qk83 = none := by have nb1449 := nb144; rw [e8] at nb1449; exact (hu_none nb1449).1
  have nb146 : h qk83 = none := by have nb1459 := nb145; rw [e3] at nb1459; exact (hu_none nb1459).1
  have f147 : h77 o = some (eO 7 [.ref q1, .ref q23, .ref q34, .ref q47, .null, vI 0, vI 0]) := keep93 o _ ((vnn f61 nq65)) f75
  refine x_putF C f147 (T := TX7) rfl tyX7_ok nmX7 kX7_init_5 4 (by decide) kX7_init_18 rfl rfl rfl (fs' := [.ref q1, .ref q23, .ref q34, .ref q47, .ref q62, vI 0, vI 0]) rfl rfl (by simp) rfl dX7_init_62 (x_hn (fun h148 e149 => ?_))
  have f150 : h148 o = some (eO 7 [.ref q1, .ref q23, .ref q34, .ref q47, .ref q62, vI 0, vI 0]) := by rw [e149]; exact hu_s
  refine x_aload_n C dX7_init_65 0 rfl ?_
  refine x_iconst C dX7_init_66 0 (by decide) ?_
  refine x_put C f150 (T := TX7) rfl tyX7_ok nmX7 kX7_init_5 5 (by decide) kX7_init_19 rfl (fs' := [.ref q1, .ref q23, .ref q34, .ref q47, .ref q62, vI 0, vI 0]) rfl rfl (by simp) rfl dX7_init_67 (x_hn (fun h151 e152 => ?_))
  have f153 : h151 o = some (eO 7 [.ref q1, .ref q23, .ref q34, .ref q47, .ref q62, vI 0, vI 0]) := by rw [e152]; exact hu_s
  refine x_aload_n C dX7_init_70 0 rfl ?_
  refine x_iconst C dX7_init_71 0 (by decide) ?_
  refine x_put C f153 (T := TX7) rfl tyX7_ok nmX7 kX7_init_5 6 (by decide) kX7_init_20 rfl (fs' := [.ref q1, .ref q23, .ref q34, .ref q47, .ref q62, vI 0, vI 0]) rfl rfl (by simp) rfl dX7_init_72 (x_hn (fun h154 e155 => ?_))
  have f156 : h154 o = some (eO 7 [.ref q1, .ref q23, .ref q34, .ref q47, .ref q62, vI 0, vI 0]) := by rw [e155]; exact hu_s
  refine x_iconst C dX7_init_75 0 (by decide) ?_
  refine x_istore_n C (ls' := [(0, .ref o), (1, vI 0)]) dX7_init_76 (by decide) rfl ?_
  refine x_iload_n C dX7_init_77 1 rfl ?_
  refine x_aload_n C dX7_init_78 0 rfl ?_
  refine x_get C (v := .ref q47) f156 (T := TX7) rfl kX7_init_5 3 (by decide) kX7_init_11 rfl dX7_init_79 ?_
  have f157 : h77 q47 = some (eR D 23 6 (fun _ => none)) := keep93 q47 _ ((vnn f74 nq65)) f98
  have f158 : h148 q47 = some (eR D 23 6 (fun _ => none)) := by rw [e149, hu_n (Ne.symm (vnn f46 nq50))]; exact f157
  have f159 : h151 q47 = some (eR D 23 6 (fun _ => none)) := by rw [e152, hu_n (Ne.symm (vnn f46 nq50))]; exact f158
  have f160 : h154 q47 = some (eR D 23 6 (fun _ => none)) := by rw [e155, hu_n (Ne.symm (vnn f46 nq50))]; exact f159
  refine x_alen C f160 (t0 := 3) rfl 6 rfl dX7_init_82 ?_
  refine x_icmp_ge (tgt := 109) C dX7_init_83 (by decide) (by omega) (by omega) (fun c161 => ?_) (fun c161 => ?_)
  · exfalso; omega
  · skip
    refine x_aload_n C dX7_init_86 0 rfl ?_
    refine x_get C (v := .ref q47) f156 (T := TX7) rfl kX7_init_5 3 (by decide) kX7_init_11 rfl dX7_init_87 ?_
    refine x_iload_n C dX7_init_90 1 rfl ?_
    refine x_new C (ci := 4) (T := TX4) (fs := [.null, .null, vI 0, vI 0]) rfl tyX4_ok kX7_init_21 kX7_init_10 kX7_init_22 kX7_init_23 (by intro j hj; rcases (show j = 0 ∨ j = 1 ∨ j = 2 ∨ j = 3 by omega) with rfl | rfl | rfl | rfl <;> rfl) (by decide) (by decide) dX7_init_91 (fun q162 nq165 => x_hn (fun h163 e164 => ?_))
    have nb166 : h151 q162 = none := by have nq1659 := nq165; rw [e155] at nq1659; exact (hu_none nq1659).1
    have nb167 : h148 q162 = none := by have nb1669 := nb166; rw [e152] at nb1669; exact (hu_none nb1669).1
    have nb168 : h77 q162 = none := by have nb1679 := nb167; rw [e149] at nb1679; exact (hu_none nb1679).1
    have nb169 : h63 q162 = none := k_none keep93 fe88 nb168
    have nb170 : h59 q162 = none := by have nb1699 := nb169; rw [e64] at nb1699; exact (hu_none nb1699).1
    have nb171 : h48 q162 = none := by have nb1709 := nb170; rw [e60] at nb1709; exact (hu_none nb1709).1
    have nb172 : h44 q162 = none := by have nb1719 := nb171; rw [e49] at nb1719; exact (hu_none nb1719).1
    have nb173 : h35 q162 = none := by have nb1729 := nb172; rw [e45] at nb1729; exact (hu_none nb1729).1
    have nb174 : h31 q162 = none := by have nb1739 := nb173; rw [e36] at nb1739; exact (hu_none nb1739).1
    have nb175 : h24 q162 = none := by have nb1749 := nb174; rw [e32] at nb1749; exact (hu_none nb1749).1
    have nb176 : h20 q162 = none := by have nb1759 := nb175; rw [e25] at nb1759; exact (hu_none nb1759).1
    have nb177 : h13 q162 = none := by have nb1769 := nb176; rw [e21] at nb1769; exact (hu_none nb1769).1
    have nb178 : h10 q162 = none := by have nb1779 := nb177; rw [e14] at nb1779; exact (hu_none nb1779).1
    have nb179 : h7 q162 = none := by have nb1789 := nb178; rw [e11] at nb1789; exact (hu_none nb1789).1
    have nb180 : h2 q162 = none := by have nb1799 := nb179; rw [e8] at nb1799; exact (hu_none nb1799).1
    have nb181 : h q162 = none := by have nb1809 := nb180; rw [e3] at nb1809; exact (hu_none nb1809).1
    have f182 : h77 q1 = some (eI D 3 (fu (fu (fu (fun _ => 0) (Int.toNat 0) 2) (Int.toNat 1) 3) (Int.toNat 2) 4)) := keep93 q1 _ ((vnn f69 nq65)) f95
    have f183 : h148 q1 = some (eI D 3 (fu (fu (fu (fun _ => 0) (Int.toNat 0) 2) (Int.toNat 1) 3) (Int.toNat 2) 4)) := by rw [e149, hu_n (Ne.symm (vnn ho nq4))]; exact f182
    have f184 : h151 q1 = some (eI D 3 (fu (fu (fu (fun _ => 0) (Int.toNat 0) 2) (Int.toNat 1) 3) (Int.toNat 2) 4)) := by rw [e152, hu_n (Ne.symm (vnn ho nq4))]; exact f183
    have f185 : h154 q1 = some (eI D 3 (fu (fu (fu (fun _ => 0) (Int.toNat 0) 2) (Int.toNat 1) 3) (Int.toNat 2) 4)) := by rw [e155, hu_n (Ne.symm (vnn ho nq4))]; exact f184
    have f186 : h77 q23 = some (eR D 22 12 (fun _ => none)) := keep93 q23 _ ((vnn f71 nq65)) f96
    have f187 : h148 q23 = some (eR D 22 12 (fun _ => none)) := by rw [e149, hu_n (Ne.symm (vnn f22 nq26))]; exact f186
    have f188 : h151 q23 = some (eR D 22 12 (fun _ => none)) := by rw [e152, hu_n (Ne.symm (vnn f22 nq26))]; exact f187
    have f189 : h154 q23 = some (eR D 22 12 (fun _ => none)) := by rw [e155, hu_n (Ne.symm (vnn f22 nq26))]; exact f188
    have f190 : h77 q34 = some (eR D 24 20 (fun _ => none)) := keep93 q34 _ ((vnn f73 nq65)) f97
    have f191 : h148 q34 = some (eR D 24 20 (fun _ => none)) := by rw [e149, hu_n (Ne.symm (vnn f33 nq37))]; exact f190
    have f192 : h151 q34 = some (eR D 24 20 (fun _ => none)) := by rw [e152, hu_n (Ne.symm (vnn f33 nq37))]; exact f191
    have f193 : h154 q34 = some (eR D 24 20 (fun _ => none)) := by rw [e155, hu_n (Ne.symm (vnn f33 nq37))]; exact f192
    have f194 : h148 q62 = some (eO 5 [.ref qk83, .ref qk80, .ref qk81, .ref qk82, vI 0, vI ((0 : Nat) : Int), vI (-1)]) := by rw [e149, hu_n (Ne.symm (vnn f61 nq65))]; exact fe88
    have f195 : h151 q62 = some (eO 5 [.ref qk83, .ref qk80, .ref qk81, .ref qk82, vI 0, vI ((0 : Nat) : Int), vI (-1)]) := by rw [e152, hu_n (Ne.symm (vnn f61 nq65))]; exact f194
    have f196 : h154 q62 = some (eO 5 [.ref qk83, .ref qk80, .ref qk81, .ref qk82, vI 0, vI ((0 : Nat) : Int), vI (-1)]) := by rw [e155, hu_n (Ne.symm (vnn f61 nq65))]; exact f195
    have f197 : h148 qk80 = some (eI D 6144 (fun _ => 0)) := by rw [e149, hu_n (Ne.symm (vnn f75 nk84))]; exact fe89
    have f198 : h151 qk80 = some (eI D 6144 (fun _ => 0)) := by rw [e152, hu_n (Ne.symm (vnn f75 nk84))]; exact f197
    have f199 : h154 qk80 = some (eI D 6144 (fun _ => 0)) := by rw [e155, hu_n (Ne.symm (vnn f75 nk84))]; exact f198
    have f200 : h148 qk81 = some (eI D 6144 (fun _ => 0)) := by rw [e149, hu_n (Ne.symm (vnn f75 nk85))]; exact fe90
    have f201 : h151 qk81 = some (eI D 6144 (fun _ => 0)) := by rw [e152, hu_n (Ne.symm (vnn f75 nk85))]; exact f200
    have f202 : h154 qk81 = some (eI D 6144 (fun _ => 0)) := by rw [e155, hu_n (Ne.symm (vnn f75 nk85))]; exact f201
    have f203 : h148 qk82 = some (eZ D 96 (fun _ => 0)) := by rw [e149, hu_n (Ne.symm (vnn f75 nk86))]; exact fe91
    have f204 : h151 qk82 = some (eZ D 96 (fun _ => 0)) := by rw [e152, hu_n (Ne.symm (vnn f75 nk86))]; exact f203
    have f205 : h154 qk82 = some (eZ D 96 (fun _ => 0)) := by rw [e155, hu_n (Ne.symm (vnn f75 nk86))]; exact f204
    have f206 : h148 qk83 = some (eO 0 [.ref q1, vI 0, vI 0, vI ((0 : Nat) : Int), vI 1]) := by rw [e149, hu_n (Ne.symm (vnn f75 nk87))]; exact fe92
    have f207 : h151 qk83 = some (eO 0 [.ref q1, vI 0, vI 0, vI ((0 : Nat) : Int), vI 1]) := by rw [e152, hu_n (Ne.symm (vnn f75 nk87))]; exact f206
    have f208 : h154 qk83 = some (eO 0 [.ref q1, vI 0, vI 0, vI ((0 : Nat) : Int), vI 1]) := by rw [e155, hu_n (Ne.symm (vnn f75 nk87))]; exact f207
    have f209 : h163 q162 = some (eO 4 [.null, .null, vI 0, vI 0]) := by rw [e164]; exact hu_s
    refine x_dup C dX7_init_94 rfl ?_
    refine x_aload_n C dX7_init_95 0 rfl ?_
    have f210 : h163 o = some (eO 7 [.ref q1, .ref q23, .ref q34, .ref q47, .ref q62, vI 0, vI 0]) := by rw [e164, hu_n (vnn f156 nq165)]; exact f156
    refine x_get C (v := .ref q1) f210 (T := TX7) rfl kX7_init_5 0 (by decide) kX7_init_4 rfl dX7_init_96 ?_
    refine x_callI C (n := 1) (As := [.ref q1]) (rest := [.ref q162, vI 0, .ref q47]) (c_X4_init f209) gX7_init_X4_init kX7_init_23 kX7_init_25 kX7_init_24 rfl (by decide +kernel) rfl rfl rfl (Nat.le_of_ble_eq_true rfl) ⟨by decide, by decide⟩ ⟨(by decide), (by decide)⟩ dX7_init_99 (fun rv211 h212 hp213 => ?_)
    obtain ⟨rfl, qk215, nk216, ⟨fe217, fe218⟩, keep219⟩ := hp213
    have f220 : h163 q1 = some (eI D 3 (fu (fu (fu (fun _ => 0) (Int.toNat 0) 2) (Int.toNat 1) 3) (Int.toNat 2) 4)) := by rw [e164, hu_n (vnn f185 nq165)]; exact f185
    have f221 : h163 q23 = some (eR D 22 12 (fun _ => none)) := by rw [e164, hu_n (vnn f189 nq165)]; exact f189
    have f222 : h163 q34 = some (eR D 24 20 (fun _ => none)) := by rw [e164, hu_n (vnn f193 nq165)]; exact f193
    have f223 : h163 q47 = some (eR D 23 6 (fun _ => none)) := by rw [e164, hu_n (vnn f160 nq165)]; exact f160
    have f224 : h163 q62 = some (eO 5 [.ref qk83, .ref qk80, .ref qk81, .ref qk82, vI 0, vI ((0 : Nat) : Int), vI (-1)]) := by rw [e164, hu_n (vnn f196 nq165)]; exact f196
    have f225 : h163 qk80 = some (eI D 6144 (fun _ => 0)) := by rw [e164, hu_n (vnn f199 nq165)]; exact f199
    have f226 : h163 qk81 = some (eI D 6144 (fun _ => 0)) := by rw [e164, hu_n (vnn f202 nq165)]; exact f202
    have f227 : h163 qk82 = some (eZ D 96 (fun _ => 0)) := by rw [e164, hu_n (vnn f205 nq165)]; exact f205
    have f228 : h163 qk83 = some (eO 0 [.ref q1, vI 0, vI 0, vI ((0 : Nat) : Int), vI 1]) := by rw [e164, hu_n (vnn f208 nq165)]; exact f208
    have nb229 : h154 qk215 = none := by have nk2169 := nk216; rw [e164] at nk2169; exact (hu_none nk2169).1
    have nb230 : h151 qk215 = none := by have nb2299 := nb229; rw [e155] at nb2299; exact (hu_none nb2299).1
    have nb231 : h148 qk215 = none := by have nb2309 := nb230; rw [e152] at nb2309; exact (hu_none nb2309).1
    have nb232 : h77 qk215 = none := by have nb2319 := nb231; rw [e149] at nb2319; exact (hu_none nb2319).1
    have nb233 : h63 qk215 = none := k_none keep93 fe88 nb232
    have nb234 : h59 qk215 = none := by have nb2339 := nb233; rw [e64] at nb2339; exact (hu_none nb2339).1
    have nb235 : h48 qk215 = none := by have nb2349 := nb234; rw [e60] at nb2349; exact (hu_none nb2349).1
    have nb236 : h44 qk215 = none := by have nb2359 := nb235; rw [e49] at nb2359; exact (hu_none nb2359).1
    have nb237 : h35 qk215 = none := by have nb2369 := nb236; rw [e45] at nb2369; exact (hu_none nb2369).1
    have nb238 : h31 qk215 = none := by have nb2379 := nb237; rw [e36] at nb2379; exact (hu_none nb2379).1
    have nb239 : h24 qk215 = none := by have nb2389 := nb238; rw [e32] at nb2389; exact (hu_none nb2389).1
    have nb240 : h20 qk215 = none := by have nb2399 := nb239; rw [e25] at nb2399; exact (hu_none nb2399).1
    have nb241 : h13 qk215 = none := by have nb2409 := nb240; rw [e21] at nb2409; exact (hu_none nb2409).1
    have nb242 : h10 qk215 = none := by have nb2419 := nb241; rw [e14] at nb2419; exact (hu_none nb2419).1
    have nb243 : h7 qk215 = none := by have nb2429 := nb242; rw [e11] at nb2429; exact (hu_none nb2429).1
    have nb244 : h2 qk215 = none := by have nb2439 := nb243; rw [e8] at nb2439; exact (hu_none nb2439).1
    have nb245 : h qk215 = none := by have nb2449 := nb244; rw [e3] at nb2449; exact (hu_none nb2449).1
    have f246 : h212 q47 = some (eR D 23 6 (fun _ => none)) := keep219 q47 _ ((vnn f160 nq165)) f223
    refine x_aast C (t0 := 3) f246 rfl fe217 rfl ⟨by omega, by omega⟩ (by decide) dX7_init_102 (x_hn (fun h247 e248 => ?_))
    have f249 : h247 q47 = some (eR D 23 6 (va_up (fun _ => none) (Int.toNat 0) (some q162))) := by rw [e248]; exact hu_s
    refine x_iinc C (x := 0) (ls' := [(0, .ref o), (1, vI (0 + 1))]) dX7_init_103 1 rfl (by decide) rfl ?_
    refine x_goto (tgt := 77) C dX7_init_106 (by decide) ?_
    refine x_iload_n C dX7_init_77 1 rfl ?_
    refine x_aload_n C dX7_init_78 0 rfl ?_
    have f250 : h212 o = some (eO 7 [.ref q1, .ref q23, .ref q34, .ref q47, .ref q62, vI 0, vI 0]) := keep219 o _ ((vnn f156 nq165)) f210
    have f251 : h247 o = some (eO 7 [.ref q1, .ref q23, .ref q34, .ref q47, .ref q62, vI 0, vI 0]) := by rw [e248, hu_n (vnn f46 nq50)]; exact f250
    refine x_get C (v := .ref q47) f251 (T := TX7) rfl kX7_init_5 3 (by decide) kX7_init_11 rfl dX7_init_79 ?_
    refine x_alen C f249 (t0 := 3) rfl 6 rfl dX7_init_82 ?_
    refine x_icmp_ge (tgt := 109) C dX7_init_83 (by decide) (by omega) (by omega) (fun c252 => ?_) (fun c252 => ?_)
    · exfalso; omega
    · skip
      refine x_aload_n C dX7_init_86 0 rfl ?_
      refine x_get C (v := .ref q47) f251 (T := TX7) rfl kX7_init_5 3 (by decide) kX7_init_11 rfl dX7_init_87 ?_
      refine x_iload_n C dX7_init_90 1 rfl ?_
      refine x_new C (ci := 4) (T := TX4) (fs := [.null, .null, vI 0, vI 0]) rfl tyX4_ok kX7_init_21 kX7_init_10 kX7_init_22 kX7_init_23 (by intro j hj; rcases (show j = 0 ∨ j = 1 ∨ j = 2 ∨ j = 3 by omega) with rfl | rfl | rfl | rfl <;> rfl) (by decide) (by decide) dX7_init_91 (fun q253 nq256 => x_hn (fun h254 e255 => ?_))
      have nb257 : h212 q253 = none := by have nq2569 := nq256; rw [e248] at nq2569; exact (hu_none nq2569).1
      have nb258 : h163 q253 = none := k_none keep219 fe217 nb257
      have nb259 : h154 q253 = none := by have nb2589 := nb258; rw [e164] at nb2589; exact (hu_none nb2589).1
      have nb260 : h151 q253 = none := by have nb2599 := nb259; rw [e155] at nb2599; exact (hu_none nb2599).1
      have nb261 : h148 q253 = none := by have nb2609 := nb260; rw [e152] at nb2609; exact (hu_none nb2609).1
      have nb262 : h77 q253 = none := by have nb2619 := nb261; rw [e149] at nb2619; exact (hu_none nb2619).1
      have nb263 : h63 q253 = none := k_none keep93 fe88 nb262
      have nb264 : h59 q253 = none := by have nb2639 := nb263; rw [e64] at nb2639; exact (hu_none nb2639).1
      have nb265 : h48 q253 = none := by have nb2649 := nb264; rw [e60] at nb2649; exact (hu_none nb2649).1
      have nb266 : h44 q253 = none := by have nb2659 := nb265; rw [e49] at nb2659; exact (hu_none nb2659).1
      have nb267 : h35 q253 = none := by have nb2669 := nb266; rw [e45] at nb2669; exact (hu_none nb2669).1
      have nb268 : h31 q253 = none := by have nb2679 := nb267; rw [e36] at nb2679; exact (hu_none nb2679).1
      have nb269 : h24 q253 = none := by have nb2689 := nb268; rw [e32] at nb2689; exact (hu_none nb2689).1
      have nb270 : h20 q253 = none := by have nb2699 := nb269; rw [e25] at nb2699; exact (hu_none nb2699).1
      have nb271 : h13 q253 = none := by have nb2709 := nb270; rw [e21] at nb2709; exact (hu_none nb2709).1
      have nb272 : h10 q253 = none := by have nb2719 := nb271; rw [e14] at nb2719; exact (hu_none nb2719).1
      have nb273 : h7 q253 = none := by have nb2729 := nb272; rw [e11] at nb2729; exact (hu_none nb2729).1
      have nb274 : h2 q253 = none := by have nb2739 := nb273; rw [e8] at nb2739; exact (hu_none nb2739).1
      have nb275 : h q253 = none := by have nb2749 := nb274; rw [e3] at nb2749; exact (hu_none nb2749).1
      have f276 : h212 q1 = some (eI D 3 (fu (fu (fu (fun _ => 0) (Int.toNat 0) 2) (Int.toNat 1) 3) (Int.toNat 2) 4)) := keep219 q1 _ ((vnn f185 nq165)) f220
      have f277 : h247 q1 = some (eI D 3 (fu (fu (fu (fun _ => 0) (Int.toNat 0) 2) (Int.toNat 1) 3) (Int.toNat 2) 4)) := by rw [e248, hu_n (vnn f54 nq50)]; exact f276
      have f278 : h212 q23 = some (eR D 22 12 (fun _ => none)) := keep219 q23 _ ((vnn f189 nq165)) f221
      have f279 : h247 q23 = some (eR D 22 12 (fun _ => none)) := by rw [e248, hu_n (vnn f56 nq50)]; exact f278
      have f280 : h212 q34 = some (eR D 24 20 (fun _ => none)) := keep219 q34 _ ((vnn f193 nq165)) f222
      have f281 : h247 q34 = some (eR D 24 20 (fun _ => none)) := by rw [e248, hu_n (vnn f57 nq50)]; exact f280
      have f282 : h212 q62 = some (eO 5 [.ref qk83, .ref qk80, .ref qk81, .ref qk82, vI 0, vI ((0 : Nat) : Int), vI (-1)]) := keep219 q62 _ ((vnn f196 nq165)) f224
      have f283 : h247 q62 = some (eO 5 [.ref qk83, .ref qk80, .ref qk81, .ref qk82, vI 0, vI ((0 : Nat) : Int), vI (-1)]) := by rw [e248, hu_n (Ne.symm (vnn f74 nq65))]; exact f282
      have f284 : h212 qk80 = some (eI D 6144 (fun _ => 0)) := keep219 qk80 _ ((vnn f199 nq165)) f225
      have f285 : h247 qk80 = some (eI D 6144 (fun _ => 0)) := by rw [e248, hu_n (Ne.symm (vnn f98 nk84))]; exact f284
      have f286 : h212 qk81 = some (eI D 6144 (fun _ => 0)) := keep219 qk81 _ ((vnn f202 nq165)) f226
      have f287 : h247 qk81 = some (eI D 6144 (fun _ => 0)) := by rw [e248, hu_n (Ne.symm (vnn f98 nk85))]; exact f286
      have f288 : h212 qk82 = some (eZ D 96 (fun _ => 0)) := keep219 qk82 _ ((vnn f205 nq165)) f227
      have f289 : h247 qk82 = some (eZ D 96 (fun _ => 0)) := by rw [e248, hu_n (Ne.symm (vnn f98 nk86))]; exact f288
      have f290 : h212 qk83 = some (eO 0 [.ref q1, vI 0, vI 0, vI ((0 : Nat) : Int), vI 1]) := keep219 qk83 _ ((vnn f208 nq165)) f228
      have f291 : h247 qk83 = some (eO 0 [.ref q1, vI 0, vI 0, vI ((0 : Nat) : Int), vI 1]) := by rw [e248, hu_n (Ne.symm (vnn f98 nk87))]; exact f290
      have f292 : h247 q162 = some (eO 4 [.ref qk215, .null, vI 0, vI 0]) := by rw [e248, hu_n (Ne.symm (vnn f160 nq165))]; exact fe217
      have f293 : h247 qk215 = some (eO 0 [.ref q1, vI 0, vI 0, vI ((0 : Nat) : Int), vI 1]) := by rw [e248, hu_n (Ne.symm (vnn f223 nk216))]; exact fe218
      have f294 : h254 q253 = some (eO 4 [.null, .null, vI 0, vI 0]) := by rw [e255]; exact hu_s
      refine x_dup C dX7_init_94 rfl ?_
      refine x_aload_n C dX7_init_95 0 rfl ?_
      have f295 : h254 o = some (eO 7 [.ref q1, .ref q23, .ref q34, .ref q47, .ref q62, vI 0, vI 0]) := by rw [e255, hu_n (vnn f251 nq256)]; exact f251
      refine x_get C (v := .ref q1) f295 (T := TX7) rfl kX7_init_5 0 (by decide) kX7_init_4 rfl dX7_init_96 ?_
      refine x_callI C (n := 1) (As := [.ref q1]) (rest := [.ref q253, vI (0 + 1), .ref q47]) (c_X4_init f294) gX7_init_X4_init kX7_init_23 kX7_init_25 kX7_init_24 rfl (by decide +kernel) rfl rfl rfl (Nat.le_of_ble_eq_true rfl) ⟨by decide, by decide⟩ ⟨(by decide), (by decide)⟩ dX7_init_99 (fun rv296 h297 hp298 => ?_)
      obtain ⟨rfl, qk300, nk301, ⟨fe302, fe303⟩, keep304⟩ := hp298
      have f305 : h254 q1 = some (eI D 3 (fu (fu (fu (fun _ => 0) (Int.toNat 0) 2) (Int.toNat 1) 3) (Int.toNat 2) 4)) := by rw [e255, hu_n (vnn f277 nq256)]; exact f277
      have f306 : h254 q23 = some (eR D 22 12 (fun _ => none)) := by rw [e255, hu_n (vnn f279 nq256)]; exact f279
      have f307 : h254 q34 = some (eR D 24 20 (fun _ => none)) := by rw [e255, hu_n (vnn f281 nq256)]; exact f281
      have f308 : h254 q47 = some (eR D 23 6 (va_up (fun _ => none) (Int.toNat 0) (some q162))) := by rw [e255, hu_n (vnn f249 nq256)]; exact f249
      have f309 : h254 q62 = some (eO 5 [.ref qk83, .ref qk80, .ref qk81, .ref qk82, vI 0, vI ((0 : Nat) : Int), vI (-1)]) := by rw [e255, hu_n (vnn f283 nq256)]; exact f283
      have f310 : h254 qk80 = some (eI D 6144 (fun _ => 0)) := by rw [e255, hu_n (vnn f285 nq256)]; exact f285
      have f311 : h254 qk81 = some (eI D 6144 (fun _ => 0)) := by rw [e255, hu_n (vnn f287 nq256)]; exact f287
      have f312 : h254 qk82 = some (eZ D 96 (fun _ => 0)) := by rw [e255, hu_n (vnn f289 nq256)]; exact f289
      have f313 : h254 qk83 = some (eO 0 [.ref q1, vI 0, vI 0, vI ((0 : Nat) : Int), vI 1]) := by rw [e255, hu_n (vnn f291 nq256)]; exact f291
      have f314 : h254 q162 = some (eO 4 [.ref qk215, .null, vI 0, vI 0]) := by rw [e255, hu_n (vnn f292 nq256)]; exact f292
      have f315 : h254 qk215 = some (eO 0 [.ref q1, vI 0, vI 0, vI ((0 : Nat) : Int), vI 1]) := by rw [e255, hu_n (vnn f293 nq256)]; exact f293
      have nb316 : h247 qk300 = none := by have nk3019 := nk301; rw [e255] at nk3019; exact (hu_none nk3019).1
      have nb317 : h212 qk300 = none := by have nb3169 := nb316; rw [e248] at nb3169; exact (hu_none nb3169).1
      have nb318 : h163 qk300 = none := k_none keep219 fe217 nb317
      have nb319 : h154 qk300 = none := by have nb3189 := nb318; rw [e164] at nb3189; exact (hu_none nb3189).1
      have nb320 : h151 qk300 = none := by have nb3199 := nb319; rw [e155] at nb3199; exact (hu_none nb3199).1
      have nb321 : h148 qk300 = none := by have nb3209 := nb320; rw [e152] at nb3209; exact (hu_none nb3209).1
      have nb322 : h77 qk300 = none := by have nb3219 := nb321; rw [e149] at nb3219; exact (hu_none nb3219).1
      have nb323 : h63 qk300 = none := k_none keep93 fe88 nb322
      have nb324 : h59 qk300 = none := by have nb3239 := nb323; rw [e64] at nb3239; exact (hu_none nb3239).1
      have nb325 : h48 qk300 = none := by have nb3249 := nb324; rw [e60] at nb3249; exact (hu_none nb3249).1
      have nb326 : h44 qk300 = none := by have nb3259 := nb325; rw [e49] at nb3259; exact (hu_none nb3259).1
      have nb327 : h35 qk300 = none := by have nb3269 := nb326; rw [e45] at nb3269; exact (hu_none nb3269).1
      have nb328 : h31 qk300 = none := by have nb3279 := nb327; rw [e36] at nb3279; exact (hu_none nb3279).1
      have nb329 : h24 qk300 = none := by have nb3289 := nb328; rw [e32] at nb3289; exact (hu_none nb3289).1
      have nb330 : h20 qk300 = none := by have nb3299 := nb329; rw [e25] at nb3299; exact (hu_none nb3299).1
      have nb331 : h13 qk300 = none := by have nb3309 := nb330; rw [e21] at nb3309; exact (hu_none nb3309).1
      have nb332 : h10 qk300 = none := by have nb3319 := nb331; rw [e14] at nb3319; exact (hu_none nb3319).1
      have nb333 : h7 qk300 = none := by have nb3329 := nb332; rw [e11] at nb3329; exact (hu_none nb3329).1
      have nb334 : h2 qk300 = none := by have nb3339 := nb333; rw [e8] at nb3339; exact (hu_none nb3339).1
      have nb335 : h qk300 = none := by have nb3349 := nb334; rw [e3] at nb3349; exact (hu_none nb3349).1
      have f336 : h297 q47 = some (eR D 23 6 (va_up (fun _ => none) (Int.toNat 0) (some q162))) := keep304 q47 _ ((vnn f249 nq256)) f308
      refine x_aast C (t0 := 3) f336 rfl fe302 rfl ⟨by omega, by omega⟩ (by decide) dX7_init_102 (x_hn (fun h337 e338 => ?_))
      have f339 : h337 q47 = some (eR D 23 6 (va_up (va_up (fun _ => none) (Int.toNat 0) (some q162)) (Int.toNat (0 + 1)) (some q253))) := by rw [e338]; exact hu_s
      refine x_iinc C (x := 0 + 1) (ls' := [(0, .ref o), (1, vI ((0 + 1) + 1))]) dX7_init_103 1 rfl (by decide) rfl ?_
      refine x_goto (tgt := 77) C dX7_init_106 (by decide) ?_
      refine x_iload_n C dX7_init_77 1 rfl ?_
      refine x_aload_n C dX7_init_78 0 rfl ?_
      have f340 : h297 o = some (eO 7 [.ref q1, .ref q23, .ref q34, .ref q47, .ref q62, vI 0, vI 0]) := keep304 o _ ((vnn f251 nq256)) f295
      have f341 : h337 o = some (eO 7 [.ref q1, .ref q23, .ref q34, .ref q47, .ref q62, vI 0, vI 0]) := by rw [e338, hu_n (vnn f46 nq50)]; exact f340
      refine x_get C (v := .ref q47) f341 (T := TX7) rfl kX7_init_5 3 (by decide) kX7_init_11 rfl dX7_init_79 ?_
      refine x_alen C f339 (t0 := 3) rfl 6 rfl dX7_init_82 ?_
      refine x_icmp_ge (tgt := 109) C dX7_init_83 (by decide) (by omega) (by omega) (fun c342 => ?_) (fun c342 => ?_)
      · exfalso; omega
      · skip
        refine x_aload_n C dX7_init_86 0 rfl ?_
        refine x_get C (v := .ref q47) f341 (T := TX7) rfl kX7_init_5 3 (by decide) kX7_init_11 rfl dX7_init_87 ?_
        refine x_iload_n C dX7_init_90 1 rfl ?_
        refine x_new C (ci := 4) (T := TX4) (fs := [.null, .null, vI 0, vI 0]) rfl tyX4_ok kX7_init_21 kX7_init_10 kX7_init_22 kX7_init_23 (by intro j hj; rcases (show j = 0 ∨ j = 1 ∨ j = 2 ∨ j = 3 by omega) with rfl | rfl | rfl | rfl <;> rfl) (by decide) (by decide) dX7_init_91 (fun q343 nq346 => x_hn (fun h344 e345 => ?_))
        have nb347 : h297 q343 = none := by have nq3469 := nq346; rw [e338] at nq3469; exact (hu_none nq3469).1
        have nb348 : h254 q343 = none := k_none keep304 fe302 nb347
        have nb349 : h247 q343 = none := by have nb3489 := nb348; rw [e255] at nb3489; exact (hu_none nb3489).1
        have nb350 : h212 q343 = none := by have nb3499 := nb349; rw [e248] at nb3499; exact (hu_none nb3499).1
        have nb351 : h163 q343 = none := k_none keep219 fe217 nb350
        have nb352 : h154 q343 = none := by have nb3519 := nb351; rw [e164] at nb3519; exact (hu_none nb3519).1
        have nb353 : h151 q343 = none := by have nb3529 := nb352; rw [e155] at nb3529; exact (hu_none nb3529).1
        have nb354 : h148 q343 = none := by have nb3539 := nb353; rw [e152] at nb3539; exact (hu_none nb3539).1
        have nb355 : h77 q343 = none := by have nb3549 := nb354; rw [e149] at nb3549; exact (hu_none nb3549).1
        have nb356 : h63 q343 = none := k_none keep93 fe88 nb355
        have nb357 : h59 q343 = none := by have nb3569 := nb356; rw [e64] at nb3569; exact (hu_none nb3569).1
        have nb358 : h48 q343 = none := by have nb3579 := nb357; rw [e60] at nb3579; exact (hu_none nb3579).1
        have nb359 : h44 q343 = none := by have nb3589 := nb358; rw [e49] at nb3589; exact (hu_none nb3589).1
        have nb360 : h35 q343 = none := by have nb3599 := nb359; rw [e45] at nb3599; exact (hu_none nb3599).1
        have nb361 : h31 q343 = none := by have nb3609 := nb360; rw [e36] at nb3609; exact (hu_none nb3609).1
        have nb362 : h24 q343 = none := by have nb3619 := nb361; rw [e32] at nb3619; exact (hu_none nb3619).1
        have nb363 : h20 q343 = none := by have nb3629 := nb362; rw [e25] at nb3629; exact (hu_none nb3629).1
        have nb364 : h13 q343 = none := by have nb3639 := nb363; rw [e21] at nb3639; exact (hu_none nb3639).1
        have nb365 : h10 q343 = none := by have nb3649 := nb364; rw [e14] at nb3649; exact (hu_none nb3649).1
        have nb366 : h7 q343 = none := by have nb3659 := nb365; rw [e11] at nb3659; exact (hu_none nb3659).1
        have nb367 : h2 q343 = none := by have nb3669 := nb366; rw [e8] at nb3669; exact (hu_none nb3669).1
        have nb368 : h q343 = none := by have nb3679 := nb367; rw [e3] at nb3679; exact (hu_none nb3679).1
        have f369 : h297 q1 = some (eI D 3 (fu (fu (fu (fun _ => 0) (Int.toNat 0) 2) (Int.toNat 1) 3) (Int.toNat 2) 4)) := keep304 q1 _ ((vnn f277 nq256)) f305
        have f370 : h337 q1 = some (eI D 3 (fu (fu (fu (fun _ => 0) (Int.toNat 0) 2) (Int.toNat 1) 3) (Int.toNat 2) 4)) := by rw [e338, hu_n (vnn f54 nq50)]; exact f369
        have f371 : h297 q23 = some (eR D 22 12 (fun _ => none)) := keep304 q23 _ ((vnn f279 nq256)) f306
        have f372 : h337 q23 = some (eR D 22 12 (fun _ => none)) := by rw [e338, hu_n (vnn f56 nq50)]; exact f371
        have f373 : h297 q34 = some (eR D 24 20 (fun _ => none)) := keep304 q34 _ ((vnn f281 nq256)) f307
        have f374 : h337 q34 = some (eR D 24 20 (fun _ => none)) := by rw [e338, hu_n (vnn f57 nq50)]; exact f373
        have f375 : h297 q62 = some (eO 5 [.ref qk83, .ref qk80, .ref qk81, .ref qk82, vI 0, vI ((0 : Nat) : Int), vI (-1)]) := keep304 q62 _ ((vnn f283 nq256)) f309
        have f376 : h337 q62 = some (eO 5 [.ref qk83, .ref qk80, .ref qk81, .ref qk82, vI 0, vI ((0 : Nat) : Int), vI (-1)]) := by rw [e338, hu_n (Ne.symm (vnn f74 nq65))]; exact f375
        have f377 : h297 qk80 = some (eI D 6144 (fun _ => 0)) := keep304 qk80 _ ((vnn f285 nq256)) f310
        have f378 : h337 qk80 = some (eI D 6144 (fun _ => 0)) := by rw [e338, hu_n (Ne.symm (vnn f98 nk84))]; exact f377
        have f379 : h297 qk81 = some (eI D 6144 (fun _ => 0)) := keep304 qk81 _ ((vnn f287 nq256)) f311
        have f380 : h337 qk81 = some (eI D 6144 (fun _ => 0)) := by rw [e338, hu_n (Ne.symm (vnn f98 nk85))]; exact f379
        have f381 : h297 qk82 = some (eZ D 96 (fun _ => 0)) := keep304 qk82 _ ((vnn f289 nq256)) f312
        have f382 : h337 qk82 = some (eZ D 96 (fun _ => 0)) := by rw [e338, hu_n (Ne.symm (vnn f98 nk86))]; exact f381
        have f383 : h297 qk83 = some (eO 0 [.ref q1, vI 0, vI 0, vI ((0 : Nat) : Int), vI 1]) := keep304 qk83 _ ((vnn f291 nq256)) f313
        have f384 : h337 qk83 = some (eO 0 [.ref q1, vI 0, vI 0, vI ((0 : Nat) : Int), vI 1]) := by rw [e338, hu_n (Ne.symm (vnn f98 nk87))]; exact f383
        have f385 : h297 q162 = some (eO 4 [.ref qk215, .null, vI 0, vI 0]) := keep304 q162 _ ((vnn f292 nq256)) f314
        have f386 : h337 q162 = some (eO 4 [.ref qk215, .null, vI 0, vI 0]) := by rw [e338, hu_n (Ne.symm (vnn f160 nq165))]; exact f385
        have f387 : h297 qk215 = some (eO 0 [.ref q1, vI 0, vI 0, vI ((0 : Nat) : Int), vI 1]) := keep304 qk215 _ ((vnn f293 nq256)) f315
        have f388 : h337 qk215 = some (eO 0 [.ref q1, vI 0, vI 0, vI ((0 : Nat) : Int), vI 1]) := by rw [e338, hu_n (Ne.symm (vnn f223 nk216))]; exact f387
        have f389 : h337 q253 = some (eO 4 [.ref qk300, .null, vI 0, vI 0]) := by rw [e338, hu_n (Ne.symm (vnn f249 nq256))]; exact fe302
        have f390 : h337 qk300 = some (eO 0 [.ref q1, vI 0, vI 0, vI ((0 : Nat) : Int), vI 1]) := by rw [e338, hu_n (Ne.symm (vnn f308 nk301))]; exact fe303
        have f391 : h344 q343 = some (eO 4 [.null, .null, vI 0, vI 0]) := by rw [e345]; exact hu_s
        refine x_dup C dX7_init_94 rfl ?_
        refine x_aload_n C dX7_init_95 0 rfl ?_
        have f392 : h344 o = some (eO 7 [.ref q1, .ref q23, .ref q34, .ref q47, .ref q62, vI 0, vI 0]) := by rw [e345, hu_n (vnn f341 nq346)]; exact f341
        refine x_get C (v := .ref q1) f392 (T := TX7) rfl kX7_init_5 0 (by decide) kX7_init_4 rfl dX7_init_96 ?_
        refine x_callI C (n := 1) (As := [.ref q1]) (rest := [.ref q343, vI ((0 + 1) + 1), .ref q47]) (c_X4_init f391) gX7_init_X4_init kX7_init_23 kX7_init_25 kX7_init_24 rfl (by decide +kernel) rfl rfl rfl (Nat.le_of_ble_eq_true rfl) ⟨by decide, by decide⟩ ⟨(by decide), (by decide)⟩ dX7_init_99 (fun rv393 h394 hp395 => ?_)
        obtain ⟨rfl, qk397, nk398, ⟨fe399, fe400⟩, keep401⟩ := hp395
        have f402 : h344 q1 = some (eI D 3 (fu (fu (fu (fun _ => 0) (Int.toNat 0) 2) (Int.toNat 1) 3) (Int.toNat 2) 4)) := by rw [e345, hu_n (vnn f370 nq346)]; exact f370
        have f403 : h344 q23 = some (eR D 22 12 (fun _ => none)) := by rw [e345, hu_n (vnn f372 nq346)]; exact f372
        have f404 : h344 q34 = some (eR D 24 20 (fun _ => none)) := by rw [e345, hu_n (vnn f374 nq346)]; exact f374
        have f405 : h344 q47 = some (eR D 23 6 (va_up (va_up (fun _ => none) (Int.toNat 0) (some q162)) (Int.toNat (0 + 1)) (some q253))) := by rw [e345, hu_n (vnn f339 nq346)]; exact f339
        have f406 : h344 q62 = some (eO 5 [.ref qk83, .ref qk80, .ref qk81, .ref qk82, vI 0, vI ((0 : Nat) : Int), vI (-1)]) := by rw [e345, hu_n (vnn f376 nq346)]; exact f376
        have f407 : h344 qk80 = some (eI D 6144 (fun _ => 0)) := by rw [e345, hu_n (vnn f378 nq346)]; exact f378
        have f408 : h344 qk81 = some (eI D 6144 (fun _ => 0)) := by rw [e345, hu_n (vnn f380 nq346)]; exact f380
        have f409 : h344 qk82 = some (eZ D 96 (fun _ => 0)) := by rw [e345, hu_n (vnn f382 nq346)]; exact f382
        have f410 : h344 qk83 = some (eO 0 [.ref q1, vI 0, vI 0, vI ((0 : Nat) : Int), vI 1]) := by rw [e345, hu_n (vnn f384 nq346)]; exact f384
        have f411 : h344 q162 = some (eO 4 [.ref qk215, .null, vI 0, vI 0]) := by rw [e345, hu_n (vnn f386 nq346)]; exact f386
        have f412 : h344 qk215 = some (eO 0 [.ref q1, vI 0, vI 0, vI ((0 : Nat) : Int), vI 1]) := by rw [e345, hu_n (vnn f388 nq346)]; exact f388
        have f413 : h344 q253 = some (eO 4 [.ref qk300, .null, vI 0, vI 0]) := by rw [e345, hu_n (vnn f389 nq346)]; exact f389
        have f414 : h344 qk300 = some (eO 0 [.ref q1, vI 0, vI 0, vI ((0 : Nat) : Int), vI 1]) := by rw [e345, hu_n (vnn f390 nq346)]; exact f390
        have nb415 : h337 qk397 = none := by have nk3989 := nk398; rw [e345] at nk3989; exact (hu_none nk3989).1
        have nb416 : h297 qk397 = none := by have nb4159 := nb415; rw [e338] at nb4159; exact (hu_none nb4159).1
        have nb417 : h254 qk397 = none := k_none keep304 fe302 nb416
        have nb418 : h247 qk397 = none := by have nb4179 := nb417; rw [e255] at nb4179; exact (hu_none nb4179).1
        have nb419 : h212 qk397 = none := by have nb4189 := nb418; rw [e248] at nb4189; exact (hu_none nb4189).1
        have nb420 : h163 qk397 = none := k_none keep219 fe217 nb419
        have nb421 : h154 qk397 = none := by have nb4209 := nb420; rw [e164] at nb4209; exact (hu_none nb4209).1
        have nb422 : h151 qk397 = none := by have nb4219 := nb421; rw [e155] at nb4219; exact (hu_none nb4219).1
        have nb423 : h148 qk397 = none := by have nb4229 := nb422; rw [e152] at nb4229; exact (hu_none nb4229).1
        have nb424 : h77 qk397 = none := by have nb4239 := nb423; rw [e149] at nb4239; exact (hu_none nb4239).1
        have nb425 : h63 qk397 = none := k_none keep93 fe88 nb424
        have nb426 : h59 qk397 = none := by have nb4259 := nb425; rw [e64] at nb4259; exact (hu_none nb4259).1
        have nb427 : h48 qk397 = none := by have nb4269 := nb426; rw [e60] at nb4269; exact (hu_none nb4269).1
        have nb428 : h44 qk397 = none := by have nb4279 := nb427; rw [e49] at nb4279; exact (hu_none nb4279).1
        have nb429 : h35 qk397 = none := by have nb4289 := nb428; rw [e45] at nb4289; exact (hu_none nb4289).1
        have nb430 : h31 qk397 = none := by have nb4299 := nb429; rw [e36] at nb4299; exact (hu_none nb4299).1
        have nb431 : h24 qk397 = none := by have nb4309 := nb430; rw [e32] at nb4309; exact (hu_none nb4309).1
        have nb432 : h20 qk397 = none := by have nb4319 := nb431; rw [e25] at nb4319; exact (hu_none nb4319).1
        have nb433 : h13 qk397 = none := by have nb4329 := nb432; rw [e21] at nb4329; exact (hu_none nb4329).1
        have nb434 : h10 qk397 = none := by have nb4339 := nb433; rw [e14] at nb4339; exact (hu_none nb4339).1
        have nb435 : h7 qk397 = none := by have nb4349 := nb434; rw [e11] at nb4349; exact (hu_none nb4349).1
        have nb436 : h2 qk397 = none := by have nb4359 := nb435; rw [e8] at nb4359; exact (hu_none nb4359).1
        have nb437 : h qk397 = none := by have nb4369 := nb436; rw [e3] at nb4369; exact (hu_none nb4369).1
        have f438 : h394 q47 = some (eR D 23 6 (va_up (va_up (fun _ => none) (Int.toNat 0) (some q162)) (Int.toNat (0 + 1)) (some q253))) := keep401 q47 _ ((vnn f339 nq346)) f405
        refine x_aast C (t0 := 3) f438 rfl fe399 rfl ⟨by omega, by omega⟩ (by decide) dX7_init_102 (x_hn (fun h439 e440 => ?_))
        have f441 : h439 q47 = some (eR D 23 6 (va_up (va_up (va_up (fun _ => none) (Int.toNat 0) (some q162)) (Int.toNat (0 + 1)) (some q253)) (Int.toNat ((0 + 1) + 1)) (some q343))) := by rw [e440]; exact hu_s
        refine x_iinc C (x := (0 + 1) + 1) (ls' := [(0, .ref o), (1, vI (((0 + 1) + 1) + 1))]) dX7_init_103 1 rfl (by decide) rfl ?_
        refine x_goto (tgt := 77) C dX7_init_106 (by decide) ?_
        refine x_iload_n C dX7_init_77 1 rfl ?_
        refine x_aload_n C dX7_init_78 0 rfl ?_
        have f442 : h394 o = some (eO 7 [.ref q1, .ref q23, .ref q34, .ref q47, .ref q62, vI 0, vI 0]) := keep401 o _ ((vnn f341 nq346)) f392
        have f443 : h439 o = some (eO 7 [.ref q1, .ref q23, .ref q34, .ref q47, .ref q62, vI 0, vI 0]) := by rw [e440, hu_n (vnn f46 nq50)]; exact f442
        refine x_get C (v := .ref q47) f443 (T := TX7) rfl kX7_init_5 3 (by decide) kX7_init_11 rfl dX7_init_79 ?_
        refine x_alen C f441 (t0 := 3) rfl 6 rfl dX7_init_82 ?_
        refine x_icmp_ge (tgt := 109) C dX7_init_83 (by decide) (by omega) (by omega) (fun c444 => ?_) (fun c444 => ?_)
        · exfalso; omega
        · skip
          refine x_aload_n C dX7_init_86 0 rfl ?_
          refine x_get C (v := .ref q47) f443 (T := TX7) rfl kX7_init_5 3 (by decide) kX7_init_11 rfl dX7_init_87 ?_
          refine x_iload_n C dX7_init_90 1 rfl ?_
          refine x_new C (ci := 4) (T := TX4) (fs := [.null, .null, vI 0, vI 0]) rfl tyX4_ok kX7_init_21 kX7_init_10 kX7_init_22 kX7_init_23 (by intro j hj; rcases (show j = 0 ∨ j = 1 ∨ j = 2 ∨ j = 3 by omega) with rfl | rfl | rfl | rfl <;> rfl) (by decide) (by decide) dX7_init_91 (fun q445 nq448 => x_hn (fun h446 e447 => ?_))
          have nb449 : h394 q445 = none := by have nq4489 := nq448; rw [e440] at nq4489; exact (hu_none nq4489).1
          have nb450 : h344 q445 = none := k_none keep401 fe399 nb449
          have nb451 : h337 q445 = none := by have nb4509 := nb450; rw [e345] at nb4509; exact (hu_none nb4509).1
          have nb452 : h297 q445 = none := by have nb4519 := nb451; rw [e338] at nb4519; exact (hu_none nb4519).1
          have nb453 : h254 q445 = none := k_none keep304 fe302 nb452
          have nb454 : h247 q445 = none := by have nb4539 := nb453; rw [e255] at nb4539; exact (hu_none nb4539).1
          have nb455 : h212 q445 = none := by have nb4549 := nb454; rw [e248] at nb4549; exact (hu_none nb4549).1
          have nb456 : h163 q445 = none := k_none keep219 fe217 nb455
          have nb457 : h154 q445 = none := by have nb4569 := nb456; rw [e164] at nb4569; exact (hu_none nb4569).1
          have nb458 : h151 q445 = none := by have nb4579 := nb457; rw [e155] at nb4579; exact (hu_none nb4579).1
          have nb459 : h148 q445 = none := by have nb4589 := nb458; rw [e152] at nb4589; exact (hu_none nb4589).1
          have nb460 : h77 q445 = none := by have nb4599 := nb459; rw [e149] at nb4599; exact (hu_none nb4599).1
          have nb461 : h63 q445 = none := k_none keep93 fe88 nb460
          have nb462 : h59 q445 = none := by have nb4619 := nb461; rw [e64] at nb4619; exact (hu_none nb4619).1
          have nb463 : h48 q445 = none := by have nb4629 := nb462; rw [e60] at nb4629; exact (hu_none nb4629).1
          have nb464 : h44 q445 = none := by have nb4639 := nb463; rw [e49] at nb4639; exact (hu_none nb4639).1
          have nb465 : h35 q445 = none := by have nb4649 := nb464; rw [e45] at nb4649; exact (hu_none nb4649).1
          have nb466 : h31 q445 = none := by have nb4659 := nb465; rw [e36] at nb4659; exact (hu_none nb4659).1
          have nb467 : h24 q445 = none := by have nb4669 := nb466; rw [e32] at nb4669; exact (hu_none nb4669).1
          have nb468 : h20 q445 = none := by have nb4679 := nb467; rw [e25] at nb4679; exact (hu_none nb4679).1
          have nb469 : h13 q445 = none := by have nb4689 := nb468; rw [e21] at nb4689; exact (hu_none nb4689).1
          have nb470 : h10 q445 = none := by have nb4699 := nb469; rw [e14] at nb4699; exact (hu_none nb4699).1
          have nb471 : h7 q445 = none := by have nb4709 := nb470; rw [e11] at nb4709; exact (hu_none nb4709).1
          have nb472 : h2 q445 = none := by have nb4719 := nb471; rw [e8] at nb4719; exact (hu_none nb4719).1
          have nb473 : h q445 = none := by have nb4729 := nb472; rw [e3] at nb4729; exact (hu_none nb4729).1
          have f474 : h394 q1 = some (eI D 3 (fu (fu (fu (fun _ => 0) (Int.toNat 0) 2) (Int.toNat 1) 3) (Int.toNat 2) 4)) := keep401 q1 _ ((vnn f370 nq346)) f402
          have f475 : h439 q1 = some (eI D 3 (fu (fu (fu (fun _ => 0) (Int.toNat 0) 2) (Int.toNat 1) 3) (Int.toNat 2) 4)) := by rw [e440, hu_n (vnn f54 nq50)]; exact f474
          have f476 : h394 q23 = some (eR D 22 12 (fun _ => none)) := keep401 q23 _ ((vnn f372 nq346)) f403
          have f477 : h439 q23 = some (eR D 22 12 (fun _ => none)) := by rw [e440, hu_n (vnn f56 nq50)]; exact f476
          have f478 : h394 q34 = some (eR D 24 20 (fun _ => none)) := keep401 q34 _ ((vnn f374 nq346)) f404
          have f479 : h439 q34 = some (eR D 24 20 (fun _ => none)) := by rw [e440, hu_n (vnn f57 nq50)]; exact f478
          have f480 : h394 q62 = some (eO 5 [.ref qk83, .ref qk80, .ref qk81, .ref qk82, vI 0, vI ((0 : Nat) : Int), vI (-1)]) := keep401 q62 _ ((vnn f376 nq346)) f406
          have f481 : h439 q62 = some (eO 5 [.ref qk83, .ref qk80, .ref qk81, .ref qk82, vI 0, vI ((0 : Nat) : Int), vI (-1)]) := by rw [e440, hu_n (Ne.symm (vnn f74 nq65))]; exact f480
          have f482 : h394 qk80 = some (eI D 6144 (fun _ => 0)) := keep401 qk80 _ ((vnn f378 nq346)) f407
          have f483 : h439 qk80 = some (eI D 6144 (fun _ => 0)) := by rw [e440, hu_n (Ne.symm (vnn f98 nk84))]; exact f482
          have f484 : h394 qk81 = some (eI D 6144 (fun _ => 0)) := keep401 qk81 _ ((vnn f380 nq346)) f408
          have f485 : h439 qk81 = some (eI D 6144 (fun _ => 0)) := by rw [e440, hu_n (Ne.symm (vnn f98 nk85))]; exact f484
          have f486 : h394 qk82 = some (eZ D 96 (fun _ => 0)) := keep401 qk82 _ ((vnn f382 nq346)) f409
          have f487 : h439 qk82 = some (eZ D 96 (fun _ => 0)) := by rw [e440, hu_n (Ne.symm (vnn f98 nk86))]; exact f486
          have f488 : h394 qk83 = some (eO 0 [.ref q1, vI 0, vI 0, vI ((0 : Nat) : Int), vI 1]) := keep401 qk83 _ ((vnn f384 nq346)) f410
          have f489 : h439 qk83 = some (eO 0 [.ref q1, vI 0, vI 0, vI ((0 : Nat) : Int), vI 1]) := by rw [e440, hu_n (Ne.symm (vnn f98 nk87))]; exact f488
          have f490 : h394 q162 = some (eO 4 [.ref qk215, .null, vI 0, vI 0]) := keep401 q162 _ ((vnn f386 nq346)) f411
          have f491 : h439 q162 = some (eO 4 [.ref qk215, .null, vI 0, vI 0]) := by rw [e440, hu_n (Ne.symm (vnn f160 nq165))]; exact f490
          have f492 : h394 qk215 = some (eO 0 [.ref q1, vI 0, vI 0, vI ((0 : Nat) : Int), vI 1]) := keep401 qk215 _ ((vnn f388 nq346)) f412
          have f493 : h439 qk215 = some (eO 0 [.ref q1, vI 0, vI 0, vI ((0 : Nat) : Int), vI 1]) := by rw [e440, hu_n (Ne.symm (vnn f223 nk216))]; exact f492
          have f494 : h394 q253 = some (eO 4 [.ref qk300, .null, vI 0, vI 0]) := keep401 q253 _ ((vnn f389 nq346)) f413
          have f495 : h439 q253 = some (eO 4 [.ref qk300, .null, vI 0, vI 0]) := by rw [e440, hu_n (Ne.symm (vnn f249 nq256))]; exact f494
          have f496 : h394 qk300 = some (eO 0 [.ref q1, vI 0, vI 0, vI ((0 : Nat) : Int), vI 1]) := keep401 qk300 _ ((vnn f390 nq346)) f414
          have f497 : h439 qk300 = some (eO 0 [.ref q1, vI 0, vI 0, vI ((0 : Nat) : Int), vI 1]) := by rw [e440, hu_n (Ne.symm (vnn f308 nk301))]; exact f496
          have f498 : h439 q343 = some (eO 4 [.ref qk397, .null, vI 0, vI 0]) := by rw [e440, hu_n (Ne.symm (vnn f339 nq346))]; exact fe399
          have f499 : h439 qk397 = some (eO 0 [.ref q1, vI 0, vI 0, vI ((0 : Nat) : Int), vI 1]) := by rw [e440, hu_n (Ne.symm (vnn f405 nk398))]; exact fe400
          have f500 : h446 q445 = some (eO 4 [.null, .null, vI 0, vI 0]) := by rw [e447]; exact hu_s
          refine x_dup C dX7_init_94 rfl ?_
          refine x_aload_n C dX7_init_95 0 rfl ?_
          have f501 : h446 o = some (eO 7 [.ref q1, .ref q23, .ref q34, .ref q47, .ref q62, vI 0, vI 0]) := by rw [e447, hu_n (vnn f443 nq448)]; exact f443
          refine x_get C (v := .ref q1) f501 (T := TX7) rfl kX7_init_5 0 (by decide) kX7_init_4 rfl dX7_init_96 ?_
          refine x_callI C (n := 1) (As := [.ref q1]) (rest := [.ref q445, vI (((0 + 1) + 1) + 1), .ref q47]) (c_X4_init f500) gX7_init_X4_init kX7_init_23 kX7_init_25 kX7_init_24 rfl (by decide +kernel) rfl rfl rfl (Nat.le_of_ble_eq_true rfl) ⟨by decide, by decide⟩ ⟨(by decide), (by decide)⟩ dX7_init_99 (fun rv502 h503 hp504 => ?_)
          obtain ⟨rfl, qk506, nk507, ⟨fe508, fe509⟩, keep510⟩ := hp504
          have f511 : h446 q1 = some (eI D 3 (fu (fu (fu (fun _ => 0) (Int.toNat 0) 2) (Int.toNat 1) 3) (Int.toNat 2) 4)) := by rw [e447, hu_n (vnn f475 nq448)]; exact f475
          have f512 : h446 q23 = some (eR D 22 12 (fun _ => none)) := by rw [e447, hu_n (vnn f477 nq448)]; exact f477
          have f513 : h446 q34 = some (eR D 24 20 (fun _ => none)) := by rw [e447, hu_n (vnn f479 nq448)]; exact f479
          have f514 : h446 q47 = some (eR D 23 6 (va_up (va_up (va_up (fun _ => none) (Int.toNat 0) (some q162)) (Int.toNat (0 + 1)) (some q253)) (Int.toNat ((0 + 1) + 1)) (some q343))) := by rw [e447, hu_n (vnn f441 nq448)]; exact f441
          have f515 : h446 q62 = some (eO 5 [.ref qk83, .ref qk80, .ref qk81, .ref qk82, vI 0, vI ((0 : Nat) : Int), vI (-1)]) := by rw [e447, hu_n (vnn f481 nq448)]; exact f481
          have f516 : h446 qk80 = some (eI D 6144 (fun _ => 0)) := by rw [e447, hu_n (vnn f483 nq448)]; exact f483
          have f517 : h446 qk81 = some (eI D 6144 (fun _ => 0)) := by rw [e447, hu_n (vnn f485 nq448)]; exact f485
          have f518 : h446 qk82 = some (eZ D 96 (fun _ => 0)) := by rw [e447, hu_n (vnn f487 nq448)]; exact f487
          have f519 : h446 qk83 = some (eO 0 [.ref q1, vI 0, vI 0, vI ((0 : Nat) : Int), vI 1]) := by rw [e447, hu_n (vnn f489 nq448)]; exact f489
          have f520 : h446 q162 = some (eO 4 [.ref qk215, .null, vI 0, vI 0]) := by rw [e447, hu_n (vnn f491 nq448)]; exact f491
          have f521 : h446 qk215 = some (eO 0 [.ref q1, vI 0, vI 0, vI ((0 : Nat) : Int), vI 1]) := by rw [e447, hu_n (vnn f493 nq448)]; exact f493
          have f522 : h446 q253 = some (eO 4 [.ref qk300, .null, vI 0, vI 0]) := by rw [e447, hu_n (vnn f495 nq448)]; exact f495
          have f523 : h446 qk300 = some (eO 0 [.ref q1, vI 0, vI 0, vI ((0 : Nat) : Int), vI 1]) := by rw [e447, hu_n (vnn f497 nq448)]; exact f497
          have f524 : h446 q343 = some (eO 4 [.ref qk397, .null, vI 0, vI 0]) := by rw [e447, hu_n (vnn f498 nq448)]; exact f498
          have f525 : h446 qk397 = some (eO 0 [.ref q1, vI 0, vI 0, vI ((0 : Nat) : Int), vI 1]) := by rw [e447, hu_n (vnn f499 nq448)]; exact f499
          have nb526 : h439 qk506 = none := by have nk5079 := nk507; rw [e447] at nk5079; exact (hu_none nk5079).1
          have nb527 : h394 qk506 = none := by have nb5269 := nb526; rw [e440] at nb5269; exact (hu_none nb5269).1
          have nb528 : h344 qk506 = none := k_none keep401 fe399 nb527
          have nb529 : h337 qk506 = none := by have nb5289 := nb528; rw [e345] at nb5289; exact (hu_none nb5289).1
          have nb530 : h297 qk506 = none := by have nb5299 := nb529; rw [e338] at nb5299; exact (hu_none nb5299).1
          have nb531 : h254 qk506 = none := k_none keep304 fe302 nb530
          have nb532 : h247 qk506 = none := by have nb5319 := nb531; rw [e255] at nb5319; exact (hu_none nb5319).1
          have nb533 : h212 qk506 = none := by have nb5329 := nb532; rw [e248] at nb5329; exact (hu_none nb5329).1
          have nb534 : h163 qk506 = none := k_none keep219 fe217 nb533
          have nb535 : h154 qk506 = none := by have nb5349 := nb534; rw [e164] at nb5349; exact (hu_none nb5349).1
          have nb536 : h151 qk506 = none := by have nb5359 := nb535; rw [e155] at nb5359; exact (hu_none nb5359).1
          have nb537 : h148 qk506 = none := by have nb5369 := nb536; rw [e152] at nb5369; exact (hu_none nb5369).1
          have nb538 : h77 qk506 = none := by have nb5379 := nb537; rw [e149] at nb5379; exact (hu_none nb5379).1
          have nb539 : h63 qk506 = none := k_none keep93 fe88 nb538
          have nb540 : h59 qk506 = none := by have nb5399 := nb539; rw [e64] at nb5399; exact (hu_none nb5399).1
          have nb541 : h48 qk506 = none := by have nb5409 := nb540; rw [e60] at nb5409; exact (hu_none nb5409).1
          have nb542 : h44 qk506 = none := by have nb5419 := nb541; rw [e49] at nb5419; exact (hu_none nb5419).1
          have nb543 : h35 qk506 = none := by have nb5429 := nb542; rw [e45] at nb5429; exact (hu_none nb5429).1
          have nb544 : h31 qk506 = none := by have nb5439 := nb543; rw [e36] at nb5439; exact (hu_none nb5439).1
          have nb545 : h24 qk506 = none := by have nb5449 := nb544; rw [e32] at nb5449; exact (hu_none nb5449).1
          have nb546 : h20 qk506 = none := by have nb5459 := nb545; rw [e25] at nb5459; exact (hu_none nb5459).1
          have nb547 : h13 qk506 = none := by have nb5469 := nb546; rw [e21] at nb5469; exact (hu_none nb5469).1
          have nb548 : h10 qk506 = none := by have nb5479 := nb547; rw [e14] at nb5479; exact (hu_none nb5479).1
          have nb549 : h7 qk506 = none := by have nb5489 := nb548; rw [e11] at nb5489; exact (hu_none nb5489).1
          have nb550 : h2 qk506 = none := by have nb5499 := nb549; rw [e8] at nb5499; exact (hu_none nb5499).1
          have nb551 : h qk506 = none := by have nb5509 := nb550; rw [e3] at nb5509; exact (hu_none nb5509).1
          have f552 : h503 q47 = some (eR D 23 6 (va_up (va_up (va_up (fun _ => none) (Int.toNat 0) (some q162)) (Int.toNat (0 + 1)) (some q253)) (Int.toNat ((0 + 1) + 1)) (some q343))) := keep510 q47 _ ((vnn f441 nq448)) f514
          refine x_aast C (t0 := 3) f552 rfl fe508 rfl ⟨by omega, by omega⟩ (by decide) dX7_init_102 (x_hn (fun h553 e554 => ?_))
          have f555 : h553 q47 = some (eR D 23 6 (va_up (va_up (va_up (va_up (fun _ => none) (Int.toNat 0) (some q162)) (Int.toNat (0 + 1)) (some q253)) (Int.toNat ((0 + 1) + 1)) (some q343)) (Int.toNat (((0 + 1) + 1) + 1)) (some q445))) := by rw [e554]; exact hu_s
          refine x_iinc C (x := ((0 + 1) + 1) + 1) (ls' := [(0, .ref o), (1, vI ((((0 + 1) + 1) + 1) + 1))]) dX7_init_103 1 rfl (by decide) rfl ?_
          refine x_goto (tgt := 77) C dX7_init_106 (by decide) ?_
          refine x_iload_n C dX7_init_77 1 rfl ?_
          refine x_aload_n C dX7_init_78 0 rfl ?_
          have f556 : h503 o = some (eO 7 [.ref q1, .ref q23, .ref q34, .ref q47, .ref q62, vI 0, vI 0]) := keep510 o _ ((vnn f443 nq448)) f501
          have f557 : h553 o = some (eO 7 [.ref q1, .ref q23, .ref q34, .ref q47, .ref q62, vI 0, vI 0]) := by rw [e554, hu_n (vnn f46 nq50)]; exact f556
          refine x_get C (v := .ref q47) f557 (T := TX7) rfl kX7_init_5 3 (by decide) kX7_init_11 rfl dX7_init_79 ?_
          refine x_alen C f555 (t0 := 3) rfl 6 rfl dX7_init_82 ?_
          refine x_icmp_ge (tgt := 109) C dX7_init_83 (by decide) (by omega) (by omega) (fun c558 => ?_) (fun c558 => ?_)
          · exfalso; omega
          · skip
            refine x_aload_n C dX7_init_86 0 rfl ?_
            refine x_get C (v := .ref q47) f557 (T := TX7) rfl kX7_init_5 3 (by decide) kX7_init_11 rfl dX7_init_87 ?_
            refine x_iload_n C dX7_init_90 1 rfl ?_
            refine x_new C (ci := 4) (T := TX4) (fs := [.null, .null, vI 0, vI 0]) rfl tyX4_ok kX7_init_21 kX7_init_10 kX7_init_22 kX7_init_23 (by intro j hj; rcases (show j = 0 ∨ j = 1 ∨ j = 2 ∨ j = 3 by omega) with rfl | rfl | rfl | rfl <;> rfl) (by decide) (by decide) dX7_init_91 (fun q559 nq562 => x_hn (fun h560 e561 => ?_))
            have nb563 : h503 q559 = none := by have nq5629 := nq562; rw [e554] at nq5629; exact (hu_none nq5629).1
            have nb564 : h446 q559 = none := k_none keep510 fe508 nb563
            have nb565 : h439 q559 = none := by have nb5649 := nb564; rw [e447] at nb5649; exact (hu_none nb5649).1
            have nb566 : h394 q559 = none := by have nb5659 := nb565; rw [e440] at nb5659; exact (hu_none nb5659).1
            have nb567 : h344 q559 = none := k_none keep401 fe399 nb566
            have nb568 : h337 q559 = none := by have nb5679 := nb567; rw [e345] at nb5679; exact (hu_none nb5679).1
            have nb569 : h297 q559 = none := by have nb5689 := nb568; rw [e338] at nb5689; exact (hu_none nb5689).1
            have nb570 : h254 q559 = none := k_none keep304 fe302 nb569
            have nb571 : h247 q559 = none := by have nb5709 := nb570; rw [e255] at nb5709; exact (hu_none nb5709).1
            have nb572 : h212 q559 = none := by have nb5719 := nb571; rw [e248] at nb5719; exact (hu_none nb5719).1
            have nb573 : h163 q559 = none := k_none keep219 fe217 nb572
            have nb574 : h154 q559 = none := by have nb5739 := nb573; rw [e164] at nb5739; exact (hu_none nb5739).1
            have nb575 : h151 q559 = none := by have nb5749 := nb574; rw [e155] at nb5749; exact (hu_none nb5749).1
            have nb576 : h148 q559 = none := by have nb5759 := nb575; rw [e152] at nb5759; exact (hu_none nb5759).1
            have nb577 : h77 q559 = none := by have nb5769 := nb576; rw [e149] at nb5769; exact (hu_none nb5769).1
            have nb578 : h63 q559 = none := k_none keep93 fe88 nb577
            have nb579 : h59 q559 = none := by have nb5789 := nb578; rw [e64] at nb5789; exact (hu_none nb5789).1
            have nb580 : h48 q559 = none := by have nb5799 := nb579; rw [e60] at nb5799; exact (hu_none nb5799).1
            have nb581 : h44 q559 = none := by have nb5809 := nb580; rw [e49] at nb5809; exact (hu_none nb5809).1
            have nb582 : h35 q559 = none := by have nb5819 := nb581; rw [e45] at nb5819; exact (hu_none nb5819).1
            have nb583 : h31 q559 = none := by have nb5829 := nb582; rw [e36] at nb5829; exact (hu_none nb5829).1
            have nb584 : h24 q559 = none := by have nb5839 := nb583; rw [e32] at nb5839; exact (hu_none nb5839).1
            have nb585 : h20 q559 = none := by have nb5849 := nb584; rw [e25] at nb5849; exact (hu_none nb5849).1
            have nb586 : h13 q559 = none := by have nb5859 := nb585; rw [e21] at nb5859; exact (hu_none nb5859).1
            have nb587 : h10 q559 = none := by have nb5869 := nb586; rw [e14] at nb5869; exact (hu_none nb5869).1
            have nb588 : h7 q559 = none := by have nb5879 := nb587; rw [e11] at nb5879; exact (hu_none nb5879).1
            have nb589 : h2 q559 = none := by have nb5889 := nb588; rw [e8] at nb5889; exact (hu_none nb5889).1
            have nb590 : h q559 = none := by have nb5899 := nb589; rw [e3] at nb5899; exact (hu_none nb5899).1
            have f591 : h503 q1 = some (eI D 3 (fu (fu (fu (fun _ => 0) (Int.toNat 0) 2) (Int.toNat 1) 3) (Int.toNat 2) 4)) := keep510 q1 _ ((vnn f475 nq448)) f511
            have f592 : h553 q1 = some (eI D 3 (fu (fu (fu (fun _ => 0) (Int.toNat 0) 2) (Int.toNat 1) 3) (Int.toNat 2) 4)) := by rw [e554, hu_n (vnn f54 nq50)]; exact f591
            have f593 : h503 q23 = some (eR D 22 12 (fun _ => none)) := keep510 q23 _ ((vnn f477 nq448)) f512
            have f594 : h553 q23 = some (eR D 22 12 (fun _ => none)) := by rw [e554, hu_n (vnn f56 nq50)]; exact f593
            have f595 : h503 q34 = some (eR D 24 20 (fun _ => none)) := keep510 q34 _ ((vnn f479 nq448)) f513
            have f596 : h553 q34 = some (eR D 24 20 (fun _ => none)) := by rw [e554, hu_n (vnn f57 nq50)]; exact f595
            have f597 : h503 q62 = some (eO 5 [.ref qk83, .ref qk80, .ref qk81, .ref qk82, vI 0, vI ((0 : Nat) : Int), vI (-1)]) := keep510 q62 _ ((vnn f481 nq448)) f515
            have f598 : h553 q62 = some (eO 5 [.ref qk83, .ref qk80, .ref qk81, .ref qk82, vI 0, vI ((0 : Nat) : Int), vI (-1)]) := by rw [e554, hu_n (Ne.symm (vnn f74 nq65))]; exact f597
            have f599 : h503 qk80 = some (eI D 6144 (fun _ => 0)) := keep510 qk80 _ ((vnn f483 nq448)) f516
            have f600 : h553 qk80 = some (eI D 6144 (fun _ => 0)) := by rw [e554, hu_n (Ne.symm (vnn f98 nk84))]; exact f599
            have f601 : h503 qk81 = some (eI D 6144 (fun _ => 0)) := keep510 qk81 _ ((vnn f485 nq448)) f517
            have f602 : h553 qk81 = some (eI D 6144 (fun _ => 0)) := by rw [e554, hu_n (Ne.symm (vnn f98 nk85))]; exact f601
            have f603 : h503 qk82 = some (eZ D 96 (fun _ => 0)) := keep510 qk82 _ ((vnn f487 nq448)) f518
            have f604 : h553 qk82 = some (eZ D 96 (fun _ => 0)) := by rw [e554, hu_n (Ne.symm (vnn f98 nk86))]; exact f603
            have f605 : h503 qk83 = some (eO 0 [.ref q1, vI 0, vI 0, vI ((0 : Nat) : Int), vI 1]) := keep510 qk83 _ ((vnn f489 nq448)) f519
            have f606 : h553 qk83 = some (eO 0 [.ref q1, vI 0, vI 0, vI ((0 : Nat) : Int), vI 1]) := by rw [e554, hu_n (Ne.symm (vnn f98 nk87))]; exact f605
            have f607 : h503 q162 = some (eO 4 [.ref qk215, .null, vI 0, vI 0]) := keep510 q162 _ ((vnn f491 nq448)) f520
            have f608 : h553 q162 = some (eO 4 [.ref qk215, .null, vI 0, vI 0]) := by rw [e554, hu_n (Ne.symm (vnn f160 nq165))]; exact f607
            have f609 : h503 qk215 = some (eO 0 [.ref q1, vI 0, vI 0, vI ((0 : Nat) : Int), vI 1]) := keep510 qk215 _ ((vnn f493 nq448)) f521
            have f610 : h553 qk215 = some (eO 0 [.ref q1, vI 0, vI 0, vI ((0 : Nat) : Int), vI 1]) := by rw [e554, hu_n (Ne.symm (vnn f223 nk216))]; exact f609
            have f611 : h503 q253 = some (eO 4 [.ref qk300, .null, vI 0, vI 0]) := keep510 q253 _ ((vnn f495 nq448)) f522
            have f612 : h553 q253 = some (eO 4 [.ref qk300, .null, vI 0, vI 0]) := by rw [e554, hu_n (Ne.symm (vnn f249 nq256))]; exact f611
            have f613 : h503 qk300 = some (eO 0 [.ref q1, vI 0, vI 0, vI ((0 : Nat) : Int), vI 1]) := keep510 qk300 _ ((vnn f497 nq448)) f523
            have f614 : h553 qk300 = some (eO 0 [.ref q1, vI 0, vI 0, vI ((0 : Nat) : Int), vI 1]) := by rw [e554, hu_n (Ne.symm (vnn f308 nk301))]; exact f613
            have f615 : h503 q343 = some (eO 4 [.ref qk397, .null, vI 0, vI 0]) := keep510 q343 _ ((vnn f498 nq448)) f524
            have f616 : h553 q343 = some (eO 4 [.ref qk397, .null, vI 0, vI 0]) := by rw [e554, hu_n (Ne.symm (vnn f339 nq346))]; exact f615
            have f617 : h503 qk397 = some (eO 0 [.ref q1, vI 0, vI 0, vI ((0 : Nat) : Int), vI 1]) := keep510 qk397 _ ((vnn f499 nq448)) f525
            have f618 : h553 qk397 = some (eO 0 [.ref q1, vI 0, vI 0, vI ((0 : Nat) : Int), vI 1]) := by rw [e554, hu_n (Ne.symm (vnn f405 nk398))]; exact f617
            have f619 : h553 q445 = some (eO 4 [.ref qk506, .null, vI 0, vI 0]) := by rw [e554, hu_n (Ne.symm (vnn f441 nq448))]; exact fe508
            have f620 : h553 qk506 = some (eO 0 [.ref q1, vI 0, vI 0, vI ((0 : Nat) : Int), vI 1]) := by rw [e554, hu_n (Ne.symm (vnn f514 nk507))]; exact fe509
            have f621 : h560 q559 = some (eO 4 [.null, .null, vI 0, vI 0]) := by rw [e561]; exact hu_s
            refine x_dup C dX7_init_94 rfl ?_
            refine x_aload_n C dX7_init_95 0 rfl ?_
            have f622 : h560 o = some (eO 7 [.ref q1, .ref q23, .ref q34, .ref q47, .ref q62, vI 0, vI 0]) := by rw [e561, hu_n (vnn f557 nq562)]; exact f557
            refine x_get C (v := .ref q1) f622 (T := TX7) rfl kX7_init_5 0 (by decide) kX7_init_4 rfl dX7_init_96 ?_
            refine x_callI C (n := 1) (As := [.ref q1]) (rest := [.ref q559, vI ((((0 + 1) + 1) + 1) + 1), .ref q47]) (c_X4_init f621) gX7_init_X4_init kX7_init_23 kX7_init_25 kX7_init_24 rfl (by decide +kernel) rfl rfl rfl (Nat.le_of_ble_eq_true rfl) ⟨by decide, by decide⟩ ⟨(by decide), (by decide)⟩ dX7_init_99 (fun rv623 h624 hp625 => ?_)
            obtain ⟨rfl, qk627, nk628, ⟨fe629, fe630⟩, keep631⟩ := hp625
            have f632 : h560 q1 = some (eI D 3 (fu (fu (fu (fun _ => 0) (Int.toNat 0) 2) (Int.toNat 1) 3) (Int.toNat 2) 4)) := by rw [e561, hu_n (vnn f592 nq562)]; exact f592
            have f633 : h560 q23 = some (eR D 22 12 (fun _ => none)) := by rw [e561, hu_n (vnn f594 nq562)]; exact f594
            have f634 : h560 q34 = some (eR D 24 20 (fun _ => none)) := by rw [e561, hu_n (vnn f596 nq562)]; exact f596
            have f635 : h560 q47 = some (eR D 23 6 (va_up (va_up (va_up (va_up (fun _ => none) (Int.toNat 0) (some q162)) (Int.toNat (0 + 1)) (some q253)) (Int.toNat ((0 + 1) + 1)) (some q343)) (Int.toNat (((0 + 1) + 1) + 1)) (some q445))) := by rw [e561, hu_n (vnn f555 nq562)]; exact f555
            have f636 : h560 q62 = some (eO 5 [.ref qk83, .ref qk80, .ref qk81, .ref qk82, vI 0, vI ((0 : Nat) : Int), vI (-1)]) := by rw [e561, hu_n (vnn f598 nq562)]; exact f598
            have f637 : h560 qk80 = some (eI D 6144 (fun _ => 0)) := by rw [e561, hu_n (vnn f600 nq562)]; exact f600
            have f638 : h560 qk81 = some (eI D 6144 (fun _ => 0)) := by rw [e561, hu_n (vnn f602 nq562)]; exact f602
            have f639 : h560 qk82 = some (eZ D 96 (fun _ => 0)) := by rw [e561, hu_n (vnn f604 nq562)]; exact f604
            have f640 : h560 qk83 = some (eO 0 [.ref q1, vI 0, vI 0, vI ((0 : Nat) : Int), vI 1]) := by rw [e561, hu_n (vnn f606 nq562)]; exact f606
            have f641 : h560 q162 = some (eO 4 [.ref qk215, .null, vI 0, vI 0]) := by rw [e561, hu_n (vnn f608 nq562)]; exact f608
            have f642 : h560 qk215 = some (eO 0 [.ref q1, vI 0, vI 0, vI ((0 : Nat) : Int), vI 1]) := by rw [e561, hu_n (vnn f610 nq562)]; exact f610
            have f643 : h560 q253 = some (eO 4 [.ref qk300, .null, vI 0, vI 0]) := by rw [e561, hu_n (vnn f612 nq562)]; exact f612
            have f644 : h560 qk300 = some (eO 0 [.ref q1, vI 0, vI 0, vI ((0 : Nat) : Int), vI 1]) := by rw [e561, hu_n (vnn f614 nq562)]; exact f614
            have f645 : h560 q343 = some (eO 4 [.ref qk397, .null, vI 0, vI 0]) := by rw [e561, hu_n (vnn f616 nq562)]; exact f616
            have f646 : h560 qk397 = some (eO 0 [.ref q1, vI 0, vI 0, vI ((0 : Nat) : Int), vI 1]) := by rw [e561, hu_n (vnn f618 nq562)]; exact f618
            have f647 : h560 q445 = some (eO 4 [.ref qk506, .null, vI 0, vI 0]) := by rw [e561, hu_n (vnn f619 nq562)]; exact f619
            have f648 : h560 qk506 = some (eO 0 [.ref q1, vI 0, vI 0, vI ((0 : Nat) : Int), vI 1]) := by rw [e561, hu_n (vnn f620 nq562)]; exact f620
            have nb649 : h553 qk627 = none := by have nk6289 := nk628; rw [e561] at nk6289; exact (hu_none nk6289).1
            have nb650 : h503 qk627 = none := by have nb6499 := nb649; rw [e554] at nb6499; exact (hu_none nb6499).1
            have nb651 : h446 qk627 = none := k_none keep510 fe508 nb650
            have nb652 : h439 qk627 = none := by have nb6519 := nb651; rw [e447] at nb6519; exact (hu_none nb6519).1
            have nb653 : h394 qk627 = none := by have nb6529 := nb652; rw [e440] at nb6529; exact (hu_none nb6529).1
            have nb654 : h344 qk627 = none := k_none keep401 fe399 nb653
            have nb655 : h337 qk627 = none := by have nb6549 := nb654; rw [e345] at nb6549; exact (hu_none nb6549).1
            have nb656 : h297 qk627 = none := by have nb6559 := nb655; rw [e338] at nb6559; exact (hu_none nb6559).1
            have nb657 : h254 qk627 = none := k_none keep304 fe302 nb656
            have nb658 : h247 qk627 = none := by have nb6579 := nb657; rw [e255] at nb6579; exact (hu_none nb6579).1
            have nb659 : h212 qk627 = none := by have nb6589 := nb658; rw [e248] at nb6589; exact (hu_none nb6589).1
            have nb660 : h163 qk627 = none := k_none keep219 fe217 nb659
            have nb661 : h154 qk627 = none := by have nb6609 := nb660; rw [e164] at nb6609; exact (hu_none nb6609).1
            have nb662 : h151 qk627 = none := by have nb6619 := nb661; rw [e155] at nb6619; exact (hu_none nb6619).1
            have nb663 : h148 qk627 = none := by have nb6629 := nb662; rw [e152] at nb6629; exact (hu_none nb6629).1
            have nb664 : h77 qk627 = none := by have nb6639 := nb663; rw [e149] at nb6639; exact (hu_none nb6639).1
            have nb665 : h63 qk627 = none := k_none keep93 fe88 nb664
            have nb666 : h59 qk627 = none := by have nb6659 := nb665; rw [e64] at nb6659; exact (hu_none nb6659).1
            have nb667 : h48 qk627 = none := by have nb6669 := nb666; rw [e60] at nb6669; exact (hu_none nb6669).1
            have nb668 : h44 qk627 = none := by have nb6679 := nb667; rw [e49] at nb6679; exact (hu_none nb6679).1
            have nb669 : h35 qk627 = none := by have nb6689 := nb668; rw [e45] at nb6689; exact (hu_none nb6689).1
            have nb670 : h31 qk627 = none := by have nb6699 := nb669; rw [e36] at nb6699; exact (hu_none nb6699).1
            have nb671 : h24 qk627 = none := by have nb6709 := nb670; rw [e32] at nb6709; exact (hu_none nb6709).1
            have nb672 : h20 qk627 = none := by have nb6719 := nb671; rw [e25] at nb6719; exact (hu_none nb6719).1
            have nb673 : h13 qk627 = none := by have nb6729 := nb672; rw [e21] at nb6729; exact (hu_none nb6729).1
            have nb674 : h10 qk627 = none := by have nb6739 := nb673; rw [e14] at nb6739; exact (hu_none nb6739).1
            have nb675 : h7 qk627 = none := by have nb6749 := nb674; rw [e11] at nb6749; exact (hu_none nb6749).1
            have nb676 : h2 qk627 = none := by have nb6759 := nb675; rw [e8] at nb6759; exact (hu_none nb6759).1
            have nb677 : h qk627 = none := by have nb6769 := nb676; rw [e3] at nb6769; exact (hu_none nb6769).1
            have f678 : h624 q47 = some (eR D 23 6 (va_up (va_up (va_up (va_up (fun _ => none) (Int.toNat 0) (some q162)) (Int.toNat (0 + 1)) (some q253)) (Int.toNat ((0 + 1) + 1)) (some q343)) (Int.toNat (((0 + 1) + 1) + 1)) (some q445))) := keep631 q47 _ ((vnn f555 nq562)) f635
            refine x_aast C (t0 := 3) f678 rfl fe629 rfl ⟨by omega, by omega⟩ (by decide) dX7_init_102 (x_hn (fun h679 e680 => ?_))
            have f681 : h679 q47 = some (eR D 23 6 (va_up (va_up (va_up (va_up (va_up (fun _ => none) (Int.toNat 0) (some q162)) (Int.toNat (0 + 1)) (some q253)) (Int.toNat ((0 + 1) + 1)) (some q343)) (Int.toNat (((0 + 1) + 1) + 1)) (some q445)) (Int.toNat ((((0 + 1) + 1) + 1) + 1)) (some q559))) := by rw [e680]; exact hu_s
            refine x_iinc C (x := (((0 + 1) + 1) + 1) + 1) (ls' := [(0, .ref o), (1, vI (((((0 + 1) + 1) + 1) + 1) + 1))]) dX7_init_103 1 rfl (by decide) rfl ?_
            refine x_goto (tgt := 77) C dX7_init_106 (by decide) ?_
            refine x_iload_n C dX7_init_77 1 rfl ?_
            refine x_aload_n C dX7_init_78 0 rfl ?_
            have f682 : h624 o = some (eO 7 [.ref q1, .ref q23, .ref q34, .ref q47, .ref q62, vI 0, vI 0]) := keep631 o _ ((vnn f557 nq562)) f622
            have f683 : h679 o = some (eO 7 [.ref q1, .ref q23, .ref q34, .ref q47, .ref q62, vI 0, vI 0]) := by rw [e680, hu_n (vnn f46 nq50)]; exact f682
            refine x_get C (v := .ref q47) f683 (T := TX7) rfl kX7_init_5 3 (by decide) kX7_init_11 rfl dX7_init_79 ?_
            refine x_alen C f681 (t0 := 3) rfl 6 rfl dX7_init_82 ?_
            refine x_icmp_ge (tgt := 109) C dX7_init_83 (by decide) (by omega) (by omega) (fun c684 => ?_) (fun c684 => ?_)
            · exfalso; omega
            · skip
              refine x_aload_n C dX7_init_86 0 rfl ?_
              refine x_get C (v := .ref q47) f683 (T := TX7) rfl kX7_init_5 3 (by decide) kX7_init_11 rfl dX7_init_87 ?_
              refine x_iload_n C dX7_init_90 1 rfl ?_
              refine x_new C (ci := 4) (T := TX4) (fs := [.null, .null, vI 0, vI 0]) rfl tyX4_ok kX7_init_21 kX7_init_10 kX7_init_22 kX7_init_23 (by intro j hj; rcases (show j = 0 ∨ j = 1 ∨ j = 2 ∨ j = 3 by omega) with rfl | rfl | rfl | rfl <;> rfl) (by decide) (by decide) dX7_init_91 (fun q685 nq688 => x_hn (fun h686 e687 => ?_))
              have nb689 : h624 q685 = none := by have nq6889 := nq688; rw [e680] at nq6889; exact (hu_none nq6889).1
              have nb690 : h560 q685 = none := k_none keep631 fe629 nb689
              have nb691 : h553 q685 = none := by have nb6909 := nb690; rw [e561] at nb6909; exact (hu_none nb6909).1
              have nb692 : h503 q685 = none := by have nb6919 := nb691; rw [e554] at nb6919; exact (hu_none nb6919).1
              have nb693 : h446 q685 = none := k_none keep510 fe508 nb692
              have nb694 : h439 q685 = none := by have nb6939 := nb693; rw [e447] at nb6939; exact (hu_none nb6939).1
              have nb695 : h394 q685 = none := by have nb6949 := nb694; rw [e440] at nb6949; exact (hu_none nb6949).1
              have nb696 : h344 q685 = none := k_none keep401 fe399 nb695
              have nb697 : h337 q685 = none := by have nb6969 := nb696; rw [e345] at nb6969; exact (hu_none nb6969).1
              have nb698 : h297 q685 = none := by have nb6979 := nb697; rw [e338] at nb6979; exact (hu_none nb6979).1
              have nb699 : h254 q685 = none := k_none keep304 fe302 nb698
              have nb700 : h247 q685 = none := by have nb6999 := nb699; rw [e255] at nb6999; exact (hu_none nb6999).1
              have nb701 : h212 q685 = none := by have nb7009 := nb700; rw [e248] at nb7009; exact (hu_none nb7009).1
              have nb702 : h163 q685 = none := k_none keep219 fe217 nb701
              have nb703 : h154 q685 = none := by have nb7029 := nb702; rw [e164] at nb7029; exact (hu_none nb7029).1
              have nb704 : h151 q685 = none := by have nb7039 := nb703; rw [e155] at nb7039; exact (hu_none nb7039).1
              have nb705 : h148 q685 = none := by have nb7049 := nb704; rw [e152] at nb7049; exact (hu_none nb7049).1
              have nb706 : h77 q685 = none := by have nb7059 := nb705; rw [e149] at nb7059; exact (hu_none nb7059).1
              have nb707 : h63 q685 = none := k_none keep93 fe88 nb706
              have nb708 : h59 q685 = none := by have nb7079 := nb707; rw [e64] at nb7079; exact (hu_none nb7079).1
              have nb709 : h48 q685 = none := by have nb7089 := nb708; rw [e60] at nb7089; exact (hu_none nb7089).1
              have nb710 : h44 q685 = none := by have nb7099 := nb709; rw [e49] at nb7099; exact (hu_none nb7099).1
              have nb711 : h35 q685 = none := by have nb7109 := nb710; rw [e45] at nb7109; exact (hu_none nb7109).1
              have nb712 : h31 q685 = none := by have nb7119 := nb711; rw [e36] at nb7119; exact (hu_none nb7119).1
              have nb713 : h24 q685 = none := by have nb7129 := nb712; rw [e32] at nb7129; exact (hu_none nb7129).1
              have nb714 : h20 q685 = none := by have nb7139 := nb713; rw [e25] at nb7139; exact (hu_none nb7139).1
              have nb715 : h13 q685 = none := by have nb7149 := nb714; rw [e21] at nb7149; exact (hu_none nb7149).1
              have nb716 : h10 q685 = none := by have nb7159 := nb715; rw [e14] at nb7159; exact (hu_none nb7159).1
              have nb717 : h7 q685 = none := by have nb7169 := nb716; rw [e11] at nb7169; exact (hu_none nb7169).1
              have nb718 : h2 q685 = none := by have nb7179 := nb717; rw [e8] at nb7179; exact (hu_none nb7179).1
              have nb719 : h q685 = none := by have nb7189 := nb718; rw [e3] at nb7189; exact (hu_none nb7189).1
              have f720 : h624 q1 = some (eI D 3 (fu (fu (fu (fun _ => 0) (Int.toNat 0) 2) (Int.toNat 1) 3) (Int.toNat 2) 4)) := keep631 q1 _ ((vnn f592 nq562)) f632
              have f721 : h679 q1 = some (eI D 3 (fu (fu (fu (fun _ => 0) (Int.toNat 0) 2) (Int.toNat 1) 3) (Int.toNat 2) 4)) := by rw [e680, hu_n (vnn f54 nq50)]; exact f720
              have f722 : h624 q23 = some (eR D 22 12 (fun _ => none)) := keep631 q23 _ ((vnn f594 nq562)) f633
              have f723 : h679 q23 = some (eR D 22 12 (fun _ => none)) := by rw [e680, hu_n (vnn f56 nq50)]; exact f722
              have f724 : h624 q34 = some (eR D 24 20 (fun _ => none)) := keep631 q34 _ ((vnn f596 nq562)) f634
              have f725 : h679 q34 = some (eR D 24 20 (fun _ => none)) := by rw [e680, hu_n (vnn f57 nq50)]; exact f724
              have f726 : h624 q62 = some (eO 5 [.ref qk83, .ref qk80, .ref qk81, .ref qk82, vI 0, vI ((0 : Nat) : Int), vI (-1)]) := keep631 q62 _ ((vnn f598 nq562)) f636
              have f727 : h679 q62 = some (eO 5 [.ref qk83, .ref qk80, .ref qk81, .ref qk82, vI 0, vI ((0 : Nat) : Int), vI (-1)]) := by rw [e680, hu_n (Ne.symm (vnn f74 nq65))]; exact f726
              have f728 : h624 qk80 = some (eI D 6144 (fun _ => 0)) := keep631 qk80 _ ((vnn f600 nq562)) f637
              have f729 : h679 qk80 = some (eI D 6144 (fun _ => 0)) := by rw [e680, hu_n (Ne.symm (vnn f98 nk84))]; exact f728
              have f730 : h624 qk81 = some (eI D 6144 (fun _ => 0)) := keep631 qk81 _ ((vnn f602 nq562)) f638
              have f731 : h679 qk81 = some (eI D 6144 (fun _ => 0)) := by rw [e680, hu_n (Ne.symm (vnn f98 nk85))]; exact f730
              have f732 : h624 qk82 = some (eZ D 96 (fun _ => 0)) := keep631 qk82 _ ((vnn f604 nq562)) f639
              have f733 : h679 qk82 = some (eZ D 96 (fun _ => 0)) := by rw [e680, hu_n (Ne.symm (vnn f98 nk86))]; exact f732
              have f734 : h624 qk83 = some (eO 0 [.ref q1, vI 0, vI 0, vI ((0 : Nat) : Int), vI 1]) := keep631 qk83 _ ((vnn f606 nq562)) f640
              have f735 : h679 qk83 = some (eO 0 [.ref q1, vI 0, vI 0, vI ((0 : Nat) : Int), vI 1]) := by rw [e680, hu_n (Ne.symm (vnn f98 nk87))]; exact f734
              have f736 : h624 q162 = some (eO 4 [.ref qk215, .null, vI 0, vI 0]) := keep631 q162 _ ((vnn f608 nq562)) f641
              have f737 : h679 q162 = some (eO 4 [.ref qk215, .null, vI 0, vI 0]) := by rw [e680, hu_n (Ne.symm (vnn f160 nq165))]; exact f736
              have f738 : h624 qk215 = some (eO 0 [.ref q1, vI 0, vI 0, vI ((0 : Nat) : Int), vI 1]) := keep631 qk215 _ ((vnn f610 nq562)) f642
              have f739 : h679 qk215 = some (eO 0 [.ref q1, vI 0, vI 0, vI ((0 : Nat) : Int), vI 1]) := by rw [e680, hu_n (Ne.symm (vnn f223 nk216))]; exact f738
              have f740 : h624 q253 = some (eO 4 [.ref qk300, .null, vI 0, vI 0]) := keep631 q253 _ ((vnn f612 nq562)) f643
              have f741 : h679 q253 = some (eO 4 [.ref qk300, .null, vI 0, vI 0]) := by rw [e680, hu_n (Ne.symm (vnn f249 nq256))]; exact f740
              have f742 : h624 qk300 = some (eO 0 [.ref q1, vI 0, vI 0, vI ((0 : Nat) : Int), vI 1]) := keep631 qk300 _ ((vnn f614 nq562)) f644
              have f743 : h679 qk300 = some (eO 0 [.ref q1, vI 0, vI 0, vI ((0 : Nat) : Int), vI 1]) := by rw [e680, hu_n (Ne.symm (vnn f308 nk301))]; exact f742
              have f744 : h624 q343 = some (eO 4 [.ref qk397, .null, vI 0, vI 0]) := keep631 q343 _ ((vnn f616 nq562)) f645
              have f745 : h679 q343 = some (eO 4 [.ref qk397, .null, vI 0, vI 0]) := by rw [e680, hu_n (Ne.symm (vnn f339 nq346))]; exact f744
              have f746 : h624 qk397 = some (eO 0 [.ref q1, vI 0, vI 0, vI ((0 : Nat) : Int), vI 1]) := keep631 qk397 _ ((vnn f618 nq562)) f646
              have f747 : h679 qk397 = some (eO 0 [.ref q1, vI 0, vI 0, vI ((0 : Nat) : Int), vI 1]) := by rw [e680, hu_n (Ne.symm (vnn f405 nk398))]; exact f746
              have f748 : h624 q445 = some (eO 4 [.ref qk506, .null, vI 0, vI 0]) := keep631 q445 _ ((vnn f619 nq562)) f647
              have f749 : h679 q445 = some (eO 4 [.ref qk506, .null, vI 0, vI 0]) := by rw [e680, hu_n (Ne.symm (vnn f441 nq448))]; exact f748
              have f750 : h624 qk506 = some (eO 0 [.ref q1, vI 0, vI 0, vI ((0 : Nat) : Int), vI 1]) := keep631 qk506 _ ((vnn f620 nq562)) f648
              have f751 : h679 qk506 = some (eO 0 [.ref q1, vI 0, vI 0, vI ((0 : Nat) : Int), vI 1]) := by rw [e680, hu_n (Ne.symm (vnn f514 nk507))]; exact f750
              have f752 : h679 q559 = some (eO 4 [.ref qk627, .null, vI 0, vI 0]) := by rw [e680, hu_n (Ne.symm (vnn f555 nq562))]; exact fe629
              have f753 : h679 qk627 = some (eO 0 [.ref q1, vI 0, vI 0, vI ((0 : Nat) : Int), vI 1]) := by rw [e680, hu_n (Ne.symm (vnn f635 nk628))]; exact fe630
              have f754 : h686 q685 = some (eO 4 [.null, .null, vI 0, vI 0]) := by rw [e687]; exact hu_s
              refine x_dup C dX7_init_94 rfl ?_
              refine x_aload_n C dX7_init_95 0 rfl ?_
              have f755 : h686 o = some (eO 7 [.ref q1, .ref q23, .ref q34, .ref q47, .ref q62, vI 0, vI 0]) := by rw [e687, hu_n (vnn f683 nq688)]; exact f683
              refine x_get C (v := .ref q1) f755 (T := TX7) rfl kX7_init_5 0 (by decide) kX7_init_4 rfl dX7_init_96 ?_
              refine x_callI C (n := 1) (As := [.ref q1]) (rest := [.ref q685, vI (((((0 + 1) + 1) + 1) + 1) + 1), .ref q47]) (c_X4_init f754) gX7_init_X4_init kX7_init_23 kX7_init_25 kX7_init_24 rfl (by decide +kernel) rfl rfl rfl (Nat.le_of_ble_eq_true rfl) ⟨by decide, by decide⟩ ⟨(by decide), (by decide)⟩ dX7_init_99 (fun rv756 h757 hp758 => ?_)
              obtain ⟨rfl, qk760, nk761, ⟨fe762, fe763⟩, keep764⟩ := hp758
              have f765 : h686 q1 = some (eI D 3 (fu (fu (fu (fun _ => 0) (Int.toNat 0) 2) (Int.toNat 1) 3) (Int.toNat 2) 4)) := by rw [e687, hu_n (vnn f721 nq688)]; exact f721
              have f766 : h686 q23 = some (eR D 22 12 (fun _ => none)) := by rw [e687, hu_n (vnn f723 nq688)]; exact f723
              have f767 : h686 q34 = some (eR D 24 20 (fun _ => none)) := by rw [e687, hu_n (vnn f725 nq688)]; exact f725
              have f768 : h686 q47 = some (eR D 23 6 (va_up (va_up (va_up (va_up (va_up (fun _ => none) (Int.toNat 0) (some q162)) (Int.toNat (0 + 1)) (some q253)) (Int.toNat ((0 + 1) + 1)) (some q343)) (Int.toNat (((0 + 1) + 1) + 1)) (some q445)) (Int.toNat ((((0 + 1) + 1) + 1) + 1)) (some q559))) := by rw [e687, hu_n (vnn f681 nq688)]; exact f681
              have f769 : h686 q62 = some (eO 5 [.ref qk83, .ref qk80, .ref qk81, .ref qk82, vI 0, vI ((0 : Nat) : Int), vI (-1)]) := by rw [e687, hu_n (vnn f727 nq688)]; exact f727
              have f770 : h686 qk80 = some (eI D 6144 (fun _ => 0)) := by rw [e687, hu_n (vnn f729 nq688)]; exact f729
              have f771 : h686 qk81 = some (eI D 6144 (fun _ => 0)) := by rw [e687, hu_n (vnn f731 nq688)]; exact f731
              have f772 : h686 qk82 = some (eZ D 96 (fun _ => 0)) := by rw [e687, hu_n (vnn f733 nq688)]; exact f733
              have f773 : h686 qk83 = some (eO 0 [.ref q1, vI 0, vI 0, vI ((0 : Nat) : Int), vI 1]) := by rw [e687, hu_n (vnn f735 nq688)]; exact f735
              have f774 : h686 q162 = some (eO 4 [.ref qk215, .null, vI 0, vI 0]) := by rw [e687, hu_n (vnn f737 nq688)]; exact f737
              have f775 : h686 qk215 = some (eO 0 [.ref q1, vI 0, vI 0, vI ((0 : Nat) : Int), vI 1]) := by rw [e687, hu_n (vnn f739 nq688)]; exact f739
              have f776 : h686 q253 = some (eO 4 [.ref qk300, .null, vI 0, vI 0]) := by rw [e687, hu_n (vnn f741 nq688)]; exact f741
              have f777 : h686 qk300 = some (eO 0 [.ref q1, vI 0, vI 0, vI ((0 : Nat) : Int), vI 1]) := by rw [e687, hu_n (vnn f743 nq688)]; exact f743
              have f778 : h686 q343 = some (eO 4 [.ref qk397, .null, vI 0, vI 0]) := by rw [e687, hu_n (vnn f745 nq688)]; exact f745
              have f779 : h686 qk397 = some (eO 0 [.ref q1, vI 0, vI 0, vI ((0 : Nat) : Int), vI 1]) := by rw [e687, hu_n (vnn f747 nq688)]; exact f747
              have f780 : h686 q445 = some (eO 4 [.ref qk506, .null, vI 0, vI 0]) := by rw [e687, hu_n (vnn f749 nq688)]; exact f749
              have f781 : h686 qk506 = some (eO 0 [.ref q1, vI 0, vI 0, vI ((0 : Nat) : Int), vI 1]) := by rw [e687, hu_n (vnn f751 nq688)]; exact f751
              have f782 : h686 q559 = some (eO 4 [.ref qk627, .null, vI 0, vI 0]) := by rw [e687, hu_n (vnn f752 nq688)]; exact f752
              have f783 : h686 qk627 = some (eO 0 [.ref q1, vI 0, vI 0, vI ((0 : Nat) : Int), vI 1]) := by rw [e687, hu_n (vnn f753 nq688)]; exact f753
              have nb784 : h679 qk760 = none := by have nk7619 := nk761; rw [e687] at nk7619; exact (hu_none nk7619).1
              have nb785 : h624 qk760 = none := by have nb7849 := nb784; rw [e680] at nb7849; exact (hu_none nb7849).1
              have nb786 : h560 qk760 = none := k_none keep631 fe629 nb785
              have nb787 : h553 qk760 = none := by have nb7869 := nb786; rw [e561] at nb7869; exact (hu_none nb7869).1
              have nb788 : h503 qk760 = none := by have nb7879 := nb787; rw [e554] at nb7879; exact (hu_none nb7879).1
              have nb789 : h446 qk760 = none := k_none keep510 fe508 nb788
              have nb790 : h439 qk760 = none := by have nb7899 := nb789; rw [e447] at nb7899; exact (hu_none nb7899).1
              have nb791 : h394 qk760 = none := by have nb7909 := nb790; rw [e440] at nb7909; exact (hu_none nb7909).1
              have nb792 : h344 qk760 = none := k_none keep401 fe399 nb791
              have nb793 : h337 qk760 = none := by have nb7929 := nb792; rw [e345] at nb7929; exact (hu_none nb7929).1
              have nb794 : h297 qk760 = none := by have nb7939 := nb793; rw [e338] at nb7939; exact (hu_none nb7939).1
              have nb795 : h254 qk760 = none := k_none keep304 fe302 nb794
              have nb796 : h247 qk760 = none := by have nb7959 := nb795; rw [e255] at nb7959; exact (hu_none nb7959).1
              have nb797 : h212 qk760 = none := by have nb7969 := nb796; rw [e248] at nb7969; exact (hu_none nb7969).1
              have nb798 : h163 qk760 = none := k_none keep219 fe217 nb797
              have nb799 : h154 qk760 = none := by have nb7989 := nb798; rw [e164] at nb7989; exact (hu_none nb7989).1
              have nb800 : h151 qk760 = none := by have nb7999 := nb799; rw [e155] at nb7999; exact (hu_none nb7999).1
              have nb801 : h148 qk760 = none := by have nb8009 := nb800; rw [e152] at nb8009; exact (hu_none nb8009).1
              have nb802 : h77 qk760 = none := by have nb8019 := nb801; rw [e149] at nb8019; exact (hu_none nb8019).1
              have nb803 : h63 qk760 = none := k_none keep93 fe88 nb802
              have nb804 : h59 qk760 = none := by have nb8039 := nb803; rw [e64] at nb8039; exact (hu_none nb8039).1
              have nb805 : h48 qk760 = none := by have nb8049 := nb804; rw [e60] at nb8049; exact (hu_none nb8049).1
              have nb806 : h44 qk760 = none := by have nb8059 := nb805; rw [e49] at nb8059; exact (hu_none nb8059).1
              have nb807 : h35 qk760 = none := by have nb8069 := nb806; rw [e45] at nb8069; exact (hu_none nb8069).1
              have nb808 : h31 qk760 = none := by have nb8079 := nb807; rw [e36] at nb8079; exact (hu_none nb8079).1
              have nb809 : h24 qk760 = none := by have nb8089 := nb808; rw [e32] at nb8089; exact (hu_none nb8089).1
              have nb810 : h20 qk760 = none := by have nb8099 := nb809; rw [e25] at nb8099; exact (hu_none nb8099).1
              have nb811 : h13 qk760 = none := by have nb8109 := nb810; rw [e21] at nb8109; exact (hu_none nb8109).1
              have nb812 : h10 qk760 = none := by have nb8119 := nb811; rw [e14] at nb8119; exact (hu_none nb8119).1
              have nb813 : h7 qk760 = none := by have nb8129 := nb812; rw [e11] at nb8129; exact (hu_none nb8129).1
              have nb814 : h2 qk760 = none := by have nb8139 := nb813; rw [e8] at nb8139; exact (hu_none nb8139).1
              have nb815 : h qk760 = none := by have nb8149 := nb814; rw [e3] at nb8149; exact (hu_none nb8149).1
              have f816 : h757 q47 = some (eR D 23 6 (va_up (va_up (va_up (va_up (va_up (fun _ => none) (Int.toNat 0) (some q162)) (Int.toNat (0 + 1)) (some q253)) (Int.toNat ((0 + 1) + 1)) (some q343)) (Int.toNat (((0 + 1) + 1) + 1)) (some q445)) (Int.toNat ((((0 + 1) + 1) + 1) + 1)) (some q559))) := keep764 q47 _ ((vnn f681 nq688)) f768
              refine x_aast C (t0 := 3) f816 rfl fe762 rfl ⟨by omega, by omega⟩ (by decide) dX7_init_102 (x_hn (fun h817 e818 => ?_))
              have f819 : h817 q47 = some (eR D 23 6 (va_up (va_up (va_up (va_up (va_up (va_up (fun _ => none) (Int.toNat 0) (some q162)) (Int.toNat (0 + 1)) (some q253)) (Int.toNat ((0 + 1) + 1)) (some q343)) (Int.toNat (((0 + 1) + 1) + 1)) (some q445)) (Int.toNat ((((0 + 1) + 1) + 1) + 1)) (some q559)) (Int.toNat (((((0 + 1) + 1) + 1) + 1) + 1)) (some q685))) := by rw [e818]; exact hu_s
              refine x_iinc C (x := ((((0 + 1) + 1) + 1) + 1) + 1) (ls' := [(0, .ref o), (1, vI ((((((0 + 1) + 1) + 1) + 1) + 1) + 1))]) dX7_init_103 1 rfl (by decide) rfl ?_
              refine x_goto (tgt := 77) C dX7_init_106 (by decide) ?_
              refine x_iload_n C dX7_init_77 1 rfl ?_
              refine x_aload_n C dX7_init_78 0 rfl ?_
              have f820 : h757 o = some (eO 7 [.ref q1, .ref q23, .ref q34, .ref q47, .ref q62, vI 0, vI 0]) := keep764 o _ ((vnn f683 nq688)) f755
              have f821 : h817 o = some (eO 7 [.ref q1, .ref q23, .ref q34, .ref q47, .ref q62, vI 0, vI 0]) := by rw [e818, hu_n (vnn f46 nq50)]; exact f820
              refine x_get C (v := .ref q47) f821 (T := TX7) rfl kX7_init_5 3 (by decide) kX7_init_11 rfl dX7_init_79 ?_
              refine x_alen C f819 (t0 := 3) rfl 6 rfl dX7_init_82 ?_
              refine x_icmp_ge (tgt := 109) C dX7_init_83 (by decide) (by omega) (by omega) (fun c822 => ?_) (fun c822 => ?_)
              · skip
                refine x_vret C G dX7_init_109 ?_ (by decide) (by decide)
                have f823 : h757 q1 = some (eI D 3 (fu (fu (fu (fun _ => 0) (Int.toNat 0) 2) (Int.toNat 1) 3) (Int.toNat 2) 4)) := keep764 q1 _ ((vnn f721 nq688)) f765
                have f824 : h817 q1 = some (eI D 3 (fu (fu (fu (fun _ => 0) (Int.toNat 0) 2) (Int.toNat 1) 3) (Int.toNat 2) 4)) := by rw [e818, hu_n (vnn f54 nq50)]; exact f823
                have f825 : h757 q23 = some (eR D 22 12 (fun _ => none)) := keep764 q23 _ ((vnn f723 nq688)) f766
                have f826 : h817 q23 = some (eR D 22 12 (fun _ => none)) := by rw [e818, hu_n (vnn f56 nq50)]; exact f825
                have f827 : h757 q34 = some (eR D 24 20 (fun _ => none)) := keep764 q34 _ ((vnn f725 nq688)) f767
                have f828 : h817 q34 = some (eR D 24 20 (fun _ => none)) := by rw [e818, hu_n (vnn f57 nq50)]; exact f827
                have f829 : h757 q62 = some (eO 5 [.ref qk83, .ref qk80, .ref qk81, .ref qk82, vI 0, vI ((0 : Nat) : Int), vI (-1)]) := keep764 q62 _ ((vnn f727 nq688)) f769
                have f830 : h817 q62 = some (eO 5 [.ref qk83, .ref qk80, .ref qk81, .ref qk82, vI 0, vI ((0 : Nat) : Int), vI (-1)]) := by rw [e818, hu_n (Ne.symm (vnn f74 nq65))]; exact f829
                have f831 : h757 qk83 = some (eO 0 [.ref q1, vI 0, vI 0, vI ((0 : Nat) : Int), vI 1]) := keep764 qk83 _ ((vnn f735 nq688)) f773
                have f832 : h817 qk83 = some (eO 0 [.ref q1, vI 0, vI 0, vI ((0 : Nat) : Int), vI 1]) := by rw [e818, hu_n (Ne.symm (vnn f98 nk87))]; exact f831
                have f833 : h757 qk80 = some (eI D 6144 (fun _ => 0)) := keep764 qk80 _ ((vnn f729 nq688)) f770
                have f834 : h817 qk80 = some (eI D 6144 (fun _ => 0)) := by rw [e818, hu_n (Ne.symm (vnn f98 nk84))]; exact f833
                have f835 : h757 qk81 = some (eI D 6144 (fun _ => 0)) := keep764 qk81 _ ((vnn f731 nq688)) f771
                have f836 : h817 qk81 = some (eI D 6144 (fun _ => 0)) := by rw [e818, hu_n (Ne.symm (vnn f98 nk85))]; exact f835
                have f837 : h757 qk82 = some (eZ D 96 (fun _ => 0)) := keep764 qk82 _ ((vnn f733 nq688)) f772
                have f838 : h817 qk82 = some (eZ D 96 (fun _ => 0)) := by rw [e818, hu_n (Ne.symm (vnn f98 nk86))]; exact f837
                have f839 : h757 q162 = some (eO 4 [.ref qk215, .null, vI 0, vI 0]) := keep764 q162 _ ((vnn f737 nq688)) f774
                have f840 : h817 q162 = some (eO 4 [.ref qk215, .null, vI 0, vI 0]) := by rw [e818, hu_n (Ne.symm (vnn f160 nq165))]; exact f839
                have f841 : h757 q253 = some (eO 4 [.ref qk300, .null, vI 0, vI 0]) := keep764 q253 _ ((vnn f741 nq688)) f776
                have f842 : h817 q253 = some (eO 4 [.ref qk300, .null, vI 0, vI 0]) := by rw [e818, hu_n (Ne.symm (vnn f249 nq256))]; exact f841
                have f843 : h757 q343 = some (eO 4 [.ref qk397, .null, vI 0, vI 0]) := keep764 q343 _ ((vnn f745 nq688)) f778
                have f844 : h817 q343 = some (eO 4 [.ref qk397, .null, vI 0, vI 0]) := by rw [e818, hu_n (Ne.symm (vnn f339 nq346))]; exact f843
                have f845 : h757 q445 = some (eO 4 [.ref qk506, .null, vI 0, vI 0]) := keep764 q445 _ ((vnn f749 nq688)) f780
                have f846 : h817 q445 = some (eO 4 [.ref qk506, .null, vI 0, vI 0]) := by rw [e818, hu_n (Ne.symm (vnn f441 nq448))]; exact f845
                have f847 : h757 q559 = some (eO 4 [.ref qk627, .null, vI 0, vI 0]) := keep764 q559 _ ((vnn f752 nq688)) f782
                have f848 : h817 q559 = some (eO 4 [.ref qk627, .null, vI 0, vI 0]) := by rw [e818, hu_n (Ne.symm (vnn f555 nq562))]; exact f847
                have f849 : h817 q685 = some (eO 4 [.ref qk760, .null, vI 0, vI 0]) := by rw [e818, hu_n (Ne.symm (vnn f681 nq688))]; exact fe762
                have f850 : h757 qk215 = some (eO 0 [.ref q1, vI 0, vI 0, vI ((0 : Nat) : Int), vI 1]) := keep764 qk215 _ ((vnn f739 nq688)) f775
                have f851 : h817 qk215 = some (eO 0 [.ref q1, vI 0, vI 0, vI ((0 : Nat) : Int), vI 1]) := by rw [e818, hu_n (Ne.symm (vnn f223 nk216))]; exact f850
                have f852 : h757 qk300 = some (eO 0 [.ref q1, vI 0, vI 0, vI ((0 : Nat) : Int), vI 1]) := keep764 qk300 _ ((vnn f743 nq688)) f777
                have f853 : h817 qk300 = some (eO 0 [.ref q1, vI 0, vI 0, vI ((0 : Nat) : Int), vI 1]) := by rw [e818, hu_n (Ne.symm (vnn f308 nk301))]; exact f852
                have f854 : h757 qk397 = some (eO 0 [.ref q1, vI 0, vI 0, vI ((0 : Nat) : Int), vI 1]) := keep764 qk397 _ ((vnn f747 nq688)) f779
                have f855 : h817 qk397 = some (eO 0 [.ref q1, vI 0, vI 0, vI ((0 : Nat) : Int), vI 1]) := by rw [e818, hu_n (Ne.symm (vnn f405 nk398))]; exact f854
                have f856 : h757 qk506 = some (eO 0 [.ref q1, vI 0, vI 0, vI ((0 : Nat) : Int), vI 1]) := keep764 qk506 _ ((vnn f751 nq688)) f781
                have f857 : h817 qk506 = some (eO 0 [.ref q1, vI 0, vI 0, vI ((0 : Nat) : Int), vI 1]) := by rw [e818, hu_n (Ne.symm (vnn f514 nk507))]; exact f856
                have f858 : h757 qk627 = some (eO 0 [.ref q1, vI 0, vI 0, vI ((0 : Nat) : Int), vI 1]) := keep764 qk627 _ ((vnn f753 nq688)) f783
                have f859 : h817 qk627 = some (eO 0 [.ref q1, vI 0, vI 0, vI ((0 : Nat) : Int), vI 1]) := by rw [e818, hu_n (Ne.symm (vnn f635 nk628))]; exact f858
                have f860 : h817 qk760 = some (eO 0 [.ref q1, vI 0, vI 0, vI ((0 : Nat) : Int), vI 1]) := by rw [e818, hu_n (Ne.symm (vnn f768 nk761))]; exact fe763
                have hK : ∀ (b9 : Nat) (e9 : va_E), b9 ≠ o → h b9 = some e9 → h817 b9 = some e9 := fun b9 e9 hb9 he9 => by
                  have k861 : h2 b9 = some e9 := by rw [e3, hu_n (vnn he9 nb5)]; exact he9
                  have k862 : h7 b9 = some e9 := by rw [e8, hu_n (vnn he9 nb5)]; exact k861
                  have k863 : h10 b9 = some e9 := by rw [e11, hu_n (vnn he9 nb5)]; exact k862
                  have k864 : h13 b9 = some e9 := by rw [e14, hu_n (vnn he9 nb5)]; exact k863
                  have k865 : h20 b9 = some e9 := by rw [e21, hu_n hb9]; exact k864
                  have k866 : h24 b9 = some e9 := by rw [e25, hu_n (vnn he9 nb27)]; exact k865
                  have k867 : h31 b9 = some e9 := by rw [e32, hu_n hb9]; exact k866
                  have k868 : h35 b9 = some e9 := by rw [e36, hu_n (vnn he9 nb38)]; exact k867
                  have k869 : h44 b9 = some e9 := by rw [e45, hu_n hb9]; exact k868
                  have k870 : h48 b9 = some e9 := by rw [e49, hu_n (vnn he9 nb51)]; exact k869
                  have k871 : h59 b9 = some e9 := by rw [e60, hu_n hb9]; exact k870
                  have k872 : h63 b9 = some e9 := by rw [e64, hu_n (vnn he9 nb66)]; exact k871
                  have k873 := keep93 b9 e9 (vnn he9 nb66) k872
                  have k874 : h148 b9 = some e9 := by rw [e149, hu_n hb9]; exact k873
                  have k875 : h151 b9 = some e9 := by rw [e152, hu_n hb9]; exact k874
                  have k876 : h154 b9 = some e9 := by rw [e155, hu_n hb9]; exact k875
                  have k877 : h163 b9 = some e9 := by rw [e164, hu_n (vnn he9 nb181)]; exact k876
                  have k878 := keep219 b9 e9 (vnn he9 nb181) k877
                  have k879 : h247 b9 = some e9 := by rw [e248, hu_n (vnn he9 nb51)]; exact k878
                  have k880 : h254 b9 = some e9 := by rw [e255, hu_n (vnn he9 nb275)]; exact k879
                  have k881 := keep304 b9 e9 (vnn he9 nb275) k880
                  have k882 : h337 b9 = some e9 := by rw [e338, hu_n (vnn he9 nb51)]; exact k881
                  have k883 : h344 b9 = some e9 := by rw [e345, hu_n (vnn he9 nb368)]; exact k882
                  have k884 := keep401 b9 e9 (vnn he9 nb368) k883
                  have k885 : h439 b9 = some e9 := by rw [e440, hu_n (vnn he9 nb51)]; exact k884
                  have k886 : h446 b9 = some e9 := by rw [e447, hu_n (vnn he9 nb473)]; exact k885
                  have k887 := keep510 b9 e9 (vnn he9 nb473) k886
                  have k888 : h553 b9 = some e9 := by rw [e554, hu_n (vnn he9 nb51)]; exact k887
                  have k889 : h560 b9 = some e9 := by rw [e561, hu_n (vnn he9 nb590)]; exact k888
                  have k890 := keep631 b9 e9 (vnn he9 nb590) k889
                  have k891 : h679 b9 = some e9 := by rw [e680, hu_n (vnn he9 nb51)]; exact k890
                  have k892 : h686 b9 = some e9 := by rw [e687, hu_n (vnn he9 nb719)]; exact k891
                  have k893 := keep764 b9 e9 (vnn he9 nb719) k892
                  have k894 : h817 b9 = some e9 := by rw [e818, hu_n (vnn he9 nb51)]; exact k893
                  exact k894
                have hd : ∀ i j, i < j → j < 22 → (lst22 [o, q1, q23, q34, q47, q62, qk83, qk80, qk81, qk82, q162, q253, q343, q445, q559, q685, qk215, qk300, qk397, qk506, qk627, qk760]) i ≠ (lst22 [o, q1, q23, q34, q47, q62, qk83, qk80, qk81, qk82, q162, q253, q343, q445, q559, q685, qk215, qk300, qk397, qk506, qk627, qk760]) j := by
                  intro i j hij hj
                  have d0_1 : o ≠ q1 := (vnn ho nq4)
                  have d0_2 : o ≠ q23 := (vnn f22 nq26)
                  have d1_2 : q1 ≠ q23 := (vnn f29 nq26)
                  have d0_3 : o ≠ q34 := (vnn f33 nq37)
                  have d1_3 : q1 ≠ q34 := (vnn f41 nq37)
                  have d2_3 : q23 ≠ q34 := (vnn f42 nq37)
                  have d0_4 : o ≠ q47 := (vnn f46 nq50)
                  have d1_4 : q1 ≠ q47 := (vnn f54 nq50)
                  have d2_4 : q23 ≠ q47 := (vnn f56 nq50)
                  have d3_4 : q34 ≠ q47 := (vnn f57 nq50)
                  have d0_5 : o ≠ q62 := (vnn f61 nq65)
                  have d1_5 : q1 ≠ q62 := (vnn f69 nq65)
                  have d2_5 : q23 ≠ q62 := (vnn f71 nq65)
                  have d3_5 : q34 ≠ q62 := (vnn f73 nq65)
                  have d4_5 : q47 ≠ q62 := (vnn f74 nq65)
                  have d0_6 : o ≠ qk83 := (vnn f75 nk87)
                  have d1_6 : q1 ≠ qk83 := (vnn f95 nk87)
                  have d2_6 : q23 ≠ qk83 := (vnn f96 nk87)
                  have d3_6 : q34 ≠ qk83 := (vnn f97 nk87)
                  have d4_6 : q47 ≠ qk83 := (vnn f98 nk87)
                  have d5_6 : q62 ≠ qk83 := (vnn f67 nk87)
                  have d0_7 : o ≠ qk80 := (vnn f75 nk84)
                  have d1_7 : q1 ≠ qk80 := (vnn f95 nk84)
                  have d2_7 : q23 ≠ qk80 := (vnn f96 nk84)
                  have d3_7 : q34 ≠ qk80 := (vnn f97 nk84)
                  have d4_7 : q47 ≠ qk80 := (vnn f98 nk84)
                  have d5_7 : q62 ≠ qk80 := (vnn f67 nk84)
                  have d6_7 : qk83 ≠ qk80 := (Ne.symm (vnt fe89 fe92 (p := (0, 6144)) (q := (3, 0)) rfl rfl (by decide)))
                  have d0_8 : o ≠ qk81 := (vnn f75 nk85)
                  have d1_8 : q1 ≠ qk81 := (vnn f95 nk85)
                  have d2_8 : q23 ≠ qk81 := (vnn f96 nk85)
                  have d3_8 : q34 ≠ qk81 := (vnn f97 nk85)
                  have d4_8 : q47 ≠ qk81 := (vnn f98 nk85)
                  have d5_8 : q62 ≠ qk81 := (vnn f67 nk85)
                  have d6_8 : qk83 ≠ qk81 := (Ne.symm (vnt fe90 fe92 (p := (0, 6144)) (q := (3, 0)) rfl rfl (by decide)))
                  have d7_8 : qk80 ≠ qk81 := dk94
                  have d0_9 : o ≠ qk82 := (vnn f75 nk86)
                  have d1_9 : q1 ≠ qk82 := (vnn f95 nk86)
                  have d2_9 : q23 ≠ qk82 := (vnn f96 nk86)
                  have d3_9 : q34 ≠ qk82 := (vnn f97 nk86)
                  have d4_9 : q47 ≠ qk82 := (vnn f98 nk86)
                  have d5_9 : q62 ≠ qk82 := (vnn f67 nk86)
                  have d6_9 : qk83 ≠ qk82 := (Ne.symm (vnt fe91 fe92 (p := (0, 96)) (q := (3, 0)) rfl rfl (by decide)))
                  have d7_9 : qk80 ≠ qk82 := (vnt fe89 fe91 (p := (0, 6144)) (q := (0, 96)) rfl rfl (by decide))
                  have d8_9 : qk81 ≠ qk82 := (vnt fe90 fe91 (p := (0, 6144)) (q := (0, 96)) rfl rfl (by decide))
                  have d0_10 : o ≠ q162 := (vnn f156 nq165)
                  have d1_10 : q1 ≠ q162 := (vnn f185 nq165)
                  have d2_10 : q23 ≠ q162 := (vnn f189 nq165)
                  have d3_10 : q34 ≠ q162 := (vnn f193 nq165)
                  have d4_10 : q47 ≠ q162 := (vnn f160 nq165)
                  have d5_10 : q62 ≠ q162 := (vnn f196 nq165)
                  have d6_10 : qk83 ≠ q162 := (vnn f208 nq165)
                  have d7_10 : qk80 ≠ q162 := (vnn f199 nq165)
                  have d8_10 : qk81 ≠ q162 := (vnn f202 nq165)
                  have d9_10 : qk82 ≠ q162 := (vnn f205 nq165)
                  have d0_11 : o ≠ q253 := (vnn f251 nq256)
                  have d1_11 : q1 ≠ q253 := (vnn f277 nq256)
                  have d2_11 : q23 ≠ q253 := (vnn f279 nq256)
                  have d3_11 : q34 ≠ q253 := (vnn f281 nq256)
                  have d4_11 : q47 ≠ q253 := (vnn f249 nq256)
                  have d5_11 : q62 ≠ q253 := (vnn f283 nq256)
                  have d6_11 : qk83 ≠ q253 := (vnn f291 nq256)
                  have d7_11 : qk80 ≠ q253 := (vnn f285 nq256)
                  have d8_11 : qk81 ≠ q253 := (vnn f287 nq256)
                  have d9_11 : qk82 ≠ q253 := (vnn f289 nq256)
                  have d10_11 : q162 ≠ q253 := (vnn f292 nq256)
                  have d0_12 : o ≠ q343 := (vnn f341 nq346)
                  have d1_12 : q1 ≠ q343 := (vnn f370 nq346)
                  have d2_12 : q23 ≠ q343 := (vnn f372 nq346)
                  have d3_12 : q34 ≠ q343 := (vnn f374 nq346)
                  have d4_12 : q47 ≠ q343 := (vnn f339 nq346)
                  have d5_12 : q62 ≠ q343 := (vnn f376 nq346)
                  have d6_12 : qk83 ≠ q343 := (vnn f384 nq346)
                  have d7_12 : qk80 ≠ q343 := (vnn f378 nq346)
                  have d8_12 : qk81 ≠ q343 := (vnn f380 nq346)
                  have d9_12 : qk82 ≠ q343 := (vnn f382 nq346)
                  have d10_12 : q162 ≠ q343 := (vnn f386 nq346)
                  have d11_12 : q253 ≠ q343 := (vnn f389 nq346)
                  have d0_13 : o ≠ q445 := (vnn f443 nq448)
                  have d1_13 : q1 ≠ q445 := (vnn f475 nq448)
                  have d2_13 : q23 ≠ q445 := (vnn f477 nq448)
                  have d3_13 : q34 ≠ q445 := (vnn f479 nq448)
                  have d4_13 : q47 ≠ q445 := (vnn f441 nq448)
                  have d5_13 : q62 ≠ q445 := (vnn f481 nq448)
                  have d6_13 : qk83 ≠ q445 := (vnn f489 nq448)
                  have d7_13 : qk80 ≠ q445 := (vnn f483 nq448)
                  have d8_13 : qk81 ≠ q445 := (vnn f485 nq448)
                  have d9_13 : qk82 ≠ q445 := (vnn f487 nq448)
                  have d10_13 : q162 ≠ q445 := (vnn f491 nq448)
                  have d11_13 : q253 ≠ q445 := (vnn f495 nq448)
                  have d12_13 : q343 ≠ q445 := (vnn f498 nq448)
                  have d0_14 : o ≠ q559 := (vnn f557 nq562)
                  have d1_14 : q1 ≠ q559 := (vnn f592 nq562)
                  have d2_14 : q23 ≠ q559 := (vnn f594 nq562)
                  have d3_14 : q34 ≠ q559 := (vnn f596 nq562)
                  have d4_14 : q47 ≠ q559 := (vnn f555 nq562)
                  have d5_14 : q62 ≠ q559 := (vnn f598 nq562)
                  have d6_14 : qk83 ≠ q559 := (vnn f606 nq562)
                  have d7_14 : qk80 ≠ q559 := (vnn f600 nq562)
                  have d8_14 : qk81 ≠ q559 := (vnn f602 nq562)
                  have d9_14 : qk82 ≠ q559 := (vnn f604 nq562)
                  have d10_14 : q162 ≠ q559 := (vnn f608 nq562)
                  have d11_14 : q253 ≠ q559 := (vnn f612 nq562)
                  have d12_14 : q343 ≠ q559 := (vnn f616 nq562)
                  have d13_14 : q445 ≠ q559 := (vnn f619 nq562)
                  have d0_15 : o ≠ q685 := (vnn f683 nq688)
                  have d1_15 : q1 ≠ q685 := (vnn f721 nq688)
                  have d2_15 : q23 ≠ q685 := (vnn f723 nq688)
                  have d3_15 : q34 ≠ q685 := (vnn f725 nq688)
                  have d4_15 : q47 ≠ q685 := (vnn f681 nq688)
                  have d5_15 : q62 ≠ q685 := (vnn f727 nq688)
                  have d6_15 : qk83 ≠ q685 := (vnn f735 nq688)
                  have d7_15 : qk80 ≠ q685 := (vnn f729 nq688)
                  have d8_15 : qk81 ≠ q685 := (vnn f731 nq688)
                  have d9_15 : qk82 ≠ q685 := (vnn f733 nq688)
                  have d10_15 : q162 ≠ q685 := (vnn f737 nq688)
                  have d11_15 : q253 ≠ q685 := (vnn f741 nq688)
                  have d12_15 : q343 ≠ q685 := (vnn f745 nq688)
                  have d13_15 : q445 ≠ q685 := (vnn f749 nq688)
                  have d14_15 : q559 ≠ q685 := (vnn f752 nq688)
                  have d0_16 : o ≠ qk215 := (vnn f210 nk216)
                  have d1_16 : q1 ≠ qk215 := (vnn f220 nk216)
                  have d2_16 : q23 ≠ qk215 := (vnn f221 nk216)
                  have d3_16 : q34 ≠ qk215 := (vnn f222 nk216)
                  have d4_16 : q47 ≠ qk215 := (vnn f223 nk216)
                  have d5_16 : q62 ≠ qk215 := (vnn f224 nk216)
                  have d6_16 : qk83 ≠ qk215 := (vnn f228 nk216)
                  have d7_16 : qk80 ≠ qk215 := (vnn f225 nk216)
                  have d8_16 : qk81 ≠ qk215 := (vnn f226 nk216)
                  have d9_16 : qk82 ≠ qk215 := (vnn f227 nk216)
                  have d10_16 : q162 ≠ qk215 := (vnn f209 nk216)
                  have d11_16 : q253 ≠ qk215 := (Ne.symm (vnn f293 nq256))
                  have d12_16 : q343 ≠ qk215 := (Ne.symm (vnn f388 nq346))
                  have d13_16 : q445 ≠ qk215 := (Ne.symm (vnn f493 nq448))
                  have d14_16 : q559 ≠ qk215 := (Ne.symm (vnn f610 nq562))
                  have d15_16 : q685 ≠ qk215 := (Ne.symm (vnn f739 nq688))
                  have d0_17 : o ≠ qk300 := (vnn f295 nk301)
                  have d1_17 : q1 ≠ qk300 := (vnn f305 nk301)
                  have d2_17 : q23 ≠ qk300 := (vnn f306 nk301)
                  have d3_17 : q34 ≠ qk300 := (vnn f307 nk301)
                  have d4_17 : q47 ≠ qk300 := (vnn f308 nk301)
                  have d5_17 : q62 ≠ qk300 := (vnn f309 nk301)
                  have d6_17 : qk83 ≠ qk300 := (vnn f313 nk301)
                  have d7_17 : qk80 ≠ qk300 := (vnn f310 nk301)
                  have d8_17 : qk81 ≠ qk300 := (vnn f311 nk301)
                  have d9_17 : qk82 ≠ qk300 := (vnn f312 nk301)
                  have d10_17 : q162 ≠ qk300 := (vnn f314 nk301)
                  have d11_17 : q253 ≠ qk300 := (vnn f294 nk301)
                  have d12_17 : q343 ≠ qk300 := (Ne.symm (vnn f390 nq346))
                  have d13_17 : q445 ≠ qk300 := (Ne.symm (vnn f497 nq448))
                  have d14_17 : q559 ≠ qk300 := (Ne.symm (vnn f614 nq562))
                  have d15_17 : q685 ≠ qk300 := (Ne.symm (vnn f743 nq688))
                  have d16_17 : qk215 ≠ qk300 := (vnn f315 nk301)
                  have d0_18 : o ≠ qk397 := (vnn f392 nk398)
                  have d1_18 : q1 ≠ qk397 := (vnn f402 nk398)
                  have d2_18 : q23 ≠ qk397 := (vnn f403 nk398)
                  have d3_18 : q34 ≠ qk397 := (vnn f404 nk398)
                  have d4_18 : q47 ≠ qk397 := (vnn f405 nk398)
                  have d5_18 : q62 ≠ qk397 := (vnn f406 nk398)
                  have d6_18 : qk83 ≠ qk397 := (vnn f410 nk398)
                  have d7_18 : qk80 ≠ qk397 := (vnn f407 nk398)
                  have d8_18 : qk81 ≠ qk397 := (vnn f408 nk398)
                  have d9_18 : qk82 ≠ qk397 := (vnn f409 nk398)
                  have d10_18 : q162 ≠ qk397 := (vnn f411 nk398)
                  have d11_18 : q253 ≠ qk397 := (vnn f413 nk398)
                  have d12_18 : q343 ≠ qk397 := (vnn f391 nk398)
                  have d13_18 : q445 ≠ qk397 := (Ne.symm (vnn f499 nq448))
                  have d14_18 : q559 ≠ qk397 := (Ne.symm (vnn f618 nq562))
                  have d15_18 : q685 ≠ qk397 := (Ne.symm (vnn f747 nq688))
                  have d16_18 : qk215 ≠ qk397 := (vnn f412 nk398)
                  have d17_18 : qk300 ≠ qk397 := (vnn f414 nk398)
                  have d0_19 : o ≠ qk506 := (vnn f501 nk507)
                  have d1_19 : q1 ≠ qk506 := (vnn f511 nk507)
                  have d2_19 : q23 ≠ qk506 := (vnn f512 nk507)
                  have d3_19 : q34 ≠ qk506 := (vnn f513 nk507)
                  have d4_19 : q47 ≠ qk506 := (vnn f514 nk507)
                  have d5_19 : q62 ≠ qk506 := (vnn f515 nk507)
                  have d6_19 : qk83 ≠ qk506 := (vnn f519 nk507)
                  have d7_19 : qk80 ≠ qk506 := (vnn f516 nk507)
                  have d8_19 : qk81 ≠ qk506 := (vnn f517 nk507)
                  have d9_19 : qk82 ≠ qk506 := (vnn f518 nk507)
                  have d10_19 : q162 ≠ qk506 := (vnn f520 nk507)
                  have d11_19 : q253 ≠ qk506 := (vnn f522 nk507)
                  have d12_19 : q343 ≠ qk506 := (vnn f524 nk507)
                  have d13_19 : q445 ≠ qk506 := (vnn f500 nk507)
                  have d14_19 : q559 ≠ qk506 := (Ne.symm (vnn f620 nq562))
                  have d15_19 : q685 ≠ qk506 := (Ne.symm (vnn f751 nq688))
                  have d16_19 : qk215 ≠ qk506 := (vnn f521 nk507)
                  have d17_19 : qk300 ≠ qk506 := (vnn f523 nk507)
                  have d18_19 : qk397 ≠ qk506 := (vnn f525 nk507)
                  have d0_20 : o ≠ qk627 := (vnn f622 nk628)
                  have d1_20 : q1 ≠ qk627 := (vnn f632 nk628)
                  have d2_20 : q23 ≠ qk627 := (vnn f633 nk628)
                  have d3_20 : q34 ≠ qk627 := (vnn f634 nk628)
                  have d4_20 : q47 ≠ qk627 := (vnn f635 nk628)
                  have d5_20 : q62 ≠ qk627 := (vnn f636 nk628)
                  have d6_20 : qk83 ≠ qk627 := (vnn f640 nk628)
                  have d7_20 : qk80 ≠ qk627 := (vnn f637 nk628)
                  have d8_20 : qk81 ≠ qk627 := (vnn f638 nk628)
                  have d9_20 : qk82 ≠ qk627 := (vnn f639 nk628)
                  have d10_20 : q162 ≠ qk627 := (vnn f641 nk628)
                  have d11_20 : q253 ≠ qk627 := (vnn f643 nk628)
                  have d12_20 : q343 ≠ qk627 := (vnn f645 nk628)
                  have d13_20 : q445 ≠ qk627 := (vnn f647 nk628)
                  have d14_20 : q559 ≠ qk627 := (vnn f621 nk628)
                  have d15_20 : q685 ≠ qk627 := (Ne.symm (vnn f753 nq688))
                  have d16_20 : qk215 ≠ qk627 := (vnn f642 nk628)
                  have d17_20 : qk300 ≠ qk627 := (vnn f644 nk628)
                  have d18_20 : qk397 ≠ qk627 := (vnn f646 nk628)
                  have d19_20 : qk506 ≠ qk627 := (vnn f648 nk628)
                  have d0_21 : o ≠ qk760 := (vnn f755 nk761)
                  have d1_21 : q1 ≠ qk760 := (vnn f765 nk761)
                  have d2_21 : q23 ≠ qk760 := (vnn f766 nk761)
                  have d3_21 : q34 ≠ qk760 := (vnn f767 nk761)
                  have d4_21 : q47 ≠ qk760 := (vnn f768 nk761)
                  have d5_21 : q62 ≠ qk760 := (vnn f769 nk761)
                  have d6_21 : qk83 ≠ qk760 := (vnn f773 nk761)
                  have d7_21 : qk80 ≠ qk760 := (vnn f770 nk761)
                  have d8_21 : qk81 ≠ qk760 := (vnn f771 nk761)
                  have d9_21 : qk82 ≠ qk760 := (vnn f772 nk761)
                  have d10_21 : q162 ≠ qk760 := (vnn f774 nk761)
                  have d11_21 : q253 ≠ qk760 := (vnn f776 nk761)
                  have d12_21 : q343 ≠ qk760 := (vnn f778 nk761)
                  have d13_21 : q445 ≠ qk760 := (vnn f780 nk761)
                  have d14_21 : q559 ≠ qk760 := (vnn f782 nk761)
                  have d15_21 : q685 ≠ qk760 := (vnn f754 nk761)
                  have d16_21 : qk215 ≠ qk760 := (vnn f775 nk761)
                  have d17_21 : qk300 ≠ qk760 := (vnn f777 nk761)
                  have d18_21 : qk397 ≠ qk760 := (vnn f779 nk761)
                  have d19_21 : qk506 ≠ qk760 := (vnn f781 nk761)
                  have d20_21 : qk627 ≠ qk760 := (vnn f783 nk761)
                  rcases (show j = 1 ∨ j = 2 ∨ j = 3 ∨ j = 4 ∨ j = 5 ∨ j = 6 ∨ j = 7 ∨ j = 8 ∨ j = 9 ∨ j = 10 ∨ j = 11 ∨ j = 12 ∨ j = 13 ∨ j = 14 ∨ j = 15 ∨ j = 16 ∨ j = 17 ∨ j = 18 ∨ j = 19 ∨ j = 20 ∨ j = 21 by omega) with rfl | rfl | rfl | rfl | rfl | rfl | rfl | rfl | rfl | rfl | rfl | rfl | rfl | rfl | rfl | rfl | rfl | rfl | rfl | rfl | rfl
                  · rcases (show i = 0 by omega) with rfl; exact d0_1
                  · rcases (show i = 0 ∨ i = 1 by omega) with rfl | rfl
                    · exact d0_2
                    · exact d1_2
                  · rcases (show i = 0 ∨ i = 1 ∨ i = 2 by omega) with rfl | rfl | rfl
                    · exact d0_3
                    · exact d1_3
                    · exact d2_3
                  · rcases (show i = 0 ∨ i = 1 ∨ i = 2 ∨ i = 3 by omega) with rfl | rfl | rfl | rfl
                    · exact d0_4
                    · exact d1_4
                    · exact d2_4
                    · exact d3_4
                  · rcases (show i = 0 ∨ i = 1 ∨ i = 2 ∨ i = 3 ∨ i = 4 by omega) with rfl | rfl | rfl | rfl | rfl
                    · exact d0_5
                    · exact d1_5
                    · exact d2_5
                    · exact d3_5
                    · exact d4_5
                  · rcases (show i = 0 ∨ i = 1 ∨ i = 2 ∨ i = 3 ∨ i = 4 ∨ i = 5 by omega) with rfl | rfl | rfl | rfl | rfl | rfl
                    · exact d0_6
                    · exact d1_6
                    · exact d2_6
                    · exact d3_6
                    · exact d4_6
                    · exact d5_6
                  · rcases (show i = 0 ∨ i = 1 ∨ i = 2 ∨ i = 3 ∨ i = 4 ∨ i = 5 ∨ i = 6 by omega) with rfl | rfl | rfl | rfl | rfl | rfl | rfl
                    · exact d0_7
                    · exact d1_7
                    · exact d2_7
                    · exact d3_7
                    · exact d4_7
                    · exact d5_7
                    · exact d6_7
                  · rcases (show i = 0 ∨ i = 1 ∨ i = 2 ∨ i = 3 ∨ i = 4 ∨ i = 5 ∨ i = 6 ∨ i = 7 by omega) with rfl | rfl | rfl | rfl | rfl | rfl | rfl | rfl
                    · exact d0_8
                    · exact d1_8
                    · exact d2_8
                    · exact d3_8
                    · exact d4_8
                    · exact d5_8
                    · exact d6_8
                    · exact d7_8
                  · rcases (show i = 0 ∨ i = 1 ∨ i = 2 ∨ i = 3 ∨ i = 4 ∨ i = 5 ∨ i = 6 ∨ i = 7 ∨ i = 8 by omega) with rfl | rfl | rfl | rfl | rfl | rfl | rfl | rfl | rfl
                    · exact d0_9
                    · exact d1_9
                    · exact d2_9
                    · exact d3_9
                    · exact d4_9
                    · exact d5_9
                    · exact d6_9
                    · exact d7_9
                    · exact d8_9
                  · rcases (show i = 0 ∨ i = 1 ∨ i = 2 ∨ i = 3 ∨ i = 4 ∨ i = 5 ∨ i = 6 ∨ i = 7 ∨ i = 8 ∨ i = 9 by omega) with rfl | rfl | rfl | rfl | rfl | rfl | rfl | rfl | rfl | rfl
                    · exact d0_10
                    · exact d1_10
                    · exact d2_10
                    · exact d3_10
                    · exact d4_10
                    · exact d5_10
                    · exact d6_10
                    · exact d7_10
                    · exact d8_10
                    · exact d9_10
                  · rcases (show i = 0 ∨ i = 1 ∨ i = 2 ∨ i = 3 ∨ i = 4 ∨ i = 5 ∨ i = 6 ∨ i = 7 ∨ i = 8 ∨ i = 9 ∨ i = 10 by omega) with rfl | rfl | rfl | rfl | rfl | rfl | rfl | rfl | rfl | rfl | rfl
                    · exact d0_11
                    · exact d1_11
                    · exact d2_11
                    · exact d3_11
                    · exact d4_11
                    · exact d5_11
                    · exact d6_11
                    · exact d7_11
                    · exact d8_11
                    · exact d9_11
                    · exact d10_11
                  · rcases (show i = 0 ∨ i = 1 ∨ i = 2 ∨ i = 3 ∨ i = 4 ∨ i = 5 ∨ i = 6 ∨ i = 7 ∨ i = 8 ∨ i = 9 ∨ i = 10 ∨ i = 11 by omega) with rfl | rfl | rfl | rfl | rfl | rfl | rfl | rfl | rfl | rfl | rfl | rfl
                    · exact d0_12
                    · exact d1_12
                    · exact d2_12
                    · exact d3_12
                    · exact d4_12
                    · exact d5_12
                    · exact d6_12
                    · exact d7_12
                    · exact d8_12
                    · exact d9_12
                    · exact d10_12
                    · exact d11_12
                  · rcases (show i = 0 ∨ i = 1 ∨ i = 2 ∨ i = 3 ∨ i = 4 ∨ i = 5 ∨ i = 6 ∨ i = 7 ∨ i = 8 ∨ i = 9 ∨ i = 10 ∨ i = 11 ∨ i = 12 by omega) with rfl | rfl | rfl | rfl | rfl | rfl | rfl | rfl | rfl | rfl | rfl | rfl | rfl
                    · exact d0_13
                    · exact d1_13
                    · exact d2_13
                    · exact d3_13
                    · exact d4_13
                    · exact d5_13
                    · exact d6_13
                    · exact d7_13
                    · exact d8_13
                    · exact d9_13
                    · exact d10_13
                    · exact d11_13
                    · exact d12_13
                  · rcases (show i = 0 ∨ i = 1 ∨ i = 2 ∨ i = 3 ∨ i = 4 ∨ i = 5 ∨ i = 6 ∨ i = 7 ∨ i = 8 ∨ i = 9 ∨ i = 10 ∨ i = 11 ∨ i = 12 ∨ i = 13 by omega) with rfl | rfl | rfl | rfl | rfl | rfl | rfl | rfl | rfl | rfl | rfl | rfl | rfl | rfl
                    · exact d0_14
                    · exact d1_14
                    · exact d2_14
                    · exact d3_14
                    · exact d4_14
                    · exact d5_14
                    · exact d6_14
                    · exact d7_14
                    · exact d8_14
                    · exact d9_14
                    · exact d10_14
                    · exact d11_14
                    · exact d12_14
                    · exact d13_14
                  · rcases (show i = 0 ∨ i = 1 ∨ i = 2 ∨ i = 3 ∨ i = 4 ∨ i = 5 ∨ i = 6 ∨ i = 7 ∨ i = 8 ∨ i = 9 ∨ i = 10 ∨ i = 11 ∨ i = 12 ∨ i = 13 ∨ i = 14 by omega) with rfl | rfl | rfl | rfl | rfl | rfl | rfl | rfl | rfl | rfl | rfl | rfl | rfl | rfl | rfl
                    · exact d0_15
                    · exact d1_15
                    · exact d2_15
                    · exact d3_15
                    · exact d4_15
                    · exact d5_15
                    · exact d6_15
                    · exact d7_15
                    · exact d8_15
                    · exact d9_15
                    · exact d10_15
                    · exact d11_15
                    · exact d12_15
                    · exact d13_15
                    · exact d14_15
                  · rcases (show i = 0 ∨ i = 1 ∨ i = 2 ∨ i = 3 ∨ i = 4 ∨ i = 5 ∨ i = 6 ∨ i = 7 ∨ i = 8 ∨ i = 9 ∨ i = 10 ∨ i = 11 ∨ i = 12 ∨ i = 13 ∨ i = 14 ∨ i = 15 by omega) with rfl | rfl | rfl | rfl | rfl | rfl | rfl | rfl | rfl | rfl | rfl | rfl | rfl | rfl | rfl | rfl
                    · exact d0_16
                    · exact d1_16
                    · exact d2_16
                    · exact d3_16
                    · exact d4_16
                    · exact d5_16
                    · exact d6_16
                    · exact d7_16
                    · exact d8_16
                    · exact d9_16
                    · exact d10_16
                    · exact d11_16
                    · exact d12_16
                    · exact d13_16
                    · exact d14_16
                    · exact d15_16
                  · rcases (show i = 0 ∨ i = 1 ∨ i = 2 ∨ i = 3 ∨ i = 4 ∨ i = 5 ∨ i = 6 ∨ i = 7 ∨ i = 8 ∨ i = 9 ∨ i = 10 ∨ i = 11 ∨ i = 12 ∨ i = 13 ∨ i = 14 ∨ i = 15 ∨ i = 16 by omega) with rfl | rfl | rfl | rfl | rfl | rfl | rfl | rfl | rfl | rfl | rfl | rfl | rfl | rfl | rfl | rfl | rfl
                    · exact d0_17
                    · exact d1_17
                    · exact d2_17
                    · exact d3_17
                    · exact d4_17
                    · exact d5_17
                    · exact d6_17
                    · exact d7_17
                    · exact d8_17
                    · exact d9_17
                    · exact d10_17
                    · exact d11_17
                    · exact d12_17
                    · exact d13_17
                    · exact d14_17
                    · exact d15_17
                    · exact d16_17
                  · rcases (show i = 0 ∨ i = 1 ∨ i = 2 ∨ i = 3 ∨ i = 4 ∨ i = 5 ∨ i = 6 ∨ i = 7 ∨ i = 8 ∨ i = 9 ∨ i = 10 ∨ i = 11 ∨ i = 12 ∨ i = 13 ∨ i = 14 ∨ i = 15 ∨ i = 16 ∨ i = 17 by omega) with rfl | rfl | rfl | rfl | rfl | rfl | rfl | rfl | rfl | rfl | rfl | rfl | rfl | rfl | rfl | rfl | rfl | rfl
                    · exact d0_18
                    · exact d1_18
                    · exact d2_18
                    · exact d3_18
                    · exact d4_18
                    · exact d5_18
                    · exact d6_18
                    · exact d7_18
                    · exact d8_18
                    · exact d9_18
                    · exact d10_18
                    · exact d11_18
                    · exact d12_18
                    · exact d13_18
                    · exact d14_18
                    · exact d15_18
                    · exact d16_18
                    · exact d17_18
                  · rcases (show i = 0 ∨ i = 1 ∨ i = 2 ∨ i = 3 ∨ i = 4 ∨ i = 5 ∨ i = 6 ∨ i = 7 ∨ i = 8 ∨ i = 9 ∨ i = 10 ∨ i = 11 ∨ i = 12 ∨ i = 13 ∨ i = 14 ∨ i = 15 ∨ i = 16 ∨ i = 17 ∨ i = 18 by omega) with rfl | rfl | rfl | rfl | rfl | rfl | rfl | rfl | rfl | rfl | rfl | rfl | rfl | rfl | rfl | rfl | rfl | rfl | rfl
                    · exact d0_19
                    · exact d1_19
                    · exact d2_19
                    · exact d3_19
                    · exact d4_19
                    · exact d5_19
                    · exact d6_19
                    · exact d7_19
                    · exact d8_19
                    · exact d9_19
                    · exact d10_19
                    · exact d11_19
                    · exact d12_19
                    · exact d13_19
                    · exact d14_19
                    · exact d15_19
                    · exact d16_19
                    · exact d17_19
                    · exact d18_19
                  · rcases (show i = 0 ∨ i = 1 ∨ i = 2 ∨ i = 3 ∨ i = 4 ∨ i = 5 ∨ i = 6 ∨ i = 7 ∨ i = 8 ∨ i = 9 ∨ i = 10 ∨ i = 11 ∨ i = 12 ∨ i = 13 ∨ i = 14 ∨ i = 15 ∨ i = 16 ∨ i = 17 ∨ i = 18 ∨ i = 19 by omega) with rfl | rfl | rfl | rfl | rfl | rfl | rfl | rfl | rfl | rfl | rfl | rfl | rfl | rfl | rfl | rfl | rfl | rfl | rfl | rfl
                    · exact d0_20
                    · exact d1_20
                    · exact d2_20
                    · exact d3_20
                    · exact d4_20
                    · exact d5_20
                    · exact d6_20
                    · exact d7_20
                    · exact d8_20
                    · exact d9_20
                    · exact d10_20
                    · exact d11_20
                    · exact d12_20
                    · exact d13_20
                    · exact d14_20
                    · exact d15_20
                    · exact d16_20
                    · exact d17_20
                    · exact d18_20
                    · exact d19_20
                  · rcases (show i = 0 ∨ i = 1 ∨ i = 2 ∨ i = 3 ∨ i = 4 ∨ i = 5 ∨ i = 6 ∨ i = 7 ∨ i = 8 ∨ i = 9 ∨ i = 10 ∨ i = 11 ∨ i = 12 ∨ i = 13 ∨ i = 14 ∨ i = 15 ∨ i = 16 ∨ i = 17 ∨ i = 18 ∨ i = 19 ∨ i = 20 by omega) with rfl | rfl | rfl | rfl | rfl | rfl | rfl | rfl | rfl | rfl | rfl | rfl | rfl | rfl | rfl | rfl | rfl | rfl | rfl | rfl | rfl
                    · exact d0_21
                    · exact d1_21
                    · exact d2_21
                    · exact d3_21
                    · exact d4_21
                    · exact d5_21
                    · exact d6_21
                    · exact d7_21
                    · exact d8_21
                    · exact d9_21
                    · exact d10_21
                    · exact d11_21
                    · exact d12_21
                    · exact d13_21
                    · exact d14_21
                    · exact d15_21
                    · exact d16_21
                    · exact d17_21
                    · exact d18_21
                    · exact d19_21
                    · exact d20_21
                refine ⟨rfl, (lst22 [o, q1, q23, q34, q47, q62, qk83, qk80, qk81, qk82, q162, q253, q343, q445, q559, q685, qk215, qk300, qk397, qk506, qk627, qk760]), rfl, repI ?_ (six ⟨f840, f842, f844, f846, f848, f849⟩) (six ⟨f851, f853, f855, f857, f859, f860⟩) hd, ?_, hK⟩
                · intro k hk
                  rcases (show k = 0 ∨ k = 1 ∨ k = 2 ∨ k = 3 ∨ k = 4 ∨ k = 5 ∨ k = 6 ∨ k = 7 ∨ k = 8 ∨ k = 9 by omega) with rfl | rfl | rfl | rfl | rfl | rfl | rfl | rfl | rfl | rfl
                  · exact f821
                  · exact f824
                  · refine Eq.trans f826 (congrArg some ?_); show _ = eR D 22 12 (fun j => if j < (0 : Int).toNat then some (adI (lst22 [o, q1, q23, q34, q47, q62, qk83, qk80, qk81, qk82, q162, q253, q343, q445, q559, q685, qk215, qk300, qk397, qk506, qk627, qk760]) 10 j) else none); congr 1
                  · refine Eq.trans f828 (congrArg some ?_); show _ = eR D 24 20 (fun j => if j < (0 : Int).toNat then some (adI (lst22 [o, q1, q23, q34, q47, q62, qk83, qk80, qk81, qk82, q162, q253, q343, q445, q559, q685, qk215, qk300, qk397, qk506, qk627, qk760]) 18 j) else none); congr 1
                  · refine Eq.trans f819 (congrArg some ?_)
                    show eR D 23 6 _ = eR D 23 6 (fun j => if j < (6 : Int).toNat then some (adI (lst22 [o, q1, q23, q34, q47, q62, qk83, qk80, qk81, qk82, q162, q253, q343, q445, q559, q685, qk215, qk300, qk397, qk506, qk627, qk760]) 23 j) else none)
                    congr 5
                    funext j
                    by_cases hj : j < 6
                    · rcases (show j = 0 ∨ j = 1 ∨ j = 2 ∨ j = 3 ∨ j = 4 ∨ j = 5 by omega) with rfl | rfl | rfl | rfl | rfl | rfl <;> rfl
                    · rw [if_neg (show ¬ j < (6 : Int).toNat from hj)]; simp only [va_up]; rw [if_neg (show ¬ j = Int.toNat (0 + 1 + 1 + 1 + 1 + 1) from fun z => hj (by rw [z]; decide)), if_neg (show ¬ j = Int.toNat (0 + 1 + 1 + 1 + 1) from fun z => hj (by rw [z]; decide)), if_neg (show ¬ j = Int.toNat (0 + 1 + 1 + 1) from fun z => hj (by rw [z]; decide)), if_neg (show ¬ j = Int.toNat (0 + 1 + 1) from fun z => hj (by rw [z]; decide)), if_neg (show ¬ j = Int.toNat (0 + 1) from fun z => hj (by rw [z]; decide)), if_neg (show ¬ j = Int.toNat (0) from fun z => hj (by rw [z]; decide))]
                  · exact f830
                  · exact f832
                  · exact f834
                  · exact f836
                  · exact f838
                · intro j j1 j2
                  rcases (show j = 1 ∨ j = 2 ∨ j = 3 ∨ j = 4 ∨ j = 5 ∨ j = 6 ∨ j = 7 ∨ j = 8 ∨ j = 9 ∨ j = 10 ∨ j = 11 ∨ j = 12 ∨ j = 13 ∨ j = 14 ∨ j = 15 ∨ j = 16 ∨ j = 17 ∨ j = 18 ∨ j = 19 ∨ j = 20 ∨ j = 21 by omega) with rfl | rfl | rfl | rfl | rfl | rfl | rfl | rfl | rfl | rfl | rfl | rfl | rfl | rfl | rfl | rfl | rfl | rfl | rfl | rfl | rfl
                  · exact nb5
                  · exact nb27
                  · exact nb38
                  · exact nb51
                  · exact nb66
                  · exact nb146
                  · exact nb110
                  · exact nb122
                  · exact nb134
                  · exact nb181
                  · exact nb275
                  · exact nb368
                  · exact nb473
                  · exact nb590
                  · exact nb719
                  · exact nb245
                  · exact nb335
                  · exact nb437
                  · exact nb551
                  · exact nb677
                  · exact nb815
              · exfalso; omega


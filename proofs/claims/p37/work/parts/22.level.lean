
theorem kX3_init_0 : Cond.methodLink "LedgeLevels$Level" 3 Lib.objectInit ∈ wsX3_init := by decide +kernel
theorem kX3_init_1 : Cond.instanceMethod Lib.objectInit ∈ wsX3_init := by decide +kernel
theorem kX3_init_2 : Cond.code Lib.objectInit ⟨#[0xb1]⟩ 1 none ∈ wsX3_init := by decide +kernel
theorem kX3_init_3 : ∀ w ∈ wsX10, w ∈ wsX3_init := by decide +kernel
theorem kX3_init_4 : Cond.classLink "LedgeLevels$Level" 9 "LedgeLevels$Grid" ∈ wsX3_init := by decide +kernel
theorem kX3_init_5 : Cond.instantiable "LedgeLevels$Grid" 3 ∈ wsX3_init := by decide +kernel
theorem kX3_init_6 : Cond.initialized "LedgeLevels$Grid" ∈ wsX3_init := by decide +kernel
theorem kX3_init_7 : Cond.instanceMethod yX1_init ∈ wsX3_init := by decide +kernel
theorem kX3_init_8 : Cond.methodLinkNest "LedgeLevels$Level" 11 yX1_init "LedgeLevels" ∈ nwAll := by decide +kernel
theorem kX3_init_9 : Cond.fieldLink "LedgeLevels$Level" 12 "LedgeLevels$Level" "grid" "LLedgeLevels$Grid;" ∈ wsX3_init := by decide +kernel
theorem kX3_init_10 : ∀ w ∈ wsX30, w ∈ wsX3_init := by decide +kernel
theorem kX3_init_11 : ∀ w ∈ wsX20, w ∈ wsX3_init := by decide +kernel
theorem kX3_init_12 : Cond.classLink "LedgeLevels$Level" 18 "LedgeLevels$History" ∈ wsX3_init := by decide +kernel
theorem kX3_init_13 : Cond.instantiable "LedgeLevels$History" 5 ∈ wsX3_init := by decide +kernel
theorem kX3_init_14 : Cond.initialized "LedgeLevels$History" ∈ wsX3_init := by decide +kernel
theorem kX3_init_15 : Cond.instanceMethod yX2_init ∈ wsX3_init := by decide +kernel
theorem kX3_init_16 : Cond.methodLinkNest "LedgeLevels$Level" 20 yX2_init "LedgeLevels" ∈ nwAll := by decide +kernel
theorem kX3_init_17 : Cond.fieldLink "LedgeLevels$Level" 21 "LedgeLevels$Level" "history" "LLedgeLevels$History;" ∈ wsX3_init := by decide +kernel
theorem kX3_init_18 : Cond.fieldLink "LedgeLevels$Level" 25 "LedgeLevels$Level" "start" "I" ∈ wsX3_init := by decide +kernel
theorem kX3_init_19 : Cond.fieldLink "LedgeLevels$Level" 29 "LedgeLevels$Level" "proof" "I" ∈ wsX3_init := by decide +kernel
theorem kX3_init_20 : Cond.fieldLink "LedgeLevels$Level" 32 "LedgeLevels$Level" "author" "I" ∈ wsX3_init := by decide +kernel
theorem kX3_init_21 : Cond.fieldLink "LedgeLevels$Level" 35 "LedgeLevels$Level" "parent" "LLedgeLevels$Work;" ∈ wsX3_init := by decide +kernel
set_option maxRecDepth 100000 in
set_option maxHeartbeats 1000000 in
theorem c_X3_init {l : Launch} {D : va_G} {A : Nat → Prop} {h : vh} {o pw : Nat} {au : Int} (ho : h o = some (eO 3 [vI 0, .null, .null, .null, vI 0, vI 0]))  : MX l D A yX3_init wsX3_init { frames := 2, cells := 7, slots := 227, locals := 40 } [.ref o, vI au, .ref pw] h (fun rv h' => rv = none ∧ ∃ g ak aq hi oc ob oa : Nat, (h g = none ∧ h ak = none ∧ h aq = none ∧ h hi = none ∧ h oc = none ∧ h ob = none ∧ h oa = none) ∧ (oc ≠ ob ∧ oc ≠ oa ∧ ob ≠ oa) ∧ (h' o = some (eO 3 [vI au, .ref pw, .ref g, .ref hi, vI 72, vI (-2)]) ∧ h' g = some (eO 1 [.ref ak, .ref aq, vI ((0 : Nat) : Int)]) ∧ h' ak = some (eI D 96 (fun _ => 0)) ∧ h' aq = some (eI D 3 (fun j => if j < 3 then -1 else 0)) ∧ h' hi = some (eO 2 [.ref oc, .ref ob, .ref oa, vI ((0 : Nat) : Int), vI ((0 : Nat) : Int)]) ∧ h' oc = some (eI D 40 (fun _ => 0)) ∧ h' ob = some (eI D 40 (fun _ => 0)) ∧ h' oa = some (eI D 40 (fun _ => 0))) ∧ ∀ (b9 : Nat) (e9 : va_E), b9 ≠ o → h b9 = some e9 → h' b9 = some e9) := by
  refine MX.of (cc := cX3_init) (maxL := 3) (ret := none) [(0, .ref o), (1, vI au), (2, .ref pw)] (by decide +kernel) rfl rfl (Nat.le_of_ble_eq_true rfl) ?_
  intro κ C hkl G
  subst hkl
  have C : CX κ "LedgeLevels$Level" "<init>" cX3_init wsX3_init { frames := 2, cells := 7, slots := 227, locals := 40 } D A 3 := C
  have hiz : nq (D.1 20) (D.1 21) := cx_iz C
  refine x_aload_n C dX3_init_0 0 rfl ?_
  refine x_objInit C kX3_init_0 kX3_init_1 kX3_init_2 (by decide) (by decide) dX3_init_1 ?_
  refine x_aload_n C dX3_init_4 0 rfl ?_
  refine x_new C (ci := 1) (T := TX1) (fs := [.null, .null, vI 0]) rfl tyX1_ok kX3_init_3 kX3_init_4 kX3_init_5 kX3_init_6 (by intro j hj; rcases (show j = 0 ∨ j = 1 ∨ j = 2 by omega) with rfl | rfl | rfl <;> rfl) (by decide) (by decide) dX3_init_5 (fun q1 nq4 => x_hn (fun h2 e3 => ?_))
  have nb5 : h q1 = none := nq4
  have f6 : h2 q1 = some (eO 1 [.null, .null, vI 0]) := by rw [e3]; exact hu_s
  refine x_dup C dX3_init_8 rfl ?_
  refine x_callIN C (n := 0) (As := []) (rest := [.ref q1, .ref o]) (c_X1_init f6) gX3_init_X1_init_n11 kX3_init_6 kX3_init_8 kX3_init_7 rfl (by decide +kernel) rfl rfl rfl (Nat.le_of_ble_eq_true rfl) ⟨by decide, by decide⟩ ⟨(by decide), (by decide)⟩ dX3_init_9 (fun rv7 h8 hp9 => ?_)
  obtain ⟨rfl, qk11, qq12, nk13, nk14, dk15, e10⟩ := hp9
  have nb16 : h qk11 = none := by rw [e3] at nk13; exact (hu_none nk13).1
  have f17 : h2 o = some (eO 3 [vI 0, .null, .null, .null, vI 0, vI 0]) := by rw [e3, hu_n (vnn ho nq4)]; exact ho
  have nb18 : h qq12 = none := by rw [e3] at nk14; exact (hu_none nk14).1
  have f19 : h8 q1 = some (eO 1 [.ref qk11, .ref qq12, vI ((0 : Nat) : Int)]) := by rw [e10]; exact hu_s
  have f20 : h8 qq12 = some (eI D 3 (fun j => if j < 3 then -1 else 0)) := by rw [e10, hu_n (Ne.symm (vnn f6 nk14))]; exact hu_s
  have f21 : h8 qk11 = some (eI D 96 (fun _ => 0)) := by rw [e10, hu_n (Ne.symm (vnn f6 nk13)), hu_n dk15]; exact hu_s
  have f22 : h8 o = some (eO 3 [vI 0, .null, .null, .null, vI 0, vI 0]) := by rw [e10, hu_n (vnn ho nq4), hu_n (vnn f17 nk14), hu_n (vnn f17 nk13)]; exact f17
  refine x_putF C f22 (T := TX3) rfl tyX3_ok nmX3 kX3_init_10 2 (by decide) kX3_init_9 rfl rfl rfl (fs' := [vI 0, .null, .ref q1, .null, vI 0, vI 0]) rfl rfl (by simp) rfl dX3_init_12 (x_hn (fun h23 e24 => ?_))
  have f25 : h23 o = some (eO 3 [vI 0, .null, .ref q1, .null, vI 0, vI 0]) := by rw [e24]; exact hu_s
  refine x_aload_n C dX3_init_15 0 rfl ?_
  refine x_new C (ci := 2) (T := TX2) (fs := [.null, .null, .null, vI 0, vI 0]) rfl tyX2_ok kX3_init_11 kX3_init_12 kX3_init_13 kX3_init_14 (by intro j hj; rcases (show j = 0 ∨ j = 1 ∨ j = 2 ∨ j = 3 ∨ j = 4 by omega) with rfl | rfl | rfl | rfl | rfl <;> rfl) (by decide) (by decide) dX3_init_16 (fun q26 nq29 => x_hn (fun h27 e28 => ?_))
  have nb30 : h q26 = none := by rw [e24, e10, e3] at nq29; exact (hu_none (hu_none (hu_none (hu_none (hu_none nq29).1).1).1).1).1
  have f31 : h27 q26 = some (eO 2 [.null, .null, .null, vI 0, vI 0]) := by rw [e28]; exact hu_s
  have f32 : h23 q1 = some (eO 1 [.ref qk11, .ref qq12, vI ((0 : Nat) : Int)]) := by rw [e24, hu_n (Ne.symm (vnn ho nq4))]; exact f19
  have f33 : h23 qq12 = some (eI D 3 (fun j => if j < 3 then -1 else 0)) := by rw [e24, hu_n (Ne.symm (vnn f17 nk14))]; exact f20
  have f34 : h23 qk11 = some (eI D 96 (fun _ => 0)) := by rw [e24, hu_n (Ne.symm (vnn f17 nk13))]; exact f21
  refine x_dup C dX3_init_19 rfl ?_
  refine x_callIN C (n := 0) (As := []) (rest := [.ref q26, .ref o]) (c_X2_init f31) gX3_init_X2_init_n20 kX3_init_14 kX3_init_16 kX3_init_15 rfl (by decide +kernel) rfl rfl rfl (Nat.le_of_ble_eq_true rfl) ⟨by decide, by decide⟩ ⟨(by decide), (by decide)⟩ dX3_init_20 (fun rv35 h36 hp37 => ?_)
  obtain ⟨rfl, qh39, qh40, qh41, nh42, nh43, nh44, dh45, dh46, dh47, e38⟩ := hp37
  have nb48 : h qh39 = none := by rw [e28, e24, e10, e3] at nh42; exact (hu_none (hu_none (hu_none (hu_none (hu_none (hu_none nh42).1).1).1).1).1).1
  have f49 : h27 o = some (eO 3 [vI 0, .null, .ref q1, .null, vI 0, vI 0]) := by rw [e28, hu_n (vnn f25 nq29)]; exact f25
  have f50 : h27 q1 = some (eO 1 [.ref qk11, .ref qq12, vI ((0 : Nat) : Int)]) := by rw [e28, hu_n (vnn f32 nq29)]; exact f32
  have f51 : h27 qq12 = some (eI D 3 (fun j => if j < 3 then -1 else 0)) := by rw [e28, hu_n (vnn f33 nq29)]; exact f33
  have f52 : h27 qk11 = some (eI D 96 (fun _ => 0)) := by rw [e28, hu_n (vnn f34 nq29)]; exact f34
  have nb53 : h qh40 = none := by rw [e28, e24, e10, e3] at nh43; exact (hu_none (hu_none (hu_none (hu_none (hu_none (hu_none nh43).1).1).1).1).1).1
  have nb54 : h qh41 = none := by rw [e28, e24, e10, e3] at nh44; exact (hu_none (hu_none (hu_none (hu_none (hu_none (hu_none nh44).1).1).1).1).1).1
  have f55 : h36 q26 = some (eO 2 [.ref qh39, .ref qh40, .ref qh41, vI ((0 : Nat) : Int), vI ((0 : Nat) : Int)]) := by rw [e38]; exact hu_s
  have f56 : h36 qh41 = some (eI D 40 (fun _ => 0)) := by rw [e38, hu_n (Ne.symm (vnn f31 nh44))]; exact hu_s
  have f57 : h36 qh40 = some (eI D 40 (fun _ => 0)) := by rw [e38, hu_n (Ne.symm (vnn f31 nh43)), hu_n dh47]; exact hu_s
  have f58 : h36 qh39 = some (eI D 40 (fun _ => 0)) := by rw [e38, hu_n (Ne.symm (vnn f31 nh42)), hu_n dh46, hu_n dh45]; exact hu_s
  have f59 : h36 o = some (eO 3 [vI 0, .null, .ref q1, .null, vI 0, vI 0]) := by rw [e38, hu_n (vnn f25 nq29), hu_n (vnn f49 nh44), hu_n (vnn f49 nh43), hu_n (vnn f49 nh42)]; exact f49
  refine x_putF C f59 (T := TX3) rfl tyX3_ok nmX3 kX3_init_10 3 (by decide) kX3_init_17 rfl rfl rfl (fs' := [vI 0, .null, .ref q1, .ref q26, vI 0, vI 0]) rfl rfl (by simp) rfl dX3_init_23 (x_hn (fun h60 e61 => ?_))
  have f62 : h60 o = some (eO 3 [vI 0, .null, .ref q1, .ref q26, vI 0, vI 0]) := by rw [e61]; exact hu_s
  refine x_aload_n C dX3_init_26 0 rfl ?_
  refine x_bipush C dX3_init_27 72 (by decide) ?_
  refine x_put C f62 (T := TX3) rfl tyX3_ok nmX3 kX3_init_10 4 (by decide) kX3_init_18 rfl (fs' := [vI 0, .null, .ref q1, .ref q26, vI 72, vI 0]) rfl rfl (by simp) rfl dX3_init_29 (x_hn (fun h63 e64 => ?_))
  have f65 : h63 o = some (eO 3 [vI 0, .null, .ref q1, .ref q26, vI 72, vI 0]) := by rw [e64]; exact hu_s
  refine x_aload_n C dX3_init_32 0 rfl ?_
  refine x_bipush C dX3_init_33 (-2) (by decide) ?_
  refine x_put C f65 (T := TX3) rfl tyX3_ok nmX3 kX3_init_10 5 (by decide) kX3_init_19 rfl (fs' := [vI 0, .null, .ref q1, .ref q26, vI 72, vI (-2)]) rfl rfl (by simp) rfl dX3_init_35 (x_hn (fun h66 e67 => ?_))
  have f68 : h66 o = some (eO 3 [vI 0, .null, .ref q1, .ref q26, vI 72, vI (-2)]) := by rw [e67]; exact hu_s
  refine x_aload_n C dX3_init_38 0 rfl ?_
  refine x_iload_n C dX3_init_39 1 rfl ?_
  refine x_putF C f68 (T := TX3) rfl tyX3_ok nmX3 kX3_init_10 0 (by decide) kX3_init_20 rfl rfl rfl (fs' := [vI au, .null, .ref q1, .ref q26, vI 72, vI (-2)]) rfl rfl (by simp) rfl dX3_init_40 (x_hn (fun h69 e70 => ?_))
  have f71 : h69 o = some (eO 3 [vI au, .null, .ref q1, .ref q26, vI 72, vI (-2)]) := by rw [e70]; exact hu_s
  refine x_aload_n C dX3_init_43 0 rfl ?_
  refine x_aload_n C dX3_init_44 2 rfl ?_
  refine x_putF C f71 (T := TX3) rfl tyX3_ok nmX3 kX3_init_10 1 (by decide) kX3_init_21 rfl rfl rfl (fs' := [vI au, .ref pw, .ref q1, .ref q26, vI 72, vI (-2)]) rfl rfl (by simp) rfl dX3_init_45 (x_hn (fun h72 e73 => ?_))
  have f74 : h72 o = some (eO 3 [vI au, .ref pw, .ref q1, .ref q26, vI 72, vI (-2)]) := by rw [e73]; exact hu_s
  refine x_vret C G dX3_init_48 ?_ (by decide) (by decide)
  have f75 : h36 q1 = some (eO 1 [.ref qk11, .ref qq12, vI ((0 : Nat) : Int)]) := by rw [e38, hu_n (vnn f32 nq29), hu_n (vnn f50 nh44), hu_n (vnn f50 nh43), hu_n (vnn f50 nh42)]; exact f50
  have f76 : h60 q1 = some (eO 1 [.ref qk11, .ref qq12, vI ((0 : Nat) : Int)]) := by rw [e61, hu_n (Ne.symm (vnn ho nq4))]; exact f75
  have f77 : h63 q1 = some (eO 1 [.ref qk11, .ref qq12, vI ((0 : Nat) : Int)]) := by rw [e64, hu_n (Ne.symm (vnn ho nq4))]; exact f76
  have f78 : h66 q1 = some (eO 1 [.ref qk11, .ref qq12, vI ((0 : Nat) : Int)]) := by rw [e67, hu_n (Ne.symm (vnn ho nq4))]; exact f77
  have f79 : h69 q1 = some (eO 1 [.ref qk11, .ref qq12, vI ((0 : Nat) : Int)]) := by rw [e70, hu_n (Ne.symm (vnn ho nq4))]; exact f78
  have f80 : h72 q1 = some (eO 1 [.ref qk11, .ref qq12, vI ((0 : Nat) : Int)]) := by rw [e73, hu_n (Ne.symm (vnn ho nq4))]; exact f79
  have f81 : h36 qk11 = some (eI D 96 (fun _ => 0)) := by rw [e38, hu_n (vnn f34 nq29), hu_n (vnn f52 nh44), hu_n (vnn f52 nh43), hu_n (vnn f52 nh42)]; exact f52
  have f82 : h60 qk11 = some (eI D 96 (fun _ => 0)) := by rw [e61, hu_n (Ne.symm (vnn f17 nk13))]; exact f81
  have f83 : h63 qk11 = some (eI D 96 (fun _ => 0)) := by rw [e64, hu_n (Ne.symm (vnn f17 nk13))]; exact f82
  have f84 : h66 qk11 = some (eI D 96 (fun _ => 0)) := by rw [e67, hu_n (Ne.symm (vnn f17 nk13))]; exact f83
  have f85 : h69 qk11 = some (eI D 96 (fun _ => 0)) := by rw [e70, hu_n (Ne.symm (vnn f17 nk13))]; exact f84
  have f86 : h72 qk11 = some (eI D 96 (fun _ => 0)) := by rw [e73, hu_n (Ne.symm (vnn f17 nk13))]; exact f85
  have f87 : h36 qq12 = some (eI D 3 (fun j => if j < 3 then -1 else 0)) := by rw [e38, hu_n (vnn f33 nq29), hu_n (vnn f51 nh44), hu_n (vnn f51 nh43), hu_n (vnn f51 nh42)]; exact f51
  have f88 : h60 qq12 = some (eI D 3 (fun j => if j < 3 then -1 else 0)) := by rw [e61, hu_n (Ne.symm (vnn f17 nk14))]; exact f87
  have f89 : h63 qq12 = some (eI D 3 (fun j => if j < 3 then -1 else 0)) := by rw [e64, hu_n (Ne.symm (vnn f17 nk14))]; exact f88
  have f90 : h66 qq12 = some (eI D 3 (fun j => if j < 3 then -1 else 0)) := by rw [e67, hu_n (Ne.symm (vnn f17 nk14))]; exact f89
  have f91 : h69 qq12 = some (eI D 3 (fun j => if j < 3 then -1 else 0)) := by rw [e70, hu_n (Ne.symm (vnn f17 nk14))]; exact f90
  have f92 : h72 qq12 = some (eI D 3 (fun j => if j < 3 then -1 else 0)) := by rw [e73, hu_n (Ne.symm (vnn f17 nk14))]; exact f91
  have f93 : h60 q26 = some (eO 2 [.ref qh39, .ref qh40, .ref qh41, vI ((0 : Nat) : Int), vI ((0 : Nat) : Int)]) := by rw [e61, hu_n (Ne.symm (vnn f25 nq29))]; exact f55
  have f94 : h63 q26 = some (eO 2 [.ref qh39, .ref qh40, .ref qh41, vI ((0 : Nat) : Int), vI ((0 : Nat) : Int)]) := by rw [e64, hu_n (Ne.symm (vnn f25 nq29))]; exact f93
  have f95 : h66 q26 = some (eO 2 [.ref qh39, .ref qh40, .ref qh41, vI ((0 : Nat) : Int), vI ((0 : Nat) : Int)]) := by rw [e67, hu_n (Ne.symm (vnn f25 nq29))]; exact f94
  have f96 : h69 q26 = some (eO 2 [.ref qh39, .ref qh40, .ref qh41, vI ((0 : Nat) : Int), vI ((0 : Nat) : Int)]) := by rw [e70, hu_n (Ne.symm (vnn f25 nq29))]; exact f95
  have f97 : h72 q26 = some (eO 2 [.ref qh39, .ref qh40, .ref qh41, vI ((0 : Nat) : Int), vI ((0 : Nat) : Int)]) := by rw [e73, hu_n (Ne.symm (vnn f25 nq29))]; exact f96
  have f98 : h60 qh39 = some (eI D 40 (fun _ => 0)) := by rw [e61, hu_n (Ne.symm (vnn f49 nh42))]; exact f58
  have f99 : h63 qh39 = some (eI D 40 (fun _ => 0)) := by rw [e64, hu_n (Ne.symm (vnn f49 nh42))]; exact f98
  have f100 : h66 qh39 = some (eI D 40 (fun _ => 0)) := by rw [e67, hu_n (Ne.symm (vnn f49 nh42))]; exact f99
  have f101 : h69 qh39 = some (eI D 40 (fun _ => 0)) := by rw [e70, hu_n (Ne.symm (vnn f49 nh42))]; exact f100
  have f102 : h72 qh39 = some (eI D 40 (fun _ => 0)) := by rw [e73, hu_n (Ne.symm (vnn f49 nh42))]; exact f101
  have f103 : h60 qh40 = some (eI D 40 (fun _ => 0)) := by rw [e61, hu_n (Ne.symm (vnn f49 nh43))]; exact f57
  have f104 : h63 qh40 = some (eI D 40 (fun _ => 0)) := by rw [e64, hu_n (Ne.symm (vnn f49 nh43))]; exact f103
  have f105 : h66 qh40 = some (eI D 40 (fun _ => 0)) := by rw [e67, hu_n (Ne.symm (vnn f49 nh43))]; exact f104
  have f106 : h69 qh40 = some (eI D 40 (fun _ => 0)) := by rw [e70, hu_n (Ne.symm (vnn f49 nh43))]; exact f105
  have f107 : h72 qh40 = some (eI D 40 (fun _ => 0)) := by rw [e73, hu_n (Ne.symm (vnn f49 nh43))]; exact f106
  have f108 : h60 qh41 = some (eI D 40 (fun _ => 0)) := by rw [e61, hu_n (Ne.symm (vnn f49 nh44))]; exact f56
  have f109 : h63 qh41 = some (eI D 40 (fun _ => 0)) := by rw [e64, hu_n (Ne.symm (vnn f49 nh44))]; exact f108
  have f110 : h66 qh41 = some (eI D 40 (fun _ => 0)) := by rw [e67, hu_n (Ne.symm (vnn f49 nh44))]; exact f109
  have f111 : h69 qh41 = some (eI D 40 (fun _ => 0)) := by rw [e70, hu_n (Ne.symm (vnn f49 nh44))]; exact f110
  have f112 : h72 qh41 = some (eI D 40 (fun _ => 0)) := by rw [e73, hu_n (Ne.symm (vnn f49 nh44))]; exact f111
  refine ⟨rfl, q1, qk11, qq12, q26, qh39, qh40, qh41, ⟨nb5, nb16, nb18, nb30, nb48, nb53, nb54⟩, ⟨dh45, dh46, dh47⟩, ⟨f74, f80, f86, f92, f97, f102, f107, f112⟩, fun b e hb he => by rw [e73, hu_n hb, e70, hu_n hb, e67, hu_n hb, e64, hu_n hb, e61, hu_n hb, e38, hu_n (vnn he nb30), hu_n (vnn he nb54), hu_n (vnn he nb53), hu_n (vnn he nb48), e28, hu_n (vnn he nb30), e24, hu_n hb, e10, hu_n (vnn he nb5), hu_n (vnn he nb18), hu_n (vnn he nb16), e3, hu_n (vnn he nb5)]; exact he⟩

theorem kX3_initN_0 : Cond.methodLink "LedgeLevels$Level" 3 Lib.objectInit ∈ wsX3_init := by decide +kernel
theorem kX3_initN_1 : Cond.instanceMethod Lib.objectInit ∈ wsX3_init := by decide +kernel
theorem kX3_initN_2 : Cond.code Lib.objectInit ⟨#[0xb1]⟩ 1 none ∈ wsX3_init := by decide +kernel
theorem kX3_initN_3 : ∀ w ∈ wsX10, w ∈ wsX3_init := by decide +kernel
theorem kX3_initN_4 : Cond.classLink "LedgeLevels$Level" 9 "LedgeLevels$Grid" ∈ wsX3_init := by decide +kernel
theorem kX3_initN_5 : Cond.instantiable "LedgeLevels$Grid" 3 ∈ wsX3_init := by decide +kernel
theorem kX3_initN_6 : Cond.initialized "LedgeLevels$Grid" ∈ wsX3_init := by decide +kernel
theorem kX3_initN_7 : Cond.instanceMethod yX1_init ∈ wsX3_init := by decide +kernel
theorem kX3_initN_8 : Cond.methodLinkNest "LedgeLevels$Level" 11 yX1_init "LedgeLevels" ∈ nwAll := by decide +kernel
theorem kX3_initN_9 : Cond.fieldLink "LedgeLevels$Level" 12 "LedgeLevels$Level" "grid" "LLedgeLevels$Grid;" ∈ wsX3_init := by decide +kernel
theorem kX3_initN_10 : ∀ w ∈ wsX30, w ∈ wsX3_init := by decide +kernel
theorem kX3_initN_11 : ∀ w ∈ wsX20, w ∈ wsX3_init := by decide +kernel
theorem kX3_initN_12 : Cond.classLink "LedgeLevels$Level" 18 "LedgeLevels$History" ∈ wsX3_init := by decide +kernel
theorem kX3_initN_13 : Cond.instantiable "LedgeLevels$History" 5 ∈ wsX3_init := by decide +kernel
theorem kX3_initN_14 : Cond.initialized "LedgeLevels$History" ∈ wsX3_init := by decide +kernel
theorem kX3_initN_15 : Cond.instanceMethod yX2_init ∈ wsX3_init := by decide +kernel
theorem kX3_initN_16 : Cond.methodLinkNest "LedgeLevels$Level" 20 yX2_init "LedgeLevels" ∈ nwAll := by decide +kernel
theorem kX3_initN_17 : Cond.fieldLink "LedgeLevels$Level" 21 "LedgeLevels$Level" "history" "LLedgeLevels$History;" ∈ wsX3_init := by decide +kernel
theorem kX3_initN_18 : Cond.fieldLink "LedgeLevels$Level" 25 "LedgeLevels$Level" "start" "I" ∈ wsX3_init := by decide +kernel
theorem kX3_initN_19 : Cond.fieldLink "LedgeLevels$Level" 29 "LedgeLevels$Level" "proof" "I" ∈ wsX3_init := by decide +kernel
theorem kX3_initN_20 : Cond.fieldLink "LedgeLevels$Level" 32 "LedgeLevels$Level" "author" "I" ∈ wsX3_init := by decide +kernel
theorem kX3_initN_21 : Cond.fieldLink "LedgeLevels$Level" 35 "LedgeLevels$Level" "parent" "LLedgeLevels$Work;" ∈ wsX3_init := by decide +kernel
set_option maxRecDepth 100000 in
set_option maxHeartbeats 1000000 in
theorem c_X3_initN {l : Launch} {D : va_G} {A : Nat → Prop} {h : vh} {o : Nat} {au : Int} (ho : h o = some (eO 3 [vI 0, .null, .null, .null, vI 0, vI 0]))  : MX l D A yX3_init wsX3_init { frames := 2, cells := 7, slots := 227, locals := 40 } [.ref o, vI au, .null] h (fun rv h' => rv = none ∧ ∃ g ak aq hi oc ob oa : Nat, (h g = none ∧ h ak = none ∧ h aq = none ∧ h hi = none ∧ h oc = none ∧ h ob = none ∧ h oa = none) ∧ (oc ≠ ob ∧ oc ≠ oa ∧ ob ≠ oa) ∧ (h' o = some (eO 3 [vI au, .null, .ref g, .ref hi, vI 72, vI (-2)]) ∧ h' g = some (eO 1 [.ref ak, .ref aq, vI ((0 : Nat) : Int)]) ∧ h' ak = some (eI D 96 (fun _ => 0)) ∧ h' aq = some (eI D 3 (fun j => if j < 3 then -1 else 0)) ∧ h' hi = some (eO 2 [.ref oc, .ref ob, .ref oa, vI ((0 : Nat) : Int), vI ((0 : Nat) : Int)]) ∧ h' oc = some (eI D 40 (fun _ => 0)) ∧ h' ob = some (eI D 40 (fun _ => 0)) ∧ h' oa = some (eI D 40 (fun _ => 0))) ∧ ∀ (b9 : Nat) (e9 : va_E), b9 ≠ o → h b9 = some e9 → h' b9 = some e9) := by
  refine MX.of (cc := cX3_init) (maxL := 3) (ret := none) [(0, .ref o), (1, vI au), (2, .null)] (by decide +kernel) rfl rfl (Nat.le_of_ble_eq_true rfl) ?_
  intro κ C hkl G
  subst hkl
  have C : CX κ "LedgeLevels$Level" "<init>" cX3_init wsX3_init { frames := 2, cells := 7, slots := 227, locals := 40 } D A 3 := C
  have hiz : nq (D.1 20) (D.1 21) := cx_iz C
  refine x_aload_n C dX3_init_0 0 rfl ?_
  refine x_objInit C kX3_initN_0 kX3_initN_1 kX3_initN_2 (by decide) (by decide) dX3_init_1 ?_
  refine x_aload_n C dX3_init_4 0 rfl ?_
  refine x_new C (ci := 1) (T := TX1) (fs := [.null, .null, vI 0]) rfl tyX1_ok kX3_initN_3 kX3_initN_4 kX3_initN_5 kX3_initN_6 (by intro j hj; rcases (show j = 0 ∨ j = 1 ∨ j = 2 by omega) with rfl | rfl | rfl <;> rfl) (by decide) (by decide) dX3_init_5 (fun q1 nq4 => x_hn (fun h2 e3 => ?_))
  have nb5 : h q1 = none := nq4
  have f6 : h2 q1 = some (eO 1 [.null, .null, vI 0]) := by rw [e3]; exact hu_s
  refine x_dup C dX3_init_8 rfl ?_
  refine x_callIN C (n := 0) (As := []) (rest := [.ref q1, .ref o]) (c_X1_init f6) gX3_init_X1_init_n11 kX3_initN_6 kX3_initN_8 kX3_initN_7 rfl (by decide +kernel) rfl rfl rfl (Nat.le_of_ble_eq_true rfl) ⟨by decide, by decide⟩ ⟨(by decide), (by decide)⟩ dX3_init_9 (fun rv7 h8 hp9 => ?_)
  obtain ⟨rfl, qk11, qq12, nk13, nk14, dk15, e10⟩ := hp9
  have nb16 : h qk11 = none := by rw [e3] at nk13; exact (hu_none nk13).1
  have f17 : h2 o = some (eO 3 [vI 0, .null, .null, .null, vI 0, vI 0]) := by rw [e3, hu_n (vnn ho nq4)]; exact ho
  have nb18 : h qq12 = none := by rw [e3] at nk14; exact (hu_none nk14).1
  have f19 : h8 q1 = some (eO 1 [.ref qk11, .ref qq12, vI ((0 : Nat) : Int)]) := by rw [e10]; exact hu_s
  have f20 : h8 qq12 = some (eI D 3 (fun j => if j < 3 then -1 else 0)) := by rw [e10, hu_n (Ne.symm (vnn f6 nk14))]; exact hu_s
  have f21 : h8 qk11 = some (eI D 96 (fun _ => 0)) := by rw [e10, hu_n (Ne.symm (vnn f6 nk13)), hu_n dk15]; exact hu_s
  have f22 : h8 o = some (eO 3 [vI 0, .null, .null, .null, vI 0, vI 0]) := by rw [e10, hu_n (vnn ho nq4), hu_n (vnn f17 nk14), hu_n (vnn f17 nk13)]; exact f17
  refine x_putF C f22 (T := TX3) rfl tyX3_ok nmX3 kX3_initN_10 2 (by decide) kX3_initN_9 rfl rfl rfl (fs' := [vI 0, .null, .ref q1, .null, vI 0, vI 0]) rfl rfl (by simp) rfl dX3_init_12 (x_hn (fun h23 e24 => ?_))
  have f25 : h23 o = some (eO 3 [vI 0, .null, .ref q1, .null, vI 0, vI 0]) := by rw [e24]; exact hu_s
  refine x_aload_n C dX3_init_15 0 rfl ?_
  refine x_new C (ci := 2) (T := TX2) (fs := [.null, .null, .null, vI 0, vI 0]) rfl tyX2_ok kX3_initN_11 kX3_initN_12 kX3_initN_13 kX3_initN_14 (by intro j hj; rcases (show j = 0 ∨ j = 1 ∨ j = 2 ∨ j = 3 ∨ j = 4 by omega) with rfl | rfl | rfl | rfl | rfl <;> rfl) (by decide) (by decide) dX3_init_16 (fun q26 nq29 => x_hn (fun h27 e28 => ?_))
  have nb30 : h q26 = none := by rw [e24, e10, e3] at nq29; exact (hu_none (hu_none (hu_none (hu_none (hu_none nq29).1).1).1).1).1
  have f31 : h27 q26 = some (eO 2 [.null, .null, .null, vI 0, vI 0]) := by rw [e28]; exact hu_s
  have f32 : h23 q1 = some (eO 1 [.ref qk11, .ref qq12, vI ((0 : Nat) : Int)]) := by rw [e24, hu_n (Ne.symm (vnn ho nq4))]; exact f19
  have f33 : h23 qq12 = some (eI D 3 (fun j => if j < 3 then -1 else 0)) := by rw [e24, hu_n (Ne.symm (vnn f17 nk14))]; exact f20
  have f34 : h23 qk11 = some (eI D 96 (fun _ => 0)) := by rw [e24, hu_n (Ne.symm (vnn f17 nk13))]; exact f21
  refine x_dup C dX3_init_19 rfl ?_
  refine x_callIN C (n := 0) (As := []) (rest := [.ref q26, .ref o]) (c_X2_init f31) gX3_init_X2_init_n20 kX3_initN_14 kX3_initN_16 kX3_initN_15 rfl (by decide +kernel) rfl rfl rfl (Nat.le_of_ble_eq_true rfl) ⟨by decide, by decide⟩ ⟨(by decide), (by decide)⟩ dX3_init_20 (fun rv35 h36 hp37 => ?_)
  obtain ⟨rfl, qh39, qh40, qh41, nh42, nh43, nh44, dh45, dh46, dh47, e38⟩ := hp37
  have nb48 : h qh39 = none := by rw [e28, e24, e10, e3] at nh42; exact (hu_none (hu_none (hu_none (hu_none (hu_none (hu_none nh42).1).1).1).1).1).1
  have f49 : h27 o = some (eO 3 [vI 0, .null, .ref q1, .null, vI 0, vI 0]) := by rw [e28, hu_n (vnn f25 nq29)]; exact f25
  have f50 : h27 q1 = some (eO 1 [.ref qk11, .ref qq12, vI ((0 : Nat) : Int)]) := by rw [e28, hu_n (vnn f32 nq29)]; exact f32
  have f51 : h27 qq12 = some (eI D 3 (fun j => if j < 3 then -1 else 0)) := by rw [e28, hu_n (vnn f33 nq29)]; exact f33
  have f52 : h27 qk11 = some (eI D 96 (fun _ => 0)) := by rw [e28, hu_n (vnn f34 nq29)]; exact f34
  have nb53 : h qh40 = none := by rw [e28, e24, e10, e3] at nh43; exact (hu_none (hu_none (hu_none (hu_none (hu_none (hu_none nh43).1).1).1).1).1).1
  have nb54 : h qh41 = none := by rw [e28, e24, e10, e3] at nh44; exact (hu_none (hu_none (hu_none (hu_none (hu_none (hu_none nh44).1).1).1).1).1).1
  have f55 : h36 q26 = some (eO 2 [.ref qh39, .ref qh40, .ref qh41, vI ((0 : Nat) : Int), vI ((0 : Nat) : Int)]) := by rw [e38]; exact hu_s
  have f56 : h36 qh41 = some (eI D 40 (fun _ => 0)) := by rw [e38, hu_n (Ne.symm (vnn f31 nh44))]; exact hu_s
  have f57 : h36 qh40 = some (eI D 40 (fun _ => 0)) := by rw [e38, hu_n (Ne.symm (vnn f31 nh43)), hu_n dh47]; exact hu_s
  have f58 : h36 qh39 = some (eI D 40 (fun _ => 0)) := by rw [e38, hu_n (Ne.symm (vnn f31 nh42)), hu_n dh46, hu_n dh45]; exact hu_s
  have f59 : h36 o = some (eO 3 [vI 0, .null, .ref q1, .null, vI 0, vI 0]) := by rw [e38, hu_n (vnn f25 nq29), hu_n (vnn f49 nh44), hu_n (vnn f49 nh43), hu_n (vnn f49 nh42)]; exact f49
  refine x_putF C f59 (T := TX3) rfl tyX3_ok nmX3 kX3_initN_10 3 (by decide) kX3_initN_17 rfl rfl rfl (fs' := [vI 0, .null, .ref q1, .ref q26, vI 0, vI 0]) rfl rfl (by simp) rfl dX3_init_23 (x_hn (fun h60 e61 => ?_))
  have f62 : h60 o = some (eO 3 [vI 0, .null, .ref q1, .ref q26, vI 0, vI 0]) := by rw [e61]; exact hu_s
  refine x_aload_n C dX3_init_26 0 rfl ?_
  refine x_bipush C dX3_init_27 72 (by decide) ?_
  refine x_put C f62 (T := TX3) rfl tyX3_ok nmX3 kX3_initN_10 4 (by decide) kX3_initN_18 rfl (fs' := [vI 0, .null, .ref q1, .ref q26, vI 72, vI 0]) rfl rfl (by simp) rfl dX3_init_29 (x_hn (fun h63 e64 => ?_))
  have f65 : h63 o = some (eO 3 [vI 0, .null, .ref q1, .ref q26, vI 72, vI 0]) := by rw [e64]; exact hu_s
  refine x_aload_n C dX3_init_32 0 rfl ?_
  refine x_bipush C dX3_init_33 (-2) (by decide) ?_
  refine x_put C f65 (T := TX3) rfl tyX3_ok nmX3 kX3_initN_10 5 (by decide) kX3_initN_19 rfl (fs' := [vI 0, .null, .ref q1, .ref q26, vI 72, vI (-2)]) rfl rfl (by simp) rfl dX3_init_35 (x_hn (fun h66 e67 => ?_))
  have f68 : h66 o = some (eO 3 [vI 0, .null, .ref q1, .ref q26, vI 72, vI (-2)]) := by rw [e67]; exact hu_s
  refine x_aload_n C dX3_init_38 0 rfl ?_
  refine x_iload_n C dX3_init_39 1 rfl ?_
  refine x_putF C f68 (T := TX3) rfl tyX3_ok nmX3 kX3_initN_10 0 (by decide) kX3_initN_20 rfl rfl rfl (fs' := [vI au, .null, .ref q1, .ref q26, vI 72, vI (-2)]) rfl rfl (by simp) rfl dX3_init_40 (x_hn (fun h69 e70 => ?_))
  have f71 : h69 o = some (eO 3 [vI au, .null, .ref q1, .ref q26, vI 72, vI (-2)]) := by rw [e70]; exact hu_s
  refine x_aload_n C dX3_init_43 0 rfl ?_
  refine x_aload_nN C dX3_init_44 2 rfl ?_
  refine x_putF C f71 (T := TX3) rfl tyX3_ok nmX3 kX3_initN_10 1 (by decide) kX3_initN_21 rfl rfl rfl (fs' := [vI au, .null, .ref q1, .ref q26, vI 72, vI (-2)]) rfl rfl (by simp) rfl dX3_init_45 (x_hn (fun h72 e73 => ?_))
  have f74 : h72 o = some (eO 3 [vI au, .null, .ref q1, .ref q26, vI 72, vI (-2)]) := by rw [e73]; exact hu_s
  refine x_vret C G dX3_init_48 ?_ (by decide) (by decide)
  have f75 : h36 q1 = some (eO 1 [.ref qk11, .ref qq12, vI ((0 : Nat) : Int)]) := by rw [e38, hu_n (vnn f32 nq29), hu_n (vnn f50 nh44), hu_n (vnn f50 nh43), hu_n (vnn f50 nh42)]; exact f50
  have f76 : h60 q1 = some (eO 1 [.ref qk11, .ref qq12, vI ((0 : Nat) : Int)]) := by rw [e61, hu_n (Ne.symm (vnn ho nq4))]; exact f75
  have f77 : h63 q1 = some (eO 1 [.ref qk11, .ref qq12, vI ((0 : Nat) : Int)]) := by rw [e64, hu_n (Ne.symm (vnn ho nq4))]; exact f76
  have f78 : h66 q1 = some (eO 1 [.ref qk11, .ref qq12, vI ((0 : Nat) : Int)]) := by rw [e67, hu_n (Ne.symm (vnn ho nq4))]; exact f77
  have f79 : h69 q1 = some (eO 1 [.ref qk11, .ref qq12, vI ((0 : Nat) : Int)]) := by rw [e70, hu_n (Ne.symm (vnn ho nq4))]; exact f78
  have f80 : h72 q1 = some (eO 1 [.ref qk11, .ref qq12, vI ((0 : Nat) : Int)]) := by rw [e73, hu_n (Ne.symm (vnn ho nq4))]; exact f79
  have f81 : h36 qk11 = some (eI D 96 (fun _ => 0)) := by rw [e38, hu_n (vnn f34 nq29), hu_n (vnn f52 nh44), hu_n (vnn f52 nh43), hu_n (vnn f52 nh42)]; exact f52
  have f82 : h60 qk11 = some (eI D 96 (fun _ => 0)) := by rw [e61, hu_n (Ne.symm (vnn f17 nk13))]; exact f81
  have f83 : h63 qk11 = some (eI D 96 (fun _ => 0)) := by rw [e64, hu_n (Ne.symm (vnn f17 nk13))]; exact f82
  have f84 : h66 qk11 = some (eI D 96 (fun _ => 0)) := by rw [e67, hu_n (Ne.symm (vnn f17 nk13))]; exact f83
  have f85 : h69 qk11 = some (eI D 96 (fun _ => 0)) := by rw [e70, hu_n (Ne.symm (vnn f17 nk13))]; exact f84
  have f86 : h72 qk11 = some (eI D 96 (fun _ => 0)) := by rw [e73, hu_n (Ne.symm (vnn f17 nk13))]; exact f85
  have f87 : h36 qq12 = some (eI D 3 (fun j => if j < 3 then -1 else 0)) := by rw [e38, hu_n (vnn f33 nq29), hu_n (vnn f51 nh44), hu_n (vnn f51 nh43), hu_n (vnn f51 nh42)]; exact f51
  have f88 : h60 qq12 = some (eI D 3 (fun j => if j < 3 then -1 else 0)) := by rw [e61, hu_n (Ne.symm (vnn f17 nk14))]; exact f87
  have f89 : h63 qq12 = some (eI D 3 (fun j => if j < 3 then -1 else 0)) := by rw [e64, hu_n (Ne.symm (vnn f17 nk14))]; exact f88
  have f90 : h66 qq12 = some (eI D 3 (fun j => if j < 3 then -1 else 0)) := by rw [e67, hu_n (Ne.symm (vnn f17 nk14))]; exact f89
  have f91 : h69 qq12 = some (eI D 3 (fun j => if j < 3 then -1 else 0)) := by rw [e70, hu_n (Ne.symm (vnn f17 nk14))]; exact f90
  have f92 : h72 qq12 = some (eI D 3 (fun j => if j < 3 then -1 else 0)) := by rw [e73, hu_n (Ne.symm (vnn f17 nk14))]; exact f91
  have f93 : h60 q26 = some (eO 2 [.ref qh39, .ref qh40, .ref qh41, vI ((0 : Nat) : Int), vI ((0 : Nat) : Int)]) := by rw [e61, hu_n (Ne.symm (vnn f25 nq29))]; exact f55
  have f94 : h63 q26 = some (eO 2 [.ref qh39, .ref qh40, .ref qh41, vI ((0 : Nat) : Int), vI ((0 : Nat) : Int)]) := by rw [e64, hu_n (Ne.symm (vnn f25 nq29))]; exact f93
  have f95 : h66 q26 = some (eO 2 [.ref qh39, .ref qh40, .ref qh41, vI ((0 : Nat) : Int), vI ((0 : Nat) : Int)]) := by rw [e67, hu_n (Ne.symm (vnn f25 nq29))]; exact f94
  have f96 : h69 q26 = some (eO 2 [.ref qh39, .ref qh40, .ref qh41, vI ((0 : Nat) : Int), vI ((0 : Nat) : Int)]) := by rw [e70, hu_n (Ne.symm (vnn f25 nq29))]; exact f95
  have f97 : h72 q26 = some (eO 2 [.ref qh39, .ref qh40, .ref qh41, vI ((0 : Nat) : Int), vI ((0 : Nat) : Int)]) := by rw [e73, hu_n (Ne.symm (vnn f25 nq29))]; exact f96
  have f98 : h60 qh39 = some (eI D 40 (fun _ => 0)) := by rw [e61, hu_n (Ne.symm (vnn f49 nh42))]; exact f58
  have f99 : h63 qh39 = some (eI D 40 (fun _ => 0)) := by rw [e64, hu_n (Ne.symm (vnn f49 nh42))]; exact f98
  have f100 : h66 qh39 = some (eI D 40 (fun _ => 0)) := by rw [e67, hu_n (Ne.symm (vnn f49 nh42))]; exact f99
  have f101 : h69 qh39 = some (eI D 40 (fun _ => 0)) := by rw [e70, hu_n (Ne.symm (vnn f49 nh42))]; exact f100
  have f102 : h72 qh39 = some (eI D 40 (fun _ => 0)) := by rw [e73, hu_n (Ne.symm (vnn f49 nh42))]; exact f101
  have f103 : h60 qh40 = some (eI D 40 (fun _ => 0)) := by rw [e61, hu_n (Ne.symm (vnn f49 nh43))]; exact f57
  have f104 : h63 qh40 = some (eI D 40 (fun _ => 0)) := by rw [e64, hu_n (Ne.symm (vnn f49 nh43))]; exact f103
  have f105 : h66 qh40 = some (eI D 40 (fun _ => 0)) := by rw [e67, hu_n (Ne.symm (vnn f49 nh43))]; exact f104
  have f106 : h69 qh40 = some (eI D 40 (fun _ => 0)) := by rw [e70, hu_n (Ne.symm (vnn f49 nh43))]; exact f105
  have f107 : h72 qh40 = some (eI D 40 (fun _ => 0)) := by rw [e73, hu_n (Ne.symm (vnn f49 nh43))]; exact f106
  have f108 : h60 qh41 = some (eI D 40 (fun _ => 0)) := by rw [e61, hu_n (Ne.symm (vnn f49 nh44))]; exact f56
  have f109 : h63 qh41 = some (eI D 40 (fun _ => 0)) := by rw [e64, hu_n (Ne.symm (vnn f49 nh44))]; exact f108
  have f110 : h66 qh41 = some (eI D 40 (fun _ => 0)) := by rw [e67, hu_n (Ne.symm (vnn f49 nh44))]; exact f109
  have f111 : h69 qh41 = some (eI D 40 (fun _ => 0)) := by rw [e70, hu_n (Ne.symm (vnn f49 nh44))]; exact f110
  have f112 : h72 qh41 = some (eI D 40 (fun _ => 0)) := by rw [e73, hu_n (Ne.symm (vnn f49 nh44))]; exact f111
  refine ⟨rfl, q1, qk11, qq12, q26, qh39, qh40, qh41, ⟨nb5, nb16, nb18, nb30, nb48, nb53, nb54⟩, ⟨dh45, dh46, dh47⟩, ⟨f74, f80, f86, f92, f97, f102, f107, f112⟩, fun b e hb he => by rw [e73, hu_n hb, e70, hu_n hb, e67, hu_n hb, e64, hu_n hb, e61, hu_n hb, e38, hu_n (vnn he nb30), hu_n (vnn he nb54), hu_n (vnn he nb53), hu_n (vnn he nb48), e28, hu_n (vnn he nb30), e24, hu_n hb, e10, hu_n (vnn he nb5), hu_n (vnn he nb18), hu_n (vnn he nb16), e3, hu_n (vnn he nb5)]; exact he⟩

theorem nar_rf {C : String} (o : Option Nat) : narrow (.object C) (va_rf o) = va_rf o := by cases o <;> rfl
theorem fits_rf {C : String} (o : Option Nat) : fits (.object C) (va_rf o) = true := by cases o <;> rfl
theorem kX6_init_0 : Cond.methodLink "LedgeLevels$Work" 3 Lib.objectInit ∈ wsX6_init := by decide +kernel
theorem kX6_init_1 : Cond.instanceMethod Lib.objectInit ∈ wsX6_init := by decide +kernel
theorem kX6_init_2 : Cond.code Lib.objectInit ⟨#[0xb1]⟩ 1 none ∈ wsX6_init := by decide +kernel
theorem kX6_init_3 : ∀ w ∈ wsX10, w ∈ wsX6_init := by decide +kernel
theorem kX6_init_4 : Cond.classLink "LedgeLevels$Work" 9 "LedgeLevels$Grid" ∈ wsX6_init := by decide +kernel
theorem kX6_init_5 : Cond.instantiable "LedgeLevels$Grid" 3 ∈ wsX6_init := by decide +kernel
theorem kX6_init_6 : Cond.initialized "LedgeLevels$Grid" ∈ wsX6_init := by decide +kernel
theorem kX6_init_7 : Cond.instanceMethod yX1_init ∈ wsX6_init := by decide +kernel
theorem kX6_init_8 : Cond.methodLinkNest "LedgeLevels$Work" 11 yX1_init "LedgeLevels" ∈ nwAll := by decide +kernel
theorem kX6_init_9 : Cond.fieldLink "LedgeLevels$Work" 12 "LedgeLevels$Work" "grid" "LLedgeLevels$Grid;" ∈ wsX6_init := by decide +kernel
theorem kX6_init_10 : ∀ w ∈ wsX60, w ∈ wsX6_init := by decide +kernel
theorem kX6_init_11 : Cond.arrayClass (newarray.typeOf .int) ∈ wsX6_init := by decide +kernel
theorem kX6_init_12 : Cond.fieldLink "LedgeLevels$Work" 18 "LedgeLevels$Work" "given" "[I" ∈ wsX6_init := by decide +kernel
theorem kX6_init_13 : Cond.fieldLink "LedgeLevels$Work" 22 "LedgeLevels$Work" "record" "I" ∈ wsX6_init := by decide +kernel
theorem kX6_init_14 : Cond.fieldLink "LedgeLevels$Work" 26 "LedgeLevels$Work" "number" "I" ∈ wsX6_init := by decide +kernel
theorem kX6_init_15 : Cond.fieldLinkNest "LedgeLevels$Work" 29 "LedgeLevels$Level" "author" "I" "LedgeLevels" ∈ nwAll := by decide +kernel
theorem kX6_init_16 : ∀ w ∈ wsX30, w ∈ wsX6_init := by decide +kernel
theorem kX6_init_17 : Cond.fieldLink "LedgeLevels$Work" 34 "LedgeLevels$Work" "author" "I" ∈ wsX6_init := by decide +kernel
theorem kX6_init_18 : Cond.fieldLinkNest "LedgeLevels$Work" 35 "LedgeLevels$Level" "parent" "LLedgeLevels$Work;" "LedgeLevels" ∈ nwAll := by decide +kernel
theorem kX6_init_19 : Cond.fieldLink "LedgeLevels$Work" 39 "LedgeLevels$Work" "parent" "LLedgeLevels$Work;" ∈ wsX6_init := by decide +kernel
theorem kX6_init_20 : Cond.fieldLinkNest "LedgeLevels$Work" 40 "LedgeLevels$Level" "grid" "LLedgeLevels$Grid;" "LedgeLevels" ∈ nwAll := by decide +kernel
theorem kX6_init_21 : Cond.fieldLinkNest "LedgeLevels$Work" 45 "LedgeLevels$Level" "start" "I" "LedgeLevels" ∈ nwAll := by decide +kernel
theorem kX6_init_22 : Cond.fieldLink "LedgeLevels$Work" 48 "LedgeLevels$Work" "start" "I" ∈ wsX6_init := by decide +kernel
theorem kX6_init_23 : Cond.fieldLinkNest "LedgeLevels$Work" 49 "LedgeLevels$Level" "proof" "I" "LedgeLevels" ∈ nwAll := by decide +kernel
theorem kX6_init_24 : Cond.fieldLink "LedgeLevels$Work" 52 "LedgeLevels$Work" "best" "I" ∈ wsX6_init := by decide +kernel
set_option maxRecDepth 100000 in
set_option maxHeartbeats 1000000 in
theorem c_X6_init {l : Launch} {D : va_G} {A : Nat → Prop} {h : vh} {pr : Option Nat} {o lo lg lk : Nat} {nu au st pf : Int} {f : Nat → Int} {x1 x2 x3 : Value} (ho : h o = some (eO 6 [vI 0, vI 0, .null, .null, vI 0, .null, vI 0, vI 0])) (hl : h lo = some (eO 3 [vI au, va_rf pr, .ref lg, x1, vI st, vI pf])) (hlg : h lg = some (eO 1 [.ref lk, x2, x3])) (hlk : h lk = some (eI D 96 f)) (hf : ∀ j, 0 ≤ f j ∧ f j ≤ 8) : MX l D A yX6_init wsX6_init { frames := 3, cells := 4, slots := 108, locals := 67 } [.ref o, vI nu, .ref lo] h (fun rv h' => rv = none ∧ ∃ g ak aq gi : Nat, (h g = none ∧ h ak = none ∧ h aq = none ∧ h gi = none) ∧ (h' o = some (eO 6 [vI nu, vI au, va_rf pr, .ref g, vI st, .ref gi, vI pf, vI (-1)]) ∧ h' g = some (eO 1 [.ref ak, .ref aq, vI ((gna f (fun _ => 0) (fun j => if j < 3 then -1 else 0) 0 96 : Nat) : Int)]) ∧ h' ak = some (eI D 96 (gnf f (fun _ => 0) 96)) ∧ h' aq = some (eI D 3 (gnq f (fun _ => 0) (fun j => if j < 3 then -1 else 0) 96)) ∧ h' gi = some (eI D 6 (fun _ => 0))) ∧ ∀ (b9 : Nat) (e9 : va_E), b9 ≠ o → h b9 = some e9 → h' b9 = some e9) := by
  refine MX.of (cc := cX6_init) (maxL := 3) (ret := none) [(0, .ref o), (1, vI nu), (2, .ref lo)] (by decide +kernel) rfl rfl (Nat.le_of_ble_eq_true rfl) ?_
  intro κ C hkl G
  subst hkl
  have C : CX κ "LedgeLevels$Work" "<init>" cX6_init wsX6_init { frames := 3, cells := 4, slots := 108, locals := 67 } D A 3 := C
  have hiz : nq (D.1 20) (D.1 21) := cx_iz C
  refine x_aload_n C dX6_init_0 0 rfl ?_
  refine x_objInit C kX6_init_0 kX6_init_1 kX6_init_2 (by decide) (by decide) dX6_init_1 ?_
  refine x_aload_n C dX6_init_4 0 rfl ?_
  refine x_new C (ci := 1) (T := TX1) (fs := [.null, .null, vI 0]) rfl tyX1_ok kX6_init_3 kX6_init_4 kX6_init_5 kX6_init_6 (by intro j hj; rcases (show j = 0 ∨ j = 1 ∨ j = 2 by omega) with rfl | rfl | rfl <;> rfl) (by decide) (by decide) dX6_init_5 (fun q1 nq4 => x_hn (fun h2 e3 => ?_))
  have nb5 : h q1 = none := nq4
  have f6 : h2 q1 = some (eO 1 [.null, .null, vI 0]) := by rw [e3]; exact hu_s
  refine x_dup C dX6_init_8 rfl ?_
  refine x_callIN C (n := 0) (As := []) (rest := [.ref q1, .ref o]) (c_X1_init f6) gX6_init_X1_init_n11 kX6_init_6 kX6_init_8 kX6_init_7 rfl (by decide +kernel) rfl rfl rfl (Nat.le_of_ble_eq_true rfl) ⟨by decide, by decide⟩ ⟨(by decide), (by decide)⟩ dX6_init_9 (fun rv7 h8 hp9 => ?_)
  obtain ⟨rfl, qk11, qq12, nk13, nk14, dk15, e10⟩ := hp9
  have nb16 : h qk11 = none := by rw [e3] at nk13; exact (hu_none nk13).1
  have f17 : h2 o = some (eO 6 [vI 0, vI 0, .null, .null, vI 0, .null, vI 0, vI 0]) := by rw [e3, hu_n (vnn ho nq4)]; exact ho
  have f18 : h2 lo = some (eO 3 [vI au, va_rf pr, .ref lg, x1, vI st, vI pf]) := by rw [e3, hu_n (vnn hl nq4)]; exact hl
  have f19 : h2 lg = some (eO 1 [.ref lk, x2, x3]) := by rw [e3, hu_n (vnn hlg nq4)]; exact hlg
  have f20 : h2 lk = some (eI D 96 f) := by rw [e3, hu_n (vnn hlk nq4)]; exact hlk
  have nb21 : h qq12 = none := by rw [e3] at nk14; exact (hu_none nk14).1
  have f22 : h8 q1 = some (eO 1 [.ref qk11, .ref qq12, vI ((0 : Nat) : Int)]) := by rw [e10]; exact hu_s
  have f23 : h8 qq12 = some (eI D 3 (fun j => if j < 3 then -1 else 0)) := by rw [e10, hu_n (Ne.symm (vnn f6 nk14))]; exact hu_s
  have f24 : h8 qk11 = some (eI D 96 (fun _ => 0)) := by rw [e10, hu_n (Ne.symm (vnn f6 nk13)), hu_n dk15]; exact hu_s
  have f25 : h8 o = some (eO 6 [vI 0, vI 0, .null, .null, vI 0, .null, vI 0, vI 0]) := by rw [e10, hu_n (vnn ho nq4), hu_n (vnn f17 nk14), hu_n (vnn f17 nk13)]; exact f17
  refine x_putF C f25 (T := TX6) rfl tyX6_ok nmX6 kX6_init_10 3 (by decide) kX6_init_9 rfl rfl rfl (fs' := [vI 0, vI 0, .null, .ref q1, vI 0, .null, vI 0, vI 0]) rfl rfl (by simp) rfl dX6_init_12 (x_hn (fun h26 e27 => ?_))
  have f28 : h26 o = some (eO 6 [vI 0, vI 0, .null, .ref q1, vI 0, .null, vI 0, vI 0]) := by rw [e27]; exact hu_s
  refine x_aload_n C dX6_init_15 0 rfl ?_
  refine x_bipush C dX6_init_16 6 (by decide) ?_
  refine x_newI C (N := 6) kX6_init_11 (by decide) (by decide) (by decide) (by decide) dX6_init_18 (fun q29 nq32 => x_hn (fun h30 e31 => ?_))
  have nb33 : h q29 = none := by rw [e27, e10, e3] at nq32; exact (hu_none (hu_none (hu_none (hu_none (hu_none nq32).1).1).1).1).1
  have f34 : h30 q29 = some (eI D 6 (fun _ => 0)) := by rw [e31]; exact hu_s
  have f35 : h8 lo = some (eO 3 [vI au, va_rf pr, .ref lg, x1, vI st, vI pf]) := by rw [e10, hu_n (vnn hl nq4), hu_n (vnn f18 nk14), hu_n (vnn f18 nk13)]; exact f18
  have n37 : nq lo o := vnt f35 f25 (p := (3, 3)) (q := (3, 6)) rfl rfl (by decide)
  have f36 : h26 lo = some (eO 3 [vI au, va_rf pr, .ref lg, x1, vI st, vI pf]) := by rw [e27, hu_n n37]; exact f35
  have f38 : h8 lg = some (eO 1 [.ref lk, x2, x3]) := by rw [e10, hu_n (vnn hlg nq4), hu_n (vnn f19 nk14), hu_n (vnn f19 nk13)]; exact f19
  have n40 : nq lg o := vnt f38 f25 (p := (3, 1)) (q := (3, 6)) rfl rfl (by decide)
  have f39 : h26 lg = some (eO 1 [.ref lk, x2, x3]) := by rw [e27, hu_n n40]; exact f38
  have f41 : h8 lk = some (eI D 96 f) := by rw [e10, hu_n (vnn hlk nq4), hu_n (vnn f20 nk14), hu_n (vnn f20 nk13)]; exact f20
  have n43 : nq lk o := vnt f41 f25 (p := (0, 96)) (q := (3, 6)) rfl rfl (by decide)
  have f42 : h26 lk = some (eI D 96 f) := by rw [e27, hu_n n43]; exact f41
  have f44 : h26 q1 = some (eO 1 [.ref qk11, .ref qq12, vI ((0 : Nat) : Int)]) := by rw [e27, hu_n (Ne.symm (vnn ho nq4))]; exact f22
  have f45 : h26 qq12 = some (eI D 3 (fun j => if j < 3 then -1 else 0)) := by rw [e27, hu_n (Ne.symm (vnn f17 nk14))]; exact f23
  have f46 : h26 qk11 = some (eI D 96 (fun _ => 0)) := by rw [e27, hu_n (Ne.symm (vnn f17 nk13))]; exact f24
  have f47 : h30 o = some (eO 6 [vI 0, vI 0, .null, .ref q1, vI 0, .null, vI 0, vI 0]) := by rw [e31, hu_n (vnn f28 nq32)]; exact f28
  refine x_putF C f47 (T := TX6) rfl tyX6_ok nmX6 kX6_init_10 5 (by decide) kX6_init_12 rfl rfl rfl (fs' := [vI 0, vI 0, .null, .ref q1, vI 0, .ref q29, vI 0, vI 0]) rfl rfl (by simp) rfl dX6_init_20 (x_hn (fun h48 e49 => ?_))
  have f50 : h48 o = some (eO 6 [vI 0, vI 0, .null, .ref q1, vI 0, .ref q29, vI 0, vI 0]) := by rw [e49]; exact hu_s
  refine x_aload_n C dX6_init_23 0 rfl ?_
  refine x_iconst C dX6_init_24 (-1) (by decide) ?_
  refine x_put C f50 (T := TX6) rfl tyX6_ok nmX6 kX6_init_10 7 (by decide) kX6_init_13 rfl (fs' := [vI 0, vI 0, .null, .ref q1, vI 0, .ref q29, vI 0, vI (-1)]) rfl rfl (by simp) rfl dX6_init_25 (x_hn (fun h51 e52 => ?_))
  have f53 : h51 o = some (eO 6 [vI 0, vI 0, .null, .ref q1, vI 0, .ref q29, vI 0, vI (-1)]) := by rw [e52]; exact hu_s
  refine x_aload_n C dX6_init_28 0 rfl ?_
  refine x_iload_n C dX6_init_29 1 rfl ?_
  refine x_putF C f53 (T := TX6) rfl tyX6_ok nmX6 kX6_init_10 0 (by decide) kX6_init_14 rfl rfl rfl (fs' := [vI nu, vI 0, .null, .ref q1, vI 0, .ref q29, vI 0, vI (-1)]) rfl rfl (by simp) rfl dX6_init_30 (x_hn (fun h54 e55 => ?_))
  have f56 : h54 o = some (eO 6 [vI nu, vI 0, .null, .ref q1, vI 0, .ref q29, vI 0, vI (-1)]) := by rw [e55]; exact hu_s
  refine x_aload_n C dX6_init_33 0 rfl ?_
  refine x_aload_n C dX6_init_34 2 rfl ?_
  have f57 : h30 lo = some (eO 3 [vI au, va_rf pr, .ref lg, x1, vI st, vI pf]) := by rw [e31, hu_n (vnn f36 nq32)]; exact f36
  have f58 : h48 lo = some (eO 3 [vI au, va_rf pr, .ref lg, x1, vI st, vI pf]) := by rw [e49, hu_n n37]; exact f57
  have f59 : h51 lo = some (eO 3 [vI au, va_rf pr, .ref lg, x1, vI st, vI pf]) := by rw [e52, hu_n n37]; exact f58
  have f60 : h54 lo = some (eO 3 [vI au, va_rf pr, .ref lg, x1, vI st, vI pf]) := by rw [e55, hu_n n37]; exact f59
  refine x_getN (host := "LedgeLevels") C (v := vI au) f60 (T := TX3) rfl kX6_init_16 0 (by decide) kX6_init_15 rfl dX6_init_35 ?_
  refine x_putF C f56 (T := TX6) rfl tyX6_ok nmX6 kX6_init_10 1 (by decide) kX6_init_17 rfl rfl rfl (fs' := [vI nu, vI au, .null, .ref q1, vI 0, .ref q29, vI 0, vI (-1)]) rfl rfl (by simp) rfl dX6_init_38 (x_hn (fun h61 e62 => ?_))
  have f63 : h61 o = some (eO 6 [vI nu, vI au, .null, .ref q1, vI 0, .ref q29, vI 0, vI (-1)]) := by rw [e62]; exact hu_s
  refine x_aload_n C dX6_init_41 0 rfl ?_
  refine x_aload_n C dX6_init_42 2 rfl ?_
  have f64 : h61 lo = some (eO 3 [vI au, va_rf pr, .ref lg, x1, vI st, vI pf]) := by rw [e62, hu_n n37]; exact f60
  refine x_getN (host := "LedgeLevels") C (v := va_rf pr) f64 (T := TX3) rfl kX6_init_16 1 (by decide) kX6_init_18 rfl dX6_init_43 ?_
  refine x_putF C f63 (T := TX6) rfl tyX6_ok nmX6 kX6_init_10 2 (by decide) kX6_init_19 rfl rfl rfl (fs' := [vI nu, vI au, va_rf pr, .ref q1, vI 0, .ref q29, vI 0, vI (-1)]) (nar_rf _) (fits_rf _) (by simp) rfl dX6_init_46 (x_hn (fun h65 e66 => ?_))
  have f67 : h65 o = some (eO 6 [vI nu, vI au, va_rf pr, .ref q1, vI 0, .ref q29, vI 0, vI (-1)]) := by rw [e66]; exact hu_s
  refine x_aload_n C dX6_init_49 0 rfl ?_
  refine x_get C (v := .ref q1) f67 (T := TX6) rfl kX6_init_10 3 (by decide) kX6_init_9 rfl dX6_init_50 ?_
  refine x_aload_n C dX6_init_53 2 rfl ?_
  have f68 : h65 lo = some (eO 3 [vI au, va_rf pr, .ref lg, x1, vI st, vI pf]) := by rw [e66, hu_n n37]; exact f64
  refine x_getN (host := "LedgeLevels") C (v := .ref lg) f68 (T := TX3) rfl kX6_init_16 2 (by decide) kX6_init_20 rfl dX6_init_54 ?_
  have f69 : h30 q1 = some (eO 1 [.ref qk11, .ref qq12, vI ((0 : Nat) : Int)]) := by rw [e31, hu_n (vnn f44 nq32)]; exact f44
  have f70 : h48 q1 = some (eO 1 [.ref qk11, .ref qq12, vI ((0 : Nat) : Int)]) := by rw [e49, hu_n (Ne.symm (vnn ho nq4))]; exact f69
  have f71 : h51 q1 = some (eO 1 [.ref qk11, .ref qq12, vI ((0 : Nat) : Int)]) := by rw [e52, hu_n (Ne.symm (vnn ho nq4))]; exact f70
  have f72 : h54 q1 = some (eO 1 [.ref qk11, .ref qq12, vI ((0 : Nat) : Int)]) := by rw [e55, hu_n (Ne.symm (vnn ho nq4))]; exact f71
  have f73 : h61 q1 = some (eO 1 [.ref qk11, .ref qq12, vI ((0 : Nat) : Int)]) := by rw [e62, hu_n (Ne.symm (vnn ho nq4))]; exact f72
  have f74 : h65 q1 = some (eO 1 [.ref qk11, .ref qq12, vI ((0 : Nat) : Int)]) := by rw [e66, hu_n (Ne.symm (vnn ho nq4))]; exact f73
  have f75 : h30 qk11 = some (eI D 96 (fun _ => 0)) := by rw [e31, hu_n (vnn f46 nq32)]; exact f46
  have f76 : h48 qk11 = some (eI D 96 (fun _ => 0)) := by rw [e49, hu_n (Ne.symm (vnn f17 nk13))]; exact f75
  have f77 : h51 qk11 = some (eI D 96 (fun _ => 0)) := by rw [e52, hu_n (Ne.symm (vnn f17 nk13))]; exact f76
  have f78 : h54 qk11 = some (eI D 96 (fun _ => 0)) := by rw [e55, hu_n (Ne.symm (vnn f17 nk13))]; exact f77
  have f79 : h61 qk11 = some (eI D 96 (fun _ => 0)) := by rw [e62, hu_n (Ne.symm (vnn f17 nk13))]; exact f78
  have f80 : h65 qk11 = some (eI D 96 (fun _ => 0)) := by rw [e66, hu_n (Ne.symm (vnn f17 nk13))]; exact f79
  have f81 : h30 qq12 = some (eI D 3 (fun j => if j < 3 then -1 else 0)) := by rw [e31, hu_n (vnn f45 nq32)]; exact f45
  have f82 : h48 qq12 = some (eI D 3 (fun j => if j < 3 then -1 else 0)) := by rw [e49, hu_n (Ne.symm (vnn f17 nk14))]; exact f81
  have f83 : h51 qq12 = some (eI D 3 (fun j => if j < 3 then -1 else 0)) := by rw [e52, hu_n (Ne.symm (vnn f17 nk14))]; exact f82
  have f84 : h54 qq12 = some (eI D 3 (fun j => if j < 3 then -1 else 0)) := by rw [e55, hu_n (Ne.symm (vnn f17 nk14))]; exact f83
  have f85 : h61 qq12 = some (eI D 3 (fun j => if j < 3 then -1 else 0)) := by rw [e62, hu_n (Ne.symm (vnn f17 nk14))]; exact f84
  have f86 : h65 qq12 = some (eI D 3 (fun j => if j < 3 then -1 else 0)) := by rw [e66, hu_n (Ne.symm (vnn f17 nk14))]; exact f85
  have f87 : h30 lg = some (eO 1 [.ref lk, x2, x3]) := by rw [e31, hu_n (vnn f39 nq32)]; exact f39
  have f88 : h48 lg = some (eO 1 [.ref lk, x2, x3]) := by rw [e49, hu_n n40]; exact f87
  have f89 : h51 lg = some (eO 1 [.ref lk, x2, x3]) := by rw [e52, hu_n n40]; exact f88
  have f90 : h54 lg = some (eO 1 [.ref lk, x2, x3]) := by rw [e55, hu_n n40]; exact f89
  have f91 : h61 lg = some (eO 1 [.ref lk, x2, x3]) := by rw [e62, hu_n n40]; exact f90
  have f92 : h65 lg = some (eO 1 [.ref lk, x2, x3]) := by rw [e66, hu_n n40]; exact f91
  have f93 : h30 lk = some (eI D 96 f) := by rw [e31, hu_n (vnn f42 nq32)]; exact f42
  have f94 : h48 lk = some (eI D 96 f) := by rw [e49, hu_n n43]; exact f93
  have f95 : h51 lk = some (eI D 96 f) := by rw [e52, hu_n n43]; exact f94
  have f96 : h54 lk = some (eI D 96 f) := by rw [e55, hu_n n43]; exact f95
  have f97 : h61 lk = some (eI D 96 f) := by rw [e62, hu_n n43]; exact f96
  have f98 : h65 lk = some (eI D 96 f) := by rw [e66, hu_n n43]; exact f97
  refine x_callV C (n := 1) (qc := (RX1, TX1, 3)) (As := [.ref lg]) (rest := []) (c_X1_putAllOf f74 f80 f86 f92 f98 ((vnn hlg nq4)) ((vnn f20 nk13)) (fun j => ⟨by decide, by decide⟩) (fun j => by split <;> exact ⟨by decide, by decide⟩) (hf)) gX6_init_X1_putAllOf (by decide +kernel) f74 rfl rfl rfl rfl (Nat.le_of_ble_eq_true rfl) ⟨by decide, by decide⟩ ⟨(by decide), (by decide)⟩ dX6_init_57 (fun rv99 h100 hp101 => ?_)
  obtain ⟨rfl, e102⟩ := hp101
  have f103 : h100 q1 = some (eO 1 [.ref qk11, .ref qq12, vI ((gna f (fun _ => 0) (fun j => if j < 3 then -1 else 0) 0 96 : Nat) : Int)]) := by rw [e102]; exact hu_s
  have f104 : h100 qq12 = some (eI D 3 (gnq f (fun _ => 0) (fun j => if j < 3 then -1 else 0) 96)) := by rw [e102, hu_n (Ne.symm (vnn f6 nk14))]; exact hu_s
  have f105 : h100 qk11 = some (eI D 96 (gnf f (fun _ => 0) 96)) := by rw [e102, hu_n (Ne.symm (vnn f6 nk13)), hu_n dk15]; exact hu_s
  refine x_aload_n C dX6_init_60 0 rfl ?_
  refine x_aload_n C dX6_init_61 2 rfl ?_
  have f106 : h100 lo = some (eO 3 [vI au, va_rf pr, .ref lg, x1, vI st, vI pf]) := by rw [e102, hu_n (vnn hl nq4), hu_n (vnn f18 nk14), hu_n (vnn f18 nk13)]; exact f68
  refine x_getN (host := "LedgeLevels") C (v := vI st) f106 (T := TX3) rfl kX6_init_16 4 (by decide) kX6_init_21 rfl dX6_init_62 ?_
  have f107 : h100 o = some (eO 6 [vI nu, vI au, va_rf pr, .ref q1, vI 0, .ref q29, vI 0, vI (-1)]) := by rw [e102, hu_n (vnn ho nq4), hu_n (vnn f17 nk14), hu_n (vnn f17 nk13)]; exact f67
  refine x_putF C f107 (T := TX6) rfl tyX6_ok nmX6 kX6_init_10 4 (by decide) kX6_init_22 rfl rfl rfl (fs' := [vI nu, vI au, va_rf pr, .ref q1, vI st, .ref q29, vI 0, vI (-1)]) rfl rfl (by simp) rfl dX6_init_65 (x_hn (fun h108 e109 => ?_))
  have f110 : h108 o = some (eO 6 [vI nu, vI au, va_rf pr, .ref q1, vI st, .ref q29, vI 0, vI (-1)]) := by rw [e109]; exact hu_s
  refine x_aload_n C dX6_init_68 0 rfl ?_
  refine x_aload_n C dX6_init_69 2 rfl ?_
  have f111 : h108 lo = some (eO 3 [vI au, va_rf pr, .ref lg, x1, vI st, vI pf]) := by rw [e109, hu_n n37]; exact f106
  refine x_getN (host := "LedgeLevels") C (v := vI pf) f111 (T := TX3) rfl kX6_init_16 5 (by decide) kX6_init_23 rfl dX6_init_70 ?_
  refine x_put C f110 (T := TX6) rfl tyX6_ok nmX6 kX6_init_10 6 (by decide) kX6_init_24 rfl (fs' := [vI nu, vI au, va_rf pr, .ref q1, vI st, .ref q29, vI pf, vI (-1)]) rfl rfl (by simp) rfl dX6_init_73 (x_hn (fun h112 e113 => ?_))
  have f114 : h112 o = some (eO 6 [vI nu, vI au, va_rf pr, .ref q1, vI st, .ref q29, vI pf, vI (-1)]) := by rw [e113]; exact hu_s
  refine x_vret C G dX6_init_76 ?_ (by decide) (by decide)
  have f115 : h108 q1 = some (eO 1 [.ref qk11, .ref qq12, vI ((gna f (fun _ => 0) (fun j => if j < 3 then -1 else 0) 0 96 : Nat) : Int)]) := by rw [e109, hu_n (Ne.symm (vnn ho nq4))]; exact f103
  have f116 : h112 q1 = some (eO 1 [.ref qk11, .ref qq12, vI ((gna f (fun _ => 0) (fun j => if j < 3 then -1 else 0) 0 96 : Nat) : Int)]) := by rw [e113, hu_n (Ne.symm (vnn ho nq4))]; exact f115
  have f117 : h108 qk11 = some (eI D 96 (gnf f (fun _ => 0) 96)) := by rw [e109, hu_n (Ne.symm (vnn f17 nk13))]; exact f105
  have f118 : h112 qk11 = some (eI D 96 (gnf f (fun _ => 0) 96)) := by rw [e113, hu_n (Ne.symm (vnn f17 nk13))]; exact f117
  have f119 : h108 qq12 = some (eI D 3 (gnq f (fun _ => 0) (fun j => if j < 3 then -1 else 0) 96)) := by rw [e109, hu_n (Ne.symm (vnn f17 nk14))]; exact f104
  have f120 : h112 qq12 = some (eI D 3 (gnq f (fun _ => 0) (fun j => if j < 3 then -1 else 0) 96)) := by rw [e113, hu_n (Ne.symm (vnn f17 nk14))]; exact f119
  have f121 : h48 q29 = some (eI D 6 (fun _ => 0)) := by rw [e49, hu_n (Ne.symm (vnn f28 nq32))]; exact f34
  have f122 : h51 q29 = some (eI D 6 (fun _ => 0)) := by rw [e52, hu_n (Ne.symm (vnn f28 nq32))]; exact f121
  have f123 : h54 q29 = some (eI D 6 (fun _ => 0)) := by rw [e55, hu_n (Ne.symm (vnn f28 nq32))]; exact f122
  have f124 : h61 q29 = some (eI D 6 (fun _ => 0)) := by rw [e62, hu_n (Ne.symm (vnn f28 nq32))]; exact f123
  have f125 : h65 q29 = some (eI D 6 (fun _ => 0)) := by rw [e66, hu_n (Ne.symm (vnn f28 nq32))]; exact f124
  have f126 : h100 q29 = some (eI D 6 (fun _ => 0)) := by rw [e102, hu_n (Ne.symm (vnn f44 nq32)), hu_n (Ne.symm (vnn f45 nq32)), hu_n (Ne.symm (vnn f46 nq32))]; exact f125
  have f127 : h108 q29 = some (eI D 6 (fun _ => 0)) := by rw [e109, hu_n (Ne.symm (vnn f28 nq32))]; exact f126
  have f128 : h112 q29 = some (eI D 6 (fun _ => 0)) := by rw [e113, hu_n (Ne.symm (vnn f28 nq32))]; exact f127
  refine ⟨rfl, q1, qk11, qq12, q29, ⟨nb5, nb16, nb21, nb33⟩, ⟨f114, f116, f118, f120, f128⟩, fun b e hb he => by rw [e113, hu_n hb, e109, hu_n hb, e102, hu_n (vnn he nb5), hu_n (vnn he nb21), hu_n (vnn he nb16), e66, hu_n hb, e62, hu_n hb, e55, hu_n hb, e52, hu_n hb, e49, hu_n hb, e31, hu_n (vnn he nb33), e27, hu_n hb, e10, hu_n (vnn he nb5), hu_n (vnn he nb21), hu_n (vnn he nb16), e3, hu_n (vnn he nb5)]; exact he⟩

theorem kX4_init_0 : Cond.methodLink "LedgeLevels$Run" 3 Lib.objectInit ∈ wsX4_init := by decide +kernel
theorem kX4_init_1 : Cond.instanceMethod Lib.objectInit ∈ wsX4_init := by decide +kernel
theorem kX4_init_2 : Cond.code Lib.objectInit ⟨#[0xb1]⟩ 1 none ∈ wsX4_init := by decide +kernel
theorem kX4_init_3 : Cond.fieldLink "LedgeLevels$Run" 9 "LedgeLevels$Run" "work" "LLedgeLevels$Work;" ∈ wsX4_init := by decide +kernel
theorem kX4_init_4 : ∀ w ∈ wsX40, w ∈ wsX4_init := by decide +kernel
theorem kX4_init_5 : Cond.fieldLink "LedgeLevels$Run" 15 "LedgeLevels$Run" "state" "I" ∈ wsX4_init := by decide +kernel
theorem kX4_init_6 : Cond.fieldLink "LedgeLevels$Run" 19 "LedgeLevels$Run" "steps" "I" ∈ wsX4_init := by decide +kernel
theorem kX4_init_7 : ∀ w ∈ wsX00, w ∈ wsX4_init := by decide +kernel
theorem kX4_init_8 : Cond.classLink "LedgeLevels$Run" 22 "LedgeLevels$Body" ∈ wsX4_init := by decide +kernel
theorem kX4_init_9 : Cond.instantiable "LedgeLevels$Body" 5 ∈ wsX4_init := by decide +kernel
theorem kX4_init_10 : Cond.initialized "LedgeLevels$Body" ∈ wsX4_init := by decide +kernel
theorem kX4_init_11 : Cond.instanceMethod yX0_init ∈ wsX4_init := by decide +kernel
theorem kX4_init_12 : Cond.methodLink "LedgeLevels$Run" 24 yX0_init ∈ wsX4_init := by decide +kernel
theorem kX4_init_13 : Cond.fieldLink "LedgeLevels$Run" 27 "LedgeLevels$Run" "body" "LLedgeLevels$Body;" ∈ wsX4_init := by decide +kernel
set_option maxRecDepth 100000 in
set_option maxHeartbeats 1000000 in
theorem c_X4_init {l : Launch} {D : va_G} {A : Nat → Prop} {h : vh} {o as : Nat} (ho : h o = some (eO 4 [.null, .null, vI 0, vI 0]))  : MX l D A yX4_init wsX4_init { frames := 2, cells := 1, slots := 5, locals := 41 } [.ref o, .ref as] h (fun rv h' => rv = none ∧ ∃ b : Nat, h b = none ∧ (h' o = some (eO 4 [.ref b, .null, vI 0, vI 0]) ∧ h' b = some (eO 0 [.ref as, vI 0, vI 0, vI ((0 : Nat) : Int), vI 1])) ∧ ∀ (b9 : Nat) (e9 : va_E), b9 ≠ o → h b9 = some e9 → h' b9 = some e9) := by
  refine MX.of (cc := cX4_init) (maxL := 2) (ret := none) [(0, .ref o), (1, .ref as)] (by decide +kernel) rfl rfl (Nat.le_of_ble_eq_true rfl) ?_
  intro κ C hkl G
  subst hkl
  have C : CX κ "LedgeLevels$Run" "<init>" cX4_init wsX4_init { frames := 2, cells := 1, slots := 5, locals := 41 } D A 2 := C
  have hiz : nq (D.1 20) (D.1 21) := cx_iz C
  refine x_aload_n C dX4_init_0 0 rfl ?_
  refine x_objInit C kX4_init_0 kX4_init_1 kX4_init_2 (by decide) (by decide) dX4_init_1 ?_
  refine x_aload_n C dX4_init_4 0 rfl ?_
  refine x_null C dX4_init_5 ?_
  refine x_put C ho (T := TX4) rfl tyX4_ok nmX4 kX4_init_4 1 (by decide) kX4_init_3 rfl (fs' := [.null, .null, vI 0, vI 0]) rfl rfl (by simp) rfl dX4_init_6 (x_hn (fun h1 e2 => ?_))
  have f3 : h1 o = some (eO 4 [.null, .null, vI 0, vI 0]) := by rw [e2]; exact hu_s
  refine x_aload_n C dX4_init_9 0 rfl ?_
  refine x_iconst C dX4_init_10 0 (by decide) ?_
  refine x_put C f3 (T := TX4) rfl tyX4_ok nmX4 kX4_init_4 2 (by decide) kX4_init_5 rfl (fs' := [.null, .null, vI 0, vI 0]) rfl rfl (by simp) rfl dX4_init_11 (x_hn (fun h4 e5 => ?_))
  have f6 : h4 o = some (eO 4 [.null, .null, vI 0, vI 0]) := by rw [e5]; exact hu_s
  refine x_aload_n C dX4_init_14 0 rfl ?_
  refine x_iconst C dX4_init_15 0 (by decide) ?_
  refine x_put C f6 (T := TX4) rfl tyX4_ok nmX4 kX4_init_4 3 (by decide) kX4_init_6 rfl (fs' := [.null, .null, vI 0, vI 0]) rfl rfl (by simp) rfl dX4_init_16 (x_hn (fun h7 e8 => ?_))
  have f9 : h7 o = some (eO 4 [.null, .null, vI 0, vI 0]) := by rw [e8]; exact hu_s
  refine x_aload_n C dX4_init_19 0 rfl ?_
  refine x_new C (ci := 0) (T := TX0) (fs := [.null, vI 0, vI 0, vI 0, vI 0]) rfl tyX0_ok kX4_init_7 kX4_init_8 kX4_init_9 kX4_init_10 (by intro j hj; rcases (show j = 0 ∨ j = 1 ∨ j = 2 ∨ j = 3 ∨ j = 4 by omega) with rfl | rfl | rfl | rfl | rfl <;> rfl) (by decide) (by decide) dX4_init_20 (fun q10 nq13 => x_hn (fun h11 e12 => ?_))
  have nb14 : h q10 = none := by rw [e8, e5, e2] at nq13; exact (hu_none (hu_none (hu_none nq13).1).1).1
  have f15 : h11 q10 = some (eO 0 [.null, vI 0, vI 0, vI 0, vI 0]) := by rw [e12]; exact hu_s
  refine x_dup C dX4_init_23 rfl ?_
  refine x_aload_n C dX4_init_24 1 rfl ?_
  refine x_callI C (n := 1) (As := [.ref as]) (rest := [.ref q10, .ref o]) (c_X0_init f15) gX4_init_X0_init kX4_init_10 kX4_init_12 kX4_init_11 rfl (by decide +kernel) rfl rfl rfl (Nat.le_of_ble_eq_true rfl) ⟨by decide, by decide⟩ ⟨(by decide), (by decide)⟩ dX4_init_25 (fun rv16 h17 hp18 => ?_)
  obtain ⟨rfl, e19⟩ := hp18
  have f20 : h17 q10 = some (eO 0 [.ref as, vI 0, vI 0, vI ((0 : Nat) : Int), vI 1]) := by rw [e19]; exact hu_s
  have f21 : h11 o = some (eO 4 [.null, .null, vI 0, vI 0]) := by rw [e12, hu_n (vnn f9 nq13)]; exact f9
  have f22 : h17 o = some (eO 4 [.null, .null, vI 0, vI 0]) := by rw [e19, hu_n (vnn f9 nq13)]; exact f21
  refine x_putF C f22 (T := TX4) rfl tyX4_ok nmX4 kX4_init_4 0 (by decide) kX4_init_13 rfl rfl rfl (fs' := [.ref q10, .null, vI 0, vI 0]) rfl rfl (by simp) rfl dX4_init_28 (x_hn (fun h23 e24 => ?_))
  have f25 : h23 o = some (eO 4 [.ref q10, .null, vI 0, vI 0]) := by rw [e24]; exact hu_s
  refine x_vret C G dX4_init_31 ?_ (by decide) (by decide)
  have f26 : h23 q10 = some (eO 0 [.ref as, vI 0, vI 0, vI ((0 : Nat) : Int), vI 1]) := by rw [e24, hu_n (Ne.symm (vnn f9 nq13))]; exact f20
  refine ⟨rfl, q10, nb14, ⟨f25, f26⟩, fun b e hb he => by rw [e24, hu_n hb, e19, hu_n (vnn he nb14), e12, hu_n (vnn he nb14), e8, hu_n hb, e5, hu_n hb, e2, hu_n hb]; exact he⟩

theorem kX5_init_0 : Cond.methodLink "LedgeLevels$Search" 3 Lib.objectInit ∈ wsX5_init := by decide +kernel
theorem kX5_init_1 : Cond.instanceMethod Lib.objectInit ∈ wsX5_init := by decide +kernel
theorem kX5_init_2 : Cond.code Lib.objectInit ⟨#[0xb1]⟩ 1 none ∈ wsX5_init := by decide +kernel
theorem kX5_init_3 : Cond.arrayClass (newarray.typeOf .int) ∈ wsX5_init := by decide +kernel
theorem kX5_init_4 : Cond.fieldLink "LedgeLevels$Search" 9 "LedgeLevels$Search" "queue" "[I" ∈ wsX5_init := by decide +kernel
theorem kX5_init_5 : ∀ w ∈ wsX50, w ∈ wsX5_init := by decide +kernel
theorem kX5_init_6 : Cond.fieldLink "LedgeLevels$Search" 15 "LedgeLevels$Search" "seenIn" "[I" ∈ wsX5_init := by decide +kernel
theorem kX5_init_7 : Cond.arrayClass (newarray.typeOf .boolean) ∈ wsX5_init := by decide +kernel
theorem kX5_init_8 : Cond.fieldLink "LedgeLevels$Search" 18 "LedgeLevels$Search" "reached" "[Z" ∈ wsX5_init := by decide +kernel
theorem kX5_init_9 : Cond.fieldLink "LedgeLevels$Search" 22 "LedgeLevels$Search" "number" "I" ∈ wsX5_init := by decide +kernel
theorem kX5_init_10 : Cond.fieldLink "LedgeLevels$Search" 26 "LedgeLevels$Search" "tail" "I" ∈ wsX5_init := by decide +kernel
theorem kX5_init_11 : Cond.fieldLink "LedgeLevels$Search" 29 "LedgeLevels$Search" "won" "I" ∈ wsX5_init := by decide +kernel
theorem kX5_init_12 : ∀ w ∈ wsX00, w ∈ wsX5_init := by decide +kernel
theorem kX5_init_13 : Cond.classLink "LedgeLevels$Search" 32 "LedgeLevels$Body" ∈ wsX5_init := by decide +kernel
theorem kX5_init_14 : Cond.instantiable "LedgeLevels$Body" 5 ∈ wsX5_init := by decide +kernel
theorem kX5_init_15 : Cond.initialized "LedgeLevels$Body" ∈ wsX5_init := by decide +kernel
theorem kX5_init_16 : Cond.instanceMethod yX0_init ∈ wsX5_init := by decide +kernel
theorem kX5_init_17 : Cond.methodLink "LedgeLevels$Search" 34 yX0_init ∈ wsX5_init := by decide +kernel
theorem kX5_init_18 : Cond.fieldLink "LedgeLevels$Search" 37 "LedgeLevels$Search" "body" "LLedgeLevels$Body;" ∈ wsX5_init := by decide +kernel
set_option maxRecDepth 100000 in
set_option maxHeartbeats 1000000 in
theorem c_X5_init {l : Launch} {D : va_G} {A : Nat → Prop} {h : vh} {o as : Nat} (ho : h o = some (eO 5 [.null, .null, .null, .null, vI 0, vI 0, vI 0]))  : MX l D A yX5_init wsX5_init { frames := 2, cells := 4, slots := 12389, locals := 41 } [.ref o, .ref as] h (fun rv h' => rv = none ∧ ∃ sq sn sr sb : Nat, (h sq = none ∧ h sn = none ∧ h sr = none ∧ h sb = none) ∧ sq ≠ sn ∧ (h' o = some (eO 5 [.ref sb, .ref sq, .ref sn, .ref sr, vI 0, vI ((0 : Nat) : Int), vI (-1)]) ∧ h' sb = some (eO 0 [.ref as, vI 0, vI 0, vI ((0 : Nat) : Int), vI 1]) ∧ h' sq = some (eI D 6144 (fun _ => 0)) ∧ h' sn = some (eI D 6144 (fun _ => 0)) ∧ h' sr = some (eZ D 96 (fun _ => 0))) ∧ ∀ (b9 : Nat) (e9 : va_E), b9 ≠ o → h b9 = some e9 → h' b9 = some e9) := by
  refine MX.of (cc := cX5_init) (maxL := 2) (ret := none) [(0, .ref o), (1, .ref as)] (by decide +kernel) rfl rfl (Nat.le_of_ble_eq_true rfl) ?_
  intro κ C hkl G
  subst hkl
  have C : CX κ "LedgeLevels$Search" "<init>" cX5_init wsX5_init { frames := 2, cells := 4, slots := 12389, locals := 41 } D A 2 := C
  have hiz : nq (D.1 20) (D.1 21) := cx_iz C
  refine x_aload_n C dX5_init_0 0 rfl ?_
  refine x_objInit C kX5_init_0 kX5_init_1 kX5_init_2 (by decide) (by decide) dX5_init_1 ?_
  refine x_aload_n C dX5_init_4 0 rfl ?_
  refine x_sipush C dX5_init_5 6144 (by decide) ?_
  refine x_newI C (N := 6144) kX5_init_3 (by decide) (by decide) (by decide) (by decide) dX5_init_8 (fun q1 nq4 => x_hn (fun h2 e3 => ?_))
  have nb5 : h q1 = none := nq4
  have f6 : h2 q1 = some (eI D 6144 (fun _ => 0)) := by rw [e3]; exact hu_s
  have f7 : h2 o = some (eO 5 [.null, .null, .null, .null, vI 0, vI 0, vI 0]) := by rw [e3, hu_n (vnn ho nq4)]; exact ho
  refine x_putF C f7 (T := TX5) rfl tyX5_ok nmX5 kX5_init_5 1 (by decide) kX5_init_4 rfl rfl rfl (fs' := [.null, .ref q1, .null, .null, vI 0, vI 0, vI 0]) rfl rfl (by simp) rfl dX5_init_10 (x_hn (fun h8 e9 => ?_))
  have f10 : h8 o = some (eO 5 [.null, .ref q1, .null, .null, vI 0, vI 0, vI 0]) := by rw [e9]; exact hu_s
  refine x_aload_n C dX5_init_13 0 rfl ?_
  refine x_sipush C dX5_init_14 6144 (by decide) ?_
  refine x_newI C (N := 6144) kX5_init_3 (by decide) (by decide) (by decide) (by decide) dX5_init_17 (fun q11 nq14 => x_hn (fun h12 e13 => ?_))
  have nb15 : h q11 = none := by rw [e9, e3] at nq14; exact (hu_none (hu_none nq14).1).1
  have f16 : h12 q11 = some (eI D 6144 (fun _ => 0)) := by rw [e13]; exact hu_s
  have f17 : h8 q1 = some (eI D 6144 (fun _ => 0)) := by rw [e9, hu_n (Ne.symm (vnn ho nq4))]; exact f6
  have f18 : h12 o = some (eO 5 [.null, .ref q1, .null, .null, vI 0, vI 0, vI 0]) := by rw [e13, hu_n (vnn f10 nq14)]; exact f10
  refine x_putF C f18 (T := TX5) rfl tyX5_ok nmX5 kX5_init_5 2 (by decide) kX5_init_6 rfl rfl rfl (fs' := [.null, .ref q1, .ref q11, .null, vI 0, vI 0, vI 0]) rfl rfl (by simp) rfl dX5_init_19 (x_hn (fun h19 e20 => ?_))
  have f21 : h19 o = some (eO 5 [.null, .ref q1, .ref q11, .null, vI 0, vI 0, vI 0]) := by rw [e20]; exact hu_s
  refine x_aload_n C dX5_init_22 0 rfl ?_
  refine x_bipush C dX5_init_23 96 (by decide) ?_
  refine x_newZ C (N := 96) kX5_init_7 (by decide) (by decide) (by decide) (by decide) dX5_init_25 (fun q22 nq25 => x_hn (fun h23 e24 => ?_))
  have nb26 : h q22 = none := by rw [e20, e13, e9, e3] at nq25; exact (hu_none (hu_none (hu_none (hu_none nq25).1).1).1).1
  have f27 : h23 q22 = some (eZ D 96 (fun _ => 0)) := by rw [e24]; exact hu_s
  have f28 : h12 q1 = some (eI D 6144 (fun _ => 0)) := by rw [e13, hu_n (vnn f17 nq14)]; exact f17
  have f29 : h19 q1 = some (eI D 6144 (fun _ => 0)) := by rw [e20, hu_n (Ne.symm (vnn ho nq4))]; exact f28
  have f30 : h19 q11 = some (eI D 6144 (fun _ => 0)) := by rw [e20, hu_n (Ne.symm (vnn f10 nq14))]; exact f16
  have f31 : h23 o = some (eO 5 [.null, .ref q1, .ref q11, .null, vI 0, vI 0, vI 0]) := by rw [e24, hu_n (vnn f21 nq25)]; exact f21
  refine x_putF C f31 (T := TX5) rfl tyX5_ok nmX5 kX5_init_5 3 (by decide) kX5_init_8 rfl rfl rfl (fs' := [.null, .ref q1, .ref q11, .ref q22, vI 0, vI 0, vI 0]) rfl rfl (by simp) rfl dX5_init_27 (x_hn (fun h32 e33 => ?_))
  have f34 : h32 o = some (eO 5 [.null, .ref q1, .ref q11, .ref q22, vI 0, vI 0, vI 0]) := by rw [e33]; exact hu_s
  refine x_aload_n C dX5_init_30 0 rfl ?_
  refine x_iconst C dX5_init_31 0 (by decide) ?_
  refine x_put C f34 (T := TX5) rfl tyX5_ok nmX5 kX5_init_5 4 (by decide) kX5_init_9 rfl (fs' := [.null, .ref q1, .ref q11, .ref q22, vI 0, vI 0, vI 0]) rfl rfl (by simp) rfl dX5_init_32 (x_hn (fun h35 e36 => ?_))
  have f37 : h35 o = some (eO 5 [.null, .ref q1, .ref q11, .ref q22, vI 0, vI 0, vI 0]) := by rw [e36]; exact hu_s
  refine x_aload_n C dX5_init_35 0 rfl ?_
  refine x_iconst C dX5_init_36 0 (by decide) ?_
  refine x_put C f37 (T := TX5) rfl tyX5_ok nmX5 kX5_init_5 5 (by decide) kX5_init_10 rfl (fs' := [.null, .ref q1, .ref q11, .ref q22, vI 0, vI 0, vI 0]) rfl rfl (by simp) rfl dX5_init_37 (x_hn (fun h38 e39 => ?_))
  have f40 : h38 o = some (eO 5 [.null, .ref q1, .ref q11, .ref q22, vI 0, vI 0, vI 0]) := by rw [e39]; exact hu_s
  refine x_aload_n C dX5_init_40 0 rfl ?_
  refine x_iconst C dX5_init_41 (-1) (by decide) ?_
  refine x_put C f40 (T := TX5) rfl tyX5_ok nmX5 kX5_init_5 6 (by decide) kX5_init_11 rfl (fs' := [.null, .ref q1, .ref q11, .ref q22, vI 0, vI 0, vI (-1)]) rfl rfl (by simp) rfl dX5_init_42 (x_hn (fun h41 e42 => ?_))
  have f43 : h41 o = some (eO 5 [.null, .ref q1, .ref q11, .ref q22, vI 0, vI 0, vI (-1)]) := by rw [e42]; exact hu_s
  refine x_aload_n C dX5_init_45 0 rfl ?_
  refine x_new C (ci := 0) (T := TX0) (fs := [.null, vI 0, vI 0, vI 0, vI 0]) rfl tyX0_ok kX5_init_12 kX5_init_13 kX5_init_14 kX5_init_15 (by intro j hj; rcases (show j = 0 ∨ j = 1 ∨ j = 2 ∨ j = 3 ∨ j = 4 by omega) with rfl | rfl | rfl | rfl | rfl <;> rfl) (by decide) (by decide) dX5_init_46 (fun q44 nq47 => x_hn (fun h45 e46 => ?_))
  have nb48 : h q44 = none := by rw [e42, e39, e36, e33, e24, e20, e13, e9, e3] at nq47; exact (hu_none (hu_none (hu_none (hu_none (hu_none (hu_none (hu_none (hu_none (hu_none nq47).1).1).1).1).1).1).1).1).1
  have f49 : h45 q44 = some (eO 0 [.null, vI 0, vI 0, vI 0, vI 0]) := by rw [e46]; exact hu_s
  have f50 : h23 q1 = some (eI D 6144 (fun _ => 0)) := by rw [e24, hu_n (vnn f29 nq25)]; exact f29
  have f51 : h32 q1 = some (eI D 6144 (fun _ => 0)) := by rw [e33, hu_n (Ne.symm (vnn ho nq4))]; exact f50
  have f52 : h35 q1 = some (eI D 6144 (fun _ => 0)) := by rw [e36, hu_n (Ne.symm (vnn ho nq4))]; exact f51
  have f53 : h38 q1 = some (eI D 6144 (fun _ => 0)) := by rw [e39, hu_n (Ne.symm (vnn ho nq4))]; exact f52
  have f54 : h41 q1 = some (eI D 6144 (fun _ => 0)) := by rw [e42, hu_n (Ne.symm (vnn ho nq4))]; exact f53
  have f55 : h23 q11 = some (eI D 6144 (fun _ => 0)) := by rw [e24, hu_n (vnn f30 nq25)]; exact f30
  have f56 : h32 q11 = some (eI D 6144 (fun _ => 0)) := by rw [e33, hu_n (Ne.symm (vnn f10 nq14))]; exact f55
  have f57 : h35 q11 = some (eI D 6144 (fun _ => 0)) := by rw [e36, hu_n (Ne.symm (vnn f10 nq14))]; exact f56
  have f58 : h38 q11 = some (eI D 6144 (fun _ => 0)) := by rw [e39, hu_n (Ne.symm (vnn f10 nq14))]; exact f57
  have f59 : h41 q11 = some (eI D 6144 (fun _ => 0)) := by rw [e42, hu_n (Ne.symm (vnn f10 nq14))]; exact f58
  have f60 : h32 q22 = some (eZ D 96 (fun _ => 0)) := by rw [e33, hu_n (Ne.symm (vnn f21 nq25))]; exact f27
  have f61 : h35 q22 = some (eZ D 96 (fun _ => 0)) := by rw [e36, hu_n (Ne.symm (vnn f21 nq25))]; exact f60
  have f62 : h38 q22 = some (eZ D 96 (fun _ => 0)) := by rw [e39, hu_n (Ne.symm (vnn f21 nq25))]; exact f61
  have f63 : h41 q22 = some (eZ D 96 (fun _ => 0)) := by rw [e42, hu_n (Ne.symm (vnn f21 nq25))]; exact f62
  refine x_dup C dX5_init_49 rfl ?_
  refine x_aload_n C dX5_init_50 1 rfl ?_
  refine x_callI C (n := 1) (As := [.ref as]) (rest := [.ref q44, .ref o]) (c_X0_init f49) gX5_init_X0_init kX5_init_15 kX5_init_17 kX5_init_16 rfl (by decide +kernel) rfl rfl rfl (Nat.le_of_ble_eq_true rfl) ⟨by decide, by decide⟩ ⟨(by decide), (by decide)⟩ dX5_init_51 (fun rv64 h65 hp66 => ?_)
  obtain ⟨rfl, e67⟩ := hp66
  have f68 : h65 q44 = some (eO 0 [.ref as, vI 0, vI 0, vI ((0 : Nat) : Int), vI 1]) := by rw [e67]; exact hu_s
  have f69 : h45 o = some (eO 5 [.null, .ref q1, .ref q11, .ref q22, vI 0, vI 0, vI (-1)]) := by rw [e46, hu_n (vnn f43 nq47)]; exact f43
  have f70 : h65 o = some (eO 5 [.null, .ref q1, .ref q11, .ref q22, vI 0, vI 0, vI (-1)]) := by rw [e67, hu_n (vnn f43 nq47)]; exact f69
  refine x_putF C f70 (T := TX5) rfl tyX5_ok nmX5 kX5_init_5 0 (by decide) kX5_init_18 rfl rfl rfl (fs' := [.ref q44, .ref q1, .ref q11, .ref q22, vI 0, vI 0, vI (-1)]) rfl rfl (by simp) rfl dX5_init_54 (x_hn (fun h71 e72 => ?_))
  have f73 : h71 o = some (eO 5 [.ref q44, .ref q1, .ref q11, .ref q22, vI 0, vI 0, vI (-1)]) := by rw [e72]; exact hu_s
  refine x_vret C G dX5_init_57 ?_ (by decide) (by decide)
  have f74 : h71 q44 = some (eO 0 [.ref as, vI 0, vI 0, vI ((0 : Nat) : Int), vI 1]) := by rw [e72, hu_n (Ne.symm (vnn f43 nq47))]; exact f68
  have f75 : h45 q1 = some (eI D 6144 (fun _ => 0)) := by rw [e46, hu_n (vnn f54 nq47)]; exact f54
  have f76 : h65 q1 = some (eI D 6144 (fun _ => 0)) := by rw [e67, hu_n (vnn f54 nq47)]; exact f75
  have f77 : h71 q1 = some (eI D 6144 (fun _ => 0)) := by rw [e72, hu_n (Ne.symm (vnn ho nq4))]; exact f76
  have f78 : h45 q11 = some (eI D 6144 (fun _ => 0)) := by rw [e46, hu_n (vnn f59 nq47)]; exact f59
  have f79 : h65 q11 = some (eI D 6144 (fun _ => 0)) := by rw [e67, hu_n (vnn f59 nq47)]; exact f78
  have f80 : h71 q11 = some (eI D 6144 (fun _ => 0)) := by rw [e72, hu_n (Ne.symm (vnn f10 nq14))]; exact f79
  have f81 : h45 q22 = some (eZ D 96 (fun _ => 0)) := by rw [e46, hu_n (vnn f63 nq47)]; exact f63
  have f82 : h65 q22 = some (eZ D 96 (fun _ => 0)) := by rw [e67, hu_n (vnn f63 nq47)]; exact f81
  have f83 : h71 q22 = some (eZ D 96 (fun _ => 0)) := by rw [e72, hu_n (Ne.symm (vnn f21 nq25))]; exact f82
  refine ⟨rfl, q1, q11, q22, q44, ⟨nb5, nb15, nb26, nb48⟩, (vnn f17 nq14), ⟨f73, f74, f77, f80, f83⟩, fun b e hb he => by rw [e72, hu_n hb, e67, hu_n (vnn he nb48), e46, hu_n (vnn he nb48), e42, hu_n hb, e39, hu_n hb, e36, hu_n hb, e33, hu_n hb, e24, hu_n (vnn he nb26), e20, hu_n hb, e13, hu_n (vnn he nb15), e9, hu_n hb, e3, hu_n (vnn he nb5)]; exact he⟩

theorem kX3_putAnew_0 : Cond.fieldLink "LedgeLevels$Level" 12 "LedgeLevels$Level" "grid" "LLedgeLevels$Grid;" ∈ wsX3_putAnew := by decide +kernel
theorem kX3_putAnew_1 : ∀ w ∈ wsX30, w ∈ wsX3_putAnew := by decide +kernel
theorem kX3_putAnew_2 : Cond.fieldLink "LedgeLevels$Level" 29 "LedgeLevels$Level" "proof" "I" ∈ wsX3_putAnew := by decide +kernel
set_option maxRecDepth 100000 in
set_option maxHeartbeats 1000000 in
theorem c_X3_putAnew {l : Launch} {D : va_G} {A : Nat → Prop} {h : vh} {o g ak aq : Nat} {f q : Nat → Int} {a : Nat} {z k pf : Int} {x1 x2 x3 x4 : Value} (ho : h o = some (eO 3 [x1, x2, .ref g, x3, x4, vI pf])) (hg : h g = some (eO 1 [.ref ak, .ref aq, vI ((a : Nat) : Int)])) (hk : h ak = some (eI D 96 f)) (hqq : h aq = some (eI D 3 q)) (hz : 0 ≤ z ∧ z < 96) (hkk : 0 ≤ k ∧ k ≤ 8) (hf : ∀ j, 0 ≤ f j ∧ f j ≤ 8) (hq : ∀ j, -1 ≤ q j ∧ q j ≤ 95) : MX l D A yX3_putAnew wsX3_putAnew { frames := 2, cells := 0, slots := 0, locals := 45 } [.ref o, vI z, vI k] h (fun rv h' => rv = none ∧ h' = hu (hu (hu (hu h ak (eI D 96 (fu f z.toNat k))) aq (eI D 3 (gpq f q z k))) g (eO 1 [.ref ak, .ref aq, vI ((gpa f q a z k : Nat) : Int)])) o (eO 3 [x1, x2, .ref g, x3, x4, vI (-2)])) := by
  refine MX.of (cc := cX3_putAnew) (maxL := 3) (ret := none) [(0, .ref o), (1, vI z), (2, vI k)] (by decide +kernel) rfl rfl (Nat.le_of_ble_eq_true rfl) ?_
  intro κ C hkl G
  subst hkl
  have C : CX κ "LedgeLevels$Level" "putAnew" cX3_putAnew wsX3_putAnew { frames := 2, cells := 0, slots := 0, locals := 45 } D A 3 := C
  have hiz : nq (D.1 20) (D.1 21) := cx_iz C
  have nn_o_g : nq o g := vnt ho hg (p := (3, 3)) (q := (3, 1)) rfl rfl (by decide)
  have nn_g_o : nq g o := Ne.symm nn_o_g
  have nn_o_ak : nq o ak := vnt ho hk (p := (3, 3)) (q := (0, 96)) rfl rfl (by decide)
  have nn_ak_o : nq ak o := Ne.symm nn_o_ak
  have nn_o_aq : nq o aq := vnt ho hqq (p := (3, 3)) (q := (0, 3)) rfl rfl (by decide)
  have nn_aq_o : nq aq o := Ne.symm nn_o_aq
  have nn_g_ak : nq g ak := vnt hg hk (p := (3, 1)) (q := (0, 96)) rfl rfl (by decide)
  have nn_ak_g : nq ak g := Ne.symm nn_g_ak
  have nn_g_aq : nq g aq := vnt hg hqq (p := (3, 1)) (q := (0, 3)) rfl rfl (by decide)
  have nn_aq_g : nq aq g := Ne.symm nn_g_aq
  have nn_ak_aq : nq ak aq := vnt hk hqq (p := (0, 96)) (q := (0, 3)) rfl rfl (by decide)
  have nn_aq_ak : nq aq ak := Ne.symm nn_ak_aq
  refine x_aload_n C dX3_putAnew_0 0 rfl ?_
  refine x_get C (v := .ref g) ho (T := TX3) rfl kX3_putAnew_1 2 (by decide) kX3_putAnew_0 rfl dX3_putAnew_1 ?_
  refine x_iload_n C dX3_putAnew_4 1 rfl ?_
  refine x_iload_n C dX3_putAnew_5 2 rfl ?_
  refine x_callV C (n := 2) (qc := (RX1, TX1, 3)) (As := [vI z, vI k]) (rest := []) (c_X1_put hg hk hqq (by omega) (by omega) (by assumption) (by assumption)) gX3_putAnew_X1_put (by decide +kernel) hg rfl rfl rfl rfl (Nat.le_of_ble_eq_true rfl) ⟨by decide, by decide⟩ ⟨(by decide), (by decide)⟩ dX3_putAnew_6 (fun rv1 h2 hp3 => ?_)
  obtain ⟨rfl, e4⟩ := hp3
  have f5 : h2 g = some (eO 1 [.ref ak, .ref aq, vI ((gpa f q a z k : Nat) : Int)]) := by rw [e4]; exact hu_s
  have n7 : nq aq g := vnt hqq hg (p := (0, 3)) (q := (3, 1)) rfl rfl (by decide)
  have f6 : h2 aq = some (eI D 3 (gpq f q z k)) := by rw [e4, hu_n n7]; exact hu_s
  have n9 : nq ak g := vnt hk hg (p := (0, 96)) (q := (3, 1)) rfl rfl (by decide)
  have n10 : nq ak aq := vnt hk hqq (p := (0, 96)) (q := (0, 3)) rfl rfl (by decide)
  have f8 : h2 ak = some (eI D 96 (fu f z.toNat k)) := by rw [e4, hu_n n9, hu_n n10]; exact hu_s
  refine x_aload_n C dX3_putAnew_9 0 rfl ?_
  refine x_bipush C dX3_putAnew_10 (-2) (by decide) ?_
  have n12 : nq o g := vnt ho hg (p := (3, 3)) (q := (3, 1)) rfl rfl (by decide)
  have n13 : nq o aq := vnt ho hqq (p := (3, 3)) (q := (0, 3)) rfl rfl (by decide)
  have n14 : nq o ak := vnt ho hk (p := (3, 3)) (q := (0, 96)) rfl rfl (by decide)
  have f11 : h2 o = some (eO 3 [x1, x2, .ref g, x3, x4, vI pf]) := by rw [e4, hu_n n12, hu_n n13, hu_n n14]; exact ho
  refine x_put C f11 (T := TX3) rfl tyX3_ok nmX3 kX3_putAnew_1 5 (by decide) kX3_putAnew_2 rfl (fs' := [x1, x2, .ref g, x3, x4, vI (-2)]) rfl rfl (by simp) rfl dX3_putAnew_12 (x_hn (fun h15 e16 => ?_))
  have f17 : h15 o = some (eO 3 [x1, x2, .ref g, x3, x4, vI (-2)]) := by rw [e16]; exact hu_s
  refine x_vret C G dX3_putAnew_15 ?_ (by decide) (by decide)
  exact ⟨rfl, by rw [e16, e4]⟩

/-- the sum of the first n -/
def sumN (f : Nat → Int) : Nat → Int
  | 0 => 0
  | n + 1 => sumN f n + f n
theorem sumN_r {f : Nat → Int} (h : ∀ j, 0 ≤ f j ∧ f j ≤ 5) : ∀ n, 0 ≤ sumN f n ∧ sumN f n ≤ 5 * n
  | 0 => ⟨Int.le_refl _, Int.le_refl _⟩
  | n + 1 => by have h1 := sumN_r h n; have h2 := h n; unfold sumN; omega

theorem kX6_starSum_0 : Cond.fieldLink "LedgeLevels$Work" 18 "LedgeLevels$Work" "given" "[I" ∈ wsX6_starSum := by decide +kernel
theorem kX6_starSum_1 : ∀ w ∈ wsX60, w ∈ wsX6_starSum := by decide +kernel
set_option maxRecDepth 100000 in
set_option maxHeartbeats 1000000 in
theorem c_X6_starSum {l : Launch} {D : va_G} {A : Nat → Prop} {h : vh} {o gi : Nat} {x1 x2 x3 x4 x5 x7 x8 : Value} {f : Nat → Int} (ho : h o = some (eO 6 [x1, x2, x3, x4, x5, .ref gi, x7, x8])) (hgi : h gi = some (eI D 6 f)) (hr : ∀ j, 0 ≤ f j ∧ f j ≤ 5) : MX l D A yX6_starSum wsX6_starSum { frames := 0, cells := 0, slots := 0, locals := 0 } [.ref o] h (fun rv h' => rv = some (vI (sumN f 6)) ∧ h' = h) := by
  refine MX.of (cc := cX6_starSum) (maxL := 6) (ret := (some .int)) [(0, .ref o)] (by decide +kernel) rfl rfl (Nat.le_of_ble_eq_true rfl) ?_
  intro κ C hkl G
  subst hkl
  have C : CX κ "LedgeLevels$Work" "starSum" cX6_starSum wsX6_starSum { frames := 0, cells := 0, slots := 0, locals := 0 } D A 6 := C
  have hiz : nq (D.1 20) (D.1 21) := cx_iz C
  refine x_iconst C dX6_starSum_0 0 (by decide) ?_
  refine x_istore_n C (ls' := [(0, .ref o), (1, vI 0)]) dX6_starSum_1 (by decide) rfl ?_
  refine x_aload_n C dX6_starSum_2 0 rfl ?_
  refine x_get C (v := .ref gi) ho (T := TX6) rfl kX6_starSum_1 5 (by decide) kX6_starSum_0 rfl dX6_starSum_3 ?_
  refine x_astore_n C (ls' := [(0, .ref o), (1, vI 0), (2, .ref gi)]) dX6_starSum_6 (by decide) rfl ?_
  refine x_aload_n C dX6_starSum_7 2 rfl ?_
  refine x_alen C hgi (t0 := 0) rfl 6 rfl dX6_starSum_8 ?_
  refine x_istore_n C (ls' := [(0, .ref o), (1, vI 0), (2, .ref gi), (3, vI 6)]) dX6_starSum_9 (by decide) rfl ?_
  refine x_iconst C dX6_starSum_10 0 (by decide) ?_
  refine x_istore C (ls' := [(0, .ref o), (1, vI 0), (2, .ref gi), (3, vI 6), (4, vI 0)]) dX6_starSum_11 (by decide) rfl ?_
  have LP : ∀ (N : Nat) (i : Nat)   (hi : i ≤ 6) (hm : 6 - i < N), X κ 0 0 h [(0, .ref o), (1, vI (sumN f i)), (2, .ref gi), (3, vI 6), (4, vI ((i : Nat) : Int))] 13 [] := by
    intro N
    induction N with
    | zero => intro i hi hm; exfalso; omega
    | succ N ihLP =>
      intro i hi hm
      have hs9 := sumN_r hr i
      have hr9 := hr i
      refine x_iload C dX6_starSum_13 4 rfl ?_
      refine x_iload_n C dX6_starSum_15 3 rfl ?_
      refine x_icmp_ge (tgt := 36) C dX6_starSum_16 (by decide) (by omega) (by omega) (fun c2 => ?_) (fun c2 => ?_)
      · skip
        refine x_iload_n C dX6_starSum_36 1 rfl ?_
        refine x_iret C G dX6_starSum_37 ?_ (by decide) (by decide)
        obtain rfl : i = 6 := by omega
        exact ⟨rfl, rfl⟩
      · skip
        refine x_aload_n C dX6_starSum_19 2 rfl ?_
        refine x_iload C dX6_starSum_20 4 rfl ?_
        refine x_iald C hgi ⟨by omega, by omega⟩ (by decide) dX6_starSum_22 ?_
        refine x_istore C (ls' := [(0, .ref o), (1, vI (sumN f i)), (2, .ref gi), (3, vI 6), (4, vI ((i : Nat) : Int)), (5, vI (f (Int.toNat (((i : Nat) : Int)))))]) dX6_starSum_23 (by decide) rfl ?_
        refine x_iload_n C dX6_starSum_25 1 rfl ?_
        refine x_iload C dX6_starSum_26 5 rfl ?_
        refine x_iadd C dX6_starSum_28 ?_
        refine x_istore_n C (ls' := [(0, .ref o), (1, vI ((sumN f i) + (f (Int.toNat (((i : Nat) : Int)))))), (2, .ref gi), (3, vI 6), (4, vI ((i : Nat) : Int)), (5, vI (f (Int.toNat (((i : Nat) : Int)))))]) dX6_starSum_29 (by decide) rfl ?_
        refine x_iinc C (x := ((i : Nat) : Int)) (ls' := [(0, .ref o), (1, vI ((sumN f i) + (f (Int.toNat (((i : Nat) : Int)))))), (2, .ref gi), (3, vI 6), (4, vI ((((i : Nat) : Int)) + 1)), (5, vI (f (Int.toNat (((i : Nat) : Int)))))]) dX6_starSum_30 4 rfl (by decide) rfl ?_
        refine x_goto (tgt := 13) C dX6_starSum_33 (by decide) ?_
        refine x_sub [0, 1, 2, 3, 4] (ls' := [(0, .ref o), (1, vI (sumN f (i + 1))), (2, .ref gi), (3, vI 6), (4, vI ((((i : Nat) : Int)) + 1))]) rfl ?_
        exact ihLP (i + 1) (by omega) (by omega)
  exact LP (7) 0 (by omega) (by omega)

theorem kX6_noteWin_0 : Cond.fieldLink "LedgeLevels$Work" 22 "LedgeLevels$Work" "record" "I" ∈ wsX6_noteWin := by decide +kernel
theorem kX6_noteWin_1 : ∀ w ∈ wsX60, w ∈ wsX6_noteWin := by decide +kernel
set_option maxRecDepth 100000 in
set_option maxHeartbeats 1000000 in
theorem c_X6_noteWin {l : Launch} {D : va_G} {A : Nat → Prop} {h : vh} {o : Nat} {x1 x2 x3 x4 x5 x6 x7 : Value} {r n : Int} (ho : h o = some (eO 6 [x1, x2, x3, x4, x5, x6, x7, vI r])) (hr : -1 ≤ r ∧ r ≤ 300) (hn : 0 ≤ n ∧ n ≤ 300) : MX l D A yX6_noteWin wsX6_noteWin { frames := 0, cells := 0, slots := 0, locals := 0 } [.ref o, vI n] h (fun rv h' => rv = none ∧ h' = hu h o (eO 6 [x1, x2, x3, x4, x5, x6, x7, vI (if r < 0 ∨ n < r then n else r)])) := by
  refine MX.of (cc := cX6_noteWin) (maxL := 2) (ret := none) [(0, .ref o), (1, vI n)] (by decide +kernel) rfl rfl (Nat.le_of_ble_eq_true rfl) ?_
  intro κ C hkl G
  subst hkl
  have C : CX κ "LedgeLevels$Work" "noteWin" cX6_noteWin wsX6_noteWin { frames := 0, cells := 0, slots := 0, locals := 0 } D A 2 := C
  have hiz : nq (D.1 20) (D.1 21) := cx_iz C
  refine x_aload_n C dX6_noteWin_0 0 rfl ?_
  refine x_get C (v := vI r) ho (T := TX6) rfl kX6_noteWin_1 7 (by decide) kX6_noteWin_0 rfl dX6_noteWin_1 ?_
  refine x_if_lt (tgt := 15) C dX6_noteWin_4 (by decide) (by omega) (fun c1 => ?_) (fun c1 => ?_)
  · skip
    refine x_aload_n C dX6_noteWin_15 0 rfl ?_
    refine x_iload_n C dX6_noteWin_16 1 rfl ?_
    refine x_put C ho (T := TX6) rfl tyX6_ok nmX6 kX6_noteWin_1 7 (by decide) kX6_noteWin_0 rfl (fs' := [x1, x2, x3, x4, x5, x6, x7, vI n]) rfl rfl (by simp) rfl dX6_noteWin_17 (x_hn (fun h2 e3 => ?_))
    have f4 : h2 o = some (eO 6 [x1, x2, x3, x4, x5, x6, x7, vI n]) := by rw [e3]; exact hu_s
    refine x_vret C G dX6_noteWin_20 ?_ (by decide) (by decide)
    refine ⟨rfl, ?_⟩
    first
      | (rw [if_pos (by omega)]; rw [e3])
      | (rw [if_neg (by omega), hu_i ho])
  · skip
    refine x_iload_n C dX6_noteWin_7 1 rfl ?_
    refine x_aload_n C dX6_noteWin_8 0 rfl ?_
    refine x_get C (v := vI r) ho (T := TX6) rfl kX6_noteWin_1 7 (by decide) kX6_noteWin_0 rfl dX6_noteWin_9 ?_
    refine x_icmp_ge (tgt := 20) C dX6_noteWin_12 (by decide) (by omega) (by omega) (fun c5 => ?_) (fun c5 => ?_)
    · skip
      refine x_vret C G dX6_noteWin_20 ?_ (by decide) (by decide)
      refine ⟨rfl, ?_⟩
      first
        | (rw [if_pos (by omega)]; rw [])
        | (rw [if_neg (by omega), hu_i ho])
    · skip
      refine x_aload_n C dX6_noteWin_15 0 rfl ?_
      refine x_iload_n C dX6_noteWin_16 1 rfl ?_
      refine x_put C ho (T := TX6) rfl tyX6_ok nmX6 kX6_noteWin_1 7 (by decide) kX6_noteWin_0 rfl (fs' := [x1, x2, x3, x4, x5, x6, x7, vI n]) rfl rfl (by simp) rfl dX6_noteWin_17 (x_hn (fun h6 e7 => ?_))
      have f8 : h6 o = some (eO 6 [x1, x2, x3, x4, x5, x6, x7, vI n]) := by rw [e7]; exact hu_s
      refine x_vret C G dX6_noteWin_20 ?_ (by decide) (by decide)
      refine ⟨rfl, ?_⟩
      first
        | (rw [if_pos (by omega)]; rw [e7])
        | (rw [if_neg (by omega), hu_i ho])

theorem kX4_takeStateOfBody_0 : Cond.fieldLink "LedgeLevels$Run" 27 "LedgeLevels$Run" "body" "LLedgeLevels$Body;" ∈ wsX4_takeStateOfBody := by decide +kernel
theorem kX4_takeStateOfBody_1 : ∀ w ∈ wsX40, w ∈ wsX4_takeStateOfBody := by decide +kernel
theorem kX4_takeStateOfBody_2 : Cond.fieldLinkNest "LedgeLevels$Run" 50 "LedgeLevels$Body" "fate" "I" "LedgeLevels" ∈ nwAll := by decide +kernel
theorem kX4_takeStateOfBody_3 : ∀ w ∈ wsX00, w ∈ wsX4_takeStateOfBody := by decide +kernel
theorem kX4_takeStateOfBody_4 : Cond.fieldLink "LedgeLevels$Run" 15 "LedgeLevels$Run" "state" "I" ∈ wsX4_takeStateOfBody := by decide +kernel
theorem kX4_takeStateOfBody_5 : Cond.fieldLink "LedgeLevels$Run" 9 "LedgeLevels$Run" "work" "LLedgeLevels$Work;" ∈ wsX4_takeStateOfBody := by decide +kernel
theorem kX4_takeStateOfBody_6 : Cond.fieldLink "LedgeLevels$Run" 19 "LedgeLevels$Run" "steps" "I" ∈ wsX4_takeStateOfBody := by decide +kernel
set_option maxRecDepth 100000 in
set_option maxHeartbeats 1000000 in
theorem c_X4_takeStateOfBody {l : Launch} {D : va_G} {A : Nat → Prop} {h : vh} {o b wk : Nat} {x1 x2 x3 x4 x5 x6 x7 y1 y3 y4 : Value} {cc r n fa s0 : Int} (ho : h o = some (eO 4 [.ref b, .ref wk, vI s0, vI n])) (hb : h b = some (eO 0 [y1, vI cc, y3, y4, vI fa])) (hwk : h wk = some (eO 6 [x1, x2, x3, x4, x5, x6, x7, vI r])) (hfa : 0 ≤ fa ∧ fa ≤ 4) (hr : -1 ≤ r ∧ r ≤ 300) (hn : 0 ≤ n ∧ n ≤ 300) : MX l D A yX4_takeStateOfBody wsX4_takeStateOfBody { frames := 1, cells := 0, slots := 0, locals := 21 } [.ref o] h (fun rv h' => rv = none ∧ h' = hu (hu h o (eO 4 [.ref b, .ref wk, vI fa, vI n])) wk (eO 6 [x1, x2, x3, x4, x5, x6, x7, vI (if fa = 2 then (if r < 0 ∨ n < r then n else r) else r)])) := by
  refine MX.of (cc := cX4_takeStateOfBody) (maxL := 1) (ret := none) [(0, .ref o)] (by decide +kernel) rfl rfl (Nat.le_of_ble_eq_true rfl) ?_
  intro κ C hkl G
  subst hkl
  have C : CX κ "LedgeLevels$Run" "takeStateOfBody" cX4_takeStateOfBody wsX4_takeStateOfBody { frames := 1, cells := 0, slots := 0, locals := 21 } D A 1 := C
  have hiz : nq (D.1 20) (D.1 21) := cx_iz C
  have nn_o_b : nq o b := vnt ho hb (p := (3, 4)) (q := (3, 0)) rfl rfl (by decide)
  have nn_b_o : nq b o := Ne.symm nn_o_b
  have nn_o_wk : nq o wk := vnt ho hwk (p := (3, 4)) (q := (3, 6)) rfl rfl (by decide)
  have nn_wk_o : nq wk o := Ne.symm nn_o_wk
  have nn_b_wk : nq b wk := vnt hb hwk (p := (3, 0)) (q := (3, 6)) rfl rfl (by decide)
  have nn_wk_b : nq wk b := Ne.symm nn_b_wk
  refine x_aload_n C dX4_takeStateOfBody_0 0 rfl ?_
  refine x_aload_n C dX4_takeStateOfBody_1 0 rfl ?_
  refine x_get C (v := .ref b) ho (T := TX4) rfl kX4_takeStateOfBody_1 0 (by decide) kX4_takeStateOfBody_0 rfl dX4_takeStateOfBody_2 ?_
  refine x_getN (host := "LedgeLevels") C (v := vI fa) hb (T := TX0) rfl kX4_takeStateOfBody_3 4 (by decide) kX4_takeStateOfBody_2 rfl dX4_takeStateOfBody_5 ?_
  refine x_put C ho (T := TX4) rfl tyX4_ok nmX4 kX4_takeStateOfBody_1 2 (by decide) kX4_takeStateOfBody_4 rfl (fs' := [.ref b, .ref wk, vI fa, vI n]) rfl rfl (by simp) rfl dX4_takeStateOfBody_8 (x_hn (fun h1 e2 => ?_))
  have f3 : h1 o = some (eO 4 [.ref b, .ref wk, vI fa, vI n]) := by rw [e2]; exact hu_s
  refine x_aload_n C dX4_takeStateOfBody_11 0 rfl ?_
  refine x_get C (v := vI fa) f3 (T := TX4) rfl kX4_takeStateOfBody_1 2 (by decide) kX4_takeStateOfBody_4 rfl dX4_takeStateOfBody_12 ?_
  refine x_iconst C dX4_takeStateOfBody_15 2 (by decide) ?_
  refine x_icmp_ne (tgt := 37) C dX4_takeStateOfBody_16 (by decide) (by omega) (by omega) (fun c4 => ?_) (fun c4 => ?_)
  · skip
    refine x_vret C G dX4_takeStateOfBody_37 ?_ (by decide) (by decide)
    refine ⟨rfl, ?_⟩
    first
      | (rw [if_pos (by assumption)]; rw [e2])
      | (rw [if_neg (by assumption), hu_i (h := hu h o _) (a := wk) (by rw [hu_n nn_wk_o]; exact hwk)]; rw [e2])
  · skip
    refine x_aload_n C dX4_takeStateOfBody_19 0 rfl ?_
    refine x_get C (v := .ref wk) f3 (T := TX4) rfl kX4_takeStateOfBody_1 1 (by decide) kX4_takeStateOfBody_5 rfl dX4_takeStateOfBody_20 ?_
    refine x_ifnull C dX4_takeStateOfBody_23 ?_
    refine x_aload_n C dX4_takeStateOfBody_26 0 rfl ?_
    refine x_get C (v := .ref wk) f3 (T := TX4) rfl kX4_takeStateOfBody_1 1 (by decide) kX4_takeStateOfBody_5 rfl dX4_takeStateOfBody_27 ?_
    refine x_aload_n C dX4_takeStateOfBody_30 0 rfl ?_
    refine x_get C (v := vI n) f3 (T := TX4) rfl kX4_takeStateOfBody_1 3 (by decide) kX4_takeStateOfBody_6 rfl dX4_takeStateOfBody_31 ?_
    have n6 : nq wk o := vnt hwk ho (p := (3, 6)) (q := (3, 4)) rfl rfl (by decide)
    have f5 : h1 wk = some (eO 6 [x1, x2, x3, x4, x5, x6, x7, vI r]) := by rw [e2, hu_n n6]; exact hwk
    refine x_callV C (n := 1) (qc := (RX6, TX6, 8)) (As := [vI n]) (rest := []) (c_X6_noteWin f5 (by omega) (by omega)) gX4_takeStateOfBody_X6_noteWin (by decide +kernel) f5 rfl rfl rfl rfl (Nat.le_of_ble_eq_true rfl) ⟨by decide, by decide⟩ ⟨(by decide), (by decide)⟩ dX4_takeStateOfBody_34 (fun rv7 h8 hp9 => ?_)
    obtain ⟨rfl, e10⟩ := hp9
    have f11 : h8 wk = some (eO 6 [x1, x2, x3, x4, x5, x6, x7, vI (if r < 0 ∨ n < r then n else r)]) := by rw [e10]; exact hu_s
    refine x_vret C G dX4_takeStateOfBody_37 ?_ (by decide) (by decide)
    refine ⟨rfl, ?_⟩
    first
      | (rw [if_pos (by assumption)]; rw [e10, e2])
      | (rw [if_neg (by assumption), hu_i (h := hu h o _) (a := wk) (by rw [hu_n nn_wk_o]; exact hwk)]; rw [e10, e2])

theorem kX4_answer_0 : Cond.fieldLink "LedgeLevels$Run" 15 "LedgeLevels$Run" "state" "I" ∈ wsX4_answer := by decide +kernel
theorem kX4_answer_1 : ∀ w ∈ wsX40, w ∈ wsX4_answer := by decide +kernel
theorem kX4_answer_2 : Cond.fieldLink "LedgeLevels$Run" 27 "LedgeLevels$Run" "body" "LLedgeLevels$Body;" ∈ wsX4_answer := by decide +kernel
theorem kX4_answer_3 : Cond.fieldLinkNest "LedgeLevels$Run" 57 "LedgeLevels$Body" "cell" "I" "LedgeLevels" ∈ nwAll := by decide +kernel
theorem kX4_answer_4 : ∀ w ∈ wsX00, w ∈ wsX4_answer := by decide +kernel
set_option maxRecDepth 100000 in
set_option maxHeartbeats 1000000 in
theorem c_X4_answer {l : Launch} {D : va_G} {A : Nat → Prop} {h : vh} {o b : Nat} {x2 x4 y1 y3 y4 y5 : Value} {s cc : Int} (ho : h o = some (eO 4 [.ref b, x2, vI s, x4])) (hb : h b = some (eO 0 [y1, vI cc, y3, y4, y5])) (hs : 0 ≤ s ∧ s ≤ 4) (hcc : 0 ≤ cc ∧ cc ≤ 95) : MX l D A yX4_answer wsX4_answer { frames := 0, cells := 0, slots := 0, locals := 0 } [.ref o] h (fun rv h' => rv = some (vI (if s = 3 then -1 else if s = 2 then -2 else cc)) ∧ h' = h) := by
  refine MX.of (cc := cX4_answer) (maxL := 1) (ret := (some .int)) [(0, .ref o)] (by decide +kernel) rfl rfl (Nat.le_of_ble_eq_true rfl) ?_
  intro κ C hkl G
  subst hkl
  have C : CX κ "LedgeLevels$Run" "answer" cX4_answer wsX4_answer { frames := 0, cells := 0, slots := 0, locals := 0 } D A 1 := C
  have hiz : nq (D.1 20) (D.1 21) := cx_iz C
  refine x_aload_n C dX4_answer_0 0 rfl ?_
  refine x_get C (v := vI s) ho (T := TX4) rfl kX4_answer_1 2 (by decide) kX4_answer_0 rfl dX4_answer_1 ?_
  refine x_iconst C dX4_answer_4 3 (by decide) ?_
  refine x_icmp_ne (tgt := 10) C dX4_answer_5 (by decide) (by omega) (by omega) (fun c1 => ?_) (fun c1 => ?_)
  · skip
    refine x_aload_n C dX4_answer_10 0 rfl ?_
    refine x_get C (v := vI s) ho (T := TX4) rfl kX4_answer_1 2 (by decide) kX4_answer_0 rfl dX4_answer_11 ?_
    refine x_iconst C dX4_answer_14 2 (by decide) ?_
    refine x_icmp_ne (tgt := 23) C dX4_answer_15 (by decide) (by omega) (by omega) (fun c2 => ?_) (fun c2 => ?_)
    · skip
      refine x_aload_n C dX4_answer_23 0 rfl ?_
      refine x_get C (v := .ref b) ho (T := TX4) rfl kX4_answer_1 0 (by decide) kX4_answer_2 rfl dX4_answer_24 ?_
      refine x_getN (host := "LedgeLevels") C (v := vI cc) hb (T := TX0) rfl kX4_answer_4 1 (by decide) kX4_answer_3 rfl dX4_answer_27 ?_
      refine x_iret C G dX4_answer_30 ?_ (by decide) (by decide)
      refine ⟨?_, rfl⟩
      first
        | rw [if_pos (by assumption)]
        | (rw [if_neg (by assumption)]
           first
             | rw [if_pos (by assumption)]
             | rw [if_neg (by assumption)])
    · skip
      refine x_bipush C dX4_answer_18 (-2) (by decide) ?_
      refine x_goto (tgt := 30) C dX4_answer_20 (by decide) ?_
      refine x_iret C G dX4_answer_30 ?_ (by decide) (by decide)
      refine ⟨?_, rfl⟩
      first
        | rw [if_pos (by assumption)]
        | (rw [if_neg (by assumption)]
           first
             | rw [if_pos (by assumption)]
             | rw [if_neg (by assumption)])
  · skip
    refine x_iconst C dX4_answer_8 (-1) (by decide) ?_
    refine x_iret C G dX4_answer_9 ?_ (by decide) (by decide)
    refine ⟨?_, rfl⟩
    first
      | rw [if_pos (by assumption)]
      | (rw [if_neg (by assumption)]
         first
           | rw [if_pos (by assumption)]
           | rw [if_neg (by assumption)])


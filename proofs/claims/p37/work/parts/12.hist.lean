/-! ===== the edits: rows of 40, d of them can be undone, u done again ===== -/
def shN (F : Nat → Int) (n : Nat) : Nat → Int := fun j => if j < n then F (j + 1) else F j
theorem shN_0 (F : Nat → Int) : shN F 0 = F := by funext j; simp [shN]
theorem shN_i (F : Nat → Int) (e : Nat) (h : 1 ≤ e) : fu (shN F (e - 1)) (Int.toNat (((e : Nat) : Int) - 1)) (shN F (e - 1) (Int.toNat ((e : Nat) : Int))) = shN F (e + 1 - 1) := by
  have e1 : Int.toNat (((e : Nat) : Int) - 1) = e - 1 := by omega
  have e2 : Int.toNat ((e : Nat) : Int) = e := by omega
  rw [e1, e2]
  funext j
  unfold fu shN
  by_cases hj : j = e - 1
  · rw [if_pos hj, if_neg (by omega), if_pos (by omega), hj, show e - 1 + 1 = e by omega]
  · rw [if_neg hj]
    by_cases hk : j < e - 1
    · rw [if_pos hk, if_pos (by omega)]
    · rw [if_neg hk, if_neg (by omega)]
/-- an edit is remembered: the place, a row -/
def hd40 (d : Nat) : Nat := if d < 40 then d else 39
def hrow (F : Nat → Int) (d : Nat) (x : Int) : Nat → Int := fu (if d < 40 then F else shN F 39) (hd40 d) x

theorem kX2_forgetEarliest_0 : Cond.fieldLink "LedgeLevels$History" 21 "LedgeLevels$History" "done" "I" ∈ wsX2_forgetEarliest := by decide +kernel
theorem kX2_forgetEarliest_1 : ∀ w ∈ wsX20, w ∈ wsX2_forgetEarliest := by decide +kernel
theorem kX2_forgetEarliest_2 : Cond.fieldLink "LedgeLevels$History" 9 "LedgeLevels$History" "cells" "[I" ∈ wsX2_forgetEarliest := by decide +kernel
theorem kX2_forgetEarliest_3 : Cond.fieldLink "LedgeLevels$History" 15 "LedgeLevels$History" "kindsBefore" "[I" ∈ wsX2_forgetEarliest := by decide +kernel
theorem kX2_forgetEarliest_4 : Cond.fieldLink "LedgeLevels$History" 18 "LedgeLevels$History" "kindsAfter" "[I" ∈ wsX2_forgetEarliest := by decide +kernel
set_option maxRecDepth 100000 in
set_option maxHeartbeats 1000000 in
theorem c_X2_forgetEarliest {l : Launch} {D : va_G} {A : Nat → Prop} {h : vh} {o oc ob oa : Nat} {Fc Fb Fa : Nat → Int} {d u : Nat} (ho : h o = some (eO 2 [.ref oc, .ref ob, .ref oa, vI ((d : Nat) : Int), vI ((u : Nat) : Int)])) (hC : h oc = some (eI D 40 Fc)) (hB : h ob = some (eI D 40 Fb)) (hE : h oa = some (eI D 40 Fa)) (n1 : nq oc ob) (n2 : nq oc oa) (n3 : nq ob oa) : MX l D A yX2_forgetEarliest wsX2_forgetEarliest { frames := 0, cells := 0, slots := 0, locals := 0 } [.ref o] h (fun rv h' => rv = none ∧ h' = hu (hu (hu (hu h oc (eI D 40 (shN Fc 39))) ob (eI D 40 (shN Fb 39))) oa (eI D 40 (shN Fa 39))) o (eO 2 [.ref oc, .ref ob, .ref oa, vI ((39 : Nat) : Int), vI ((u : Nat) : Int)])) := by
  refine MX.of (cc := cX2_forgetEarliest) (maxL := 2) (ret := none) [(0, .ref o)] (by decide +kernel) rfl rfl (Nat.le_of_ble_eq_true rfl) ?_
  intro κ C hkl G
  subst hkl
  have C : CX κ "LedgeLevels$History" "forgetEarliest" cX2_forgetEarliest wsX2_forgetEarliest { frames := 0, cells := 0, slots := 0, locals := 0 } D A 2 := C
  have hiz : nq (D.1 20) (D.1 21) := cx_iz C
  have nn0 : nq o oc := vne ho hC (by intro q; have q2 := congrArg vtag q; simp [vtag] at q2)
  have mm0 : nq oc o := Ne.symm nn0
  have nn1 : nq o ob := vne ho hB (by intro q; have q2 := congrArg vtag q; simp [vtag] at q2)
  have mm1 : nq ob o := Ne.symm nn1
  have nn2 : nq o oa := vne ho hE (by intro q; have q2 := congrArg vtag q; simp [vtag] at q2)
  have mm2 : nq oa o := Ne.symm nn2
  refine x_iconst C dX2_forgetEarliest_0 1 (by decide) ?_
  refine x_istore_n C (ls' := [(0, .ref o), (1, vI 1)]) dX2_forgetEarliest_1 (by decide) rfl ?_
  have LP : ∀ (n : Nat) (e : Nat) (h1 : vh)  (f0 : h1 o = some (eO 2 [.ref oc, .ref ob, .ref oa, vI ((d : Nat) : Int), vI ((u : Nat) : Int)])) (f1 : h1 oc = some (eI D 40 (shN Fc (e - 1)))) (f2 : h1 ob = some (eI D 40 (shN Fb (e - 1)))) (f3 : h1 oa = some (eI D 40 (shN Fa (e - 1)))) (hi : 1 ≤ e ∧ e ≤ 40) (hm : 40 - e < n) (he : h1 = hu (hu (hu h oc (eI D 40 (shN Fc (e - 1)))) ob (eI D 40 (shN Fb (e - 1)))) oa (eI D 40 (shN Fa (e - 1)))), X κ 0 0 h1 [(0, .ref o), (1, vI ((e : Nat) : Int))] 2 [] := by
    intro n
    induction n with
    | zero => intro e h1 f0 f1 f2 f3 hi hm he; exfalso; omega
    | succ n ihLP =>
      intro e h1 f0 f1 f2 f3 hi hm he
      refine x_iload_n C dX2_forgetEarliest_2 1 rfl ?_
      refine x_bipush C dX2_forgetEarliest_3 40 (by decide) ?_
      refine x_icmp_ge (tgt := 56) C dX2_forgetEarliest_5 (by decide) (by omega) (by omega) (fun c2 => ?_) (fun c2 => ?_)
      · skip
        refine x_aload_n C dX2_forgetEarliest_56 0 rfl ?_
        refine x_bipush C dX2_forgetEarliest_57 39 (by decide) ?_
        refine x_put C f0 (T := TX2) rfl tyX2_ok nmX2 kX2_forgetEarliest_1 3 (by decide) kX2_forgetEarliest_0 rfl (fs' := [.ref oc, .ref ob, .ref oa, vI 39, vI ((u : Nat) : Int)]) rfl rfl (by simp) rfl dX2_forgetEarliest_59 (x_hn (fun h3 e4 => ?_))
        have f5 : h3 o = some (eO 2 [.ref oc, .ref ob, .ref oa, vI 39, vI ((u : Nat) : Int)]) := by rw [e4]; exact hu_s
        refine x_vret C G dX2_forgetEarliest_62 ?_ (by decide) (by decide)
        obtain rfl : e = 40 := by omega
        exact ⟨rfl, by rw [e4, he] <;> rfl⟩
      · skip
        refine x_aload_n C dX2_forgetEarliest_8 0 rfl ?_
        refine x_get C (v := .ref oc) f0 (T := TX2) rfl kX2_forgetEarliest_1 0 (by decide) kX2_forgetEarliest_2 rfl dX2_forgetEarliest_9 ?_
        refine x_iload_n C dX2_forgetEarliest_12 1 rfl ?_
        refine x_iconst C dX2_forgetEarliest_13 1 (by decide) ?_
        refine x_isub C dX2_forgetEarliest_14 ?_
        refine x_aload_n C dX2_forgetEarliest_15 0 rfl ?_
        refine x_get C (v := .ref oc) f0 (T := TX2) rfl kX2_forgetEarliest_1 0 (by decide) kX2_forgetEarliest_2 rfl dX2_forgetEarliest_16 ?_
        refine x_iload_n C dX2_forgetEarliest_19 1 rfl ?_
        refine x_iald C f1 ⟨by omega, by omega⟩ (by decide) dX2_forgetEarliest_20 ?_
        refine x_iast C f1 ⟨by omega, by omega⟩ (by decide) dX2_forgetEarliest_21 (x_hn (fun h6 e7 => ?_))
        have f8 : h6 oc = some (eI D 40 (fu (shN Fc (e - 1)) (Int.toNat ((((e : Nat) : Int)) - 1)) ((shN Fc (e - 1)) (Int.toNat (((e : Nat) : Int)))))) := by rw [e7]; exact hu_s
        refine x_aload_n C dX2_forgetEarliest_22 0 rfl ?_
        have n10 : nq o oc := vnt f0 f1 (p := (3, 2)) (q := (0, 40)) rfl rfl (by decide)
        have f9 : h6 o = some (eO 2 [.ref oc, .ref ob, .ref oa, vI ((d : Nat) : Int), vI ((u : Nat) : Int)]) := by rw [e7, hu_n n10]; exact f0
        refine x_get C (v := .ref ob) f9 (T := TX2) rfl kX2_forgetEarliest_1 1 (by decide) kX2_forgetEarliest_3 rfl dX2_forgetEarliest_23 ?_
        refine x_iload_n C dX2_forgetEarliest_26 1 rfl ?_
        refine x_iconst C dX2_forgetEarliest_27 1 (by decide) ?_
        refine x_isub C dX2_forgetEarliest_28 ?_
        refine x_aload_n C dX2_forgetEarliest_29 0 rfl ?_
        refine x_get C (v := .ref ob) f9 (T := TX2) rfl kX2_forgetEarliest_1 1 (by decide) kX2_forgetEarliest_3 rfl dX2_forgetEarliest_30 ?_
        refine x_iload_n C dX2_forgetEarliest_33 1 rfl ?_
        have f11 : h6 ob = some (eI D 40 (shN Fb (e - 1))) := by rw [e7, hu_n (Ne.symm n1)]; exact f2
        refine x_iald C f11 ⟨by omega, by omega⟩ (by decide) dX2_forgetEarliest_34 ?_
        refine x_iast C f11 ⟨by omega, by omega⟩ (by decide) dX2_forgetEarliest_35 (x_hn (fun h12 e13 => ?_))
        have f14 : h12 ob = some (eI D 40 (fu (shN Fb (e - 1)) (Int.toNat ((((e : Nat) : Int)) - 1)) ((shN Fb (e - 1)) (Int.toNat (((e : Nat) : Int)))))) := by rw [e13]; exact hu_s
        refine x_aload_n C dX2_forgetEarliest_36 0 rfl ?_
        have n16 : nq o ob := vnt f9 f11 (p := (3, 2)) (q := (0, 40)) rfl rfl (by decide)
        have f15 : h12 o = some (eO 2 [.ref oc, .ref ob, .ref oa, vI ((d : Nat) : Int), vI ((u : Nat) : Int)]) := by rw [e13, hu_n n16]; exact f9
        refine x_get C (v := .ref oa) f15 (T := TX2) rfl kX2_forgetEarliest_1 2 (by decide) kX2_forgetEarliest_4 rfl dX2_forgetEarliest_37 ?_
        refine x_iload_n C dX2_forgetEarliest_40 1 rfl ?_
        refine x_iconst C dX2_forgetEarliest_41 1 (by decide) ?_
        refine x_isub C dX2_forgetEarliest_42 ?_
        refine x_aload_n C dX2_forgetEarliest_43 0 rfl ?_
        refine x_get C (v := .ref oa) f15 (T := TX2) rfl kX2_forgetEarliest_1 2 (by decide) kX2_forgetEarliest_4 rfl dX2_forgetEarliest_44 ?_
        refine x_iload_n C dX2_forgetEarliest_47 1 rfl ?_
        have f17 : h6 oa = some (eI D 40 (shN Fa (e - 1))) := by rw [e7, hu_n (Ne.symm n2)]; exact f3
        have f18 : h12 oa = some (eI D 40 (shN Fa (e - 1))) := by rw [e13, hu_n (Ne.symm n3)]; exact f17
        refine x_iald C f18 ⟨by omega, by omega⟩ (by decide) dX2_forgetEarliest_48 ?_
        refine x_iast C f18 ⟨by omega, by omega⟩ (by decide) dX2_forgetEarliest_49 (x_hn (fun h19 e20 => ?_))
        have f21 : h19 oa = some (eI D 40 (fu (shN Fa (e - 1)) (Int.toNat ((((e : Nat) : Int)) - 1)) ((shN Fa (e - 1)) (Int.toNat (((e : Nat) : Int)))))) := by rw [e20]; exact hu_s
        refine x_iinc C (x := ((e : Nat) : Int)) (ls' := [(0, .ref o), (1, vI ((((e : Nat) : Int)) + 1))]) dX2_forgetEarliest_50 1 rfl (by decide) rfl ?_
        refine x_goto (tgt := 2) C dX2_forgetEarliest_53 (by decide) ?_
        have n23 : nq o oa := vnt f15 f18 (p := (3, 2)) (q := (0, 40)) rfl rfl (by decide)
        have f22 : h19 o = some (eO 2 [.ref oc, .ref ob, .ref oa, vI ((d : Nat) : Int), vI ((u : Nat) : Int)]) := by rw [e20, hu_n n23]; exact f15
        have f24 : h12 oc = some (eI D 40 (fu (shN Fc (e - 1)) (Int.toNat ((((e : Nat) : Int)) - 1)) ((shN Fc (e - 1)) (Int.toNat (((e : Nat) : Int)))))) := by rw [e13, hu_n n1]; exact f8
        have f25 : h19 oc = some (eI D 40 (fu (shN Fc (e - 1)) (Int.toNat ((((e : Nat) : Int)) - 1)) ((shN Fc (e - 1)) (Int.toNat (((e : Nat) : Int)))))) := by rw [e20, hu_n n2]; exact f24
        have f26 : h19 ob = some (eI D 40 (fu (shN Fb (e - 1)) (Int.toNat ((((e : Nat) : Int)) - 1)) ((shN Fb (e - 1)) (Int.toNat (((e : Nat) : Int)))))) := by rw [e20, hu_n n3]; exact f14
        exact ihLP (e + 1) h19 f22 (by have q9 := f25; rw [shN_i _ e hi.1] at q9; exact q9) (by have q9 := f26; rw [shN_i _ e hi.1] at q9; exact q9) (by have q9 := f21; rw [shN_i _ e hi.1] at q9; exact q9) (by omega) (by omega) (by rw [e20, e13, e7, he, hu3 n1 (Ne.symm n2) (Ne.symm n3), shN_i _ e hi.1, shN_i _ e hi.1, shN_i _ e hi.1])
  exact LP (41) 1 h ho (by show h oc = some (eI D 40 (shN Fc 0)); rw [shN_0]; exact hC) (by show h ob = some (eI D 40 (shN Fb 0)); rw [shN_0]; exact hB) (by show h oa = some (eI D 40 (shN Fa 0)); rw [shN_0]; exact hE) (by omega) (by omega) (by show h = hu (hu (hu h oc (eI D 40 (shN Fc 0))) ob (eI D 40 (shN Fb 0))) oa (eI D 40 (shN Fa 0)); rw [shN_0, shN_0, shN_0, hu_i hC, hu_i hB, hu_i hE])

theorem kX2_remember_0 : Cond.fieldLink "LedgeLevels$History" 21 "LedgeLevels$History" "done" "I" ∈ wsX2_remember := by decide +kernel
theorem kX2_remember_1 : ∀ w ∈ wsX20, w ∈ wsX2_remember := by decide +kernel
theorem kX2_remember_2 : Cond.fieldLink "LedgeLevels$History" 9 "LedgeLevels$History" "cells" "[I" ∈ wsX2_remember := by decide +kernel
theorem kX2_remember_3 : Cond.fieldLink "LedgeLevels$History" 15 "LedgeLevels$History" "kindsBefore" "[I" ∈ wsX2_remember := by decide +kernel
theorem kX2_remember_4 : Cond.fieldLink "LedgeLevels$History" 18 "LedgeLevels$History" "kindsAfter" "[I" ∈ wsX2_remember := by decide +kernel
theorem kX2_remember_5 : Cond.fieldLink "LedgeLevels$History" 25 "LedgeLevels$History" "undone" "I" ∈ wsX2_remember := by decide +kernel
set_option maxRecDepth 100000 in
set_option maxHeartbeats 1000000 in
theorem c_X2_remember {l : Launch} {D : va_G} {A : Nat → Prop} {h : vh} {o oc ob oa : Nat} {Fc Fb Fa : Nat → Int} {d u : Nat} {x y z : Int} (ho : h o = some (eO 2 [.ref oc, .ref ob, .ref oa, vI ((d : Nat) : Int), vI ((u : Nat) : Int)])) (hC : h oc = some (eI D 40 Fc)) (hB : h ob = some (eI D 40 Fb)) (hE : h oa = some (eI D 40 Fa)) (hd : d ≤ 40) (n1 : nq oc ob) (n2 : nq oc oa) (n3 : nq ob oa) : MX l D A yX2_remember wsX2_remember { frames := 1, cells := 0, slots := 0, locals := 21 } [.ref o, vI x, vI y, vI z] h (fun rv h' => rv = none ∧ h' = hu (hu (hu (hu h oc (eI D 40 (hrow Fc d x))) ob (eI D 40 (hrow Fb d y))) oa (eI D 40 (hrow Fa d z))) o (eO 2 [.ref oc, .ref ob, .ref oa, vI ((hd40 d + 1 : Nat) : Int), vI ((0 : Nat) : Int)])) := by
  refine MX.of (cc := cX2_remember) (maxL := 4) (ret := none) [(0, .ref o), (1, vI x), (2, vI y), (3, vI z)] (by decide +kernel) rfl rfl (Nat.le_of_ble_eq_true rfl) ?_
  intro κ C hkl G
  subst hkl
  have C : CX κ "LedgeLevels$History" "remember" cX2_remember wsX2_remember { frames := 1, cells := 0, slots := 0, locals := 21 } D A 4 := C
  have hiz : nq (D.1 20) (D.1 21) := cx_iz C
  have nn0 : nq o oc := vne ho hC (by intro q; have q2 := congrArg vtag q; simp [vtag] at q2)
  have mm0 : nq oc o := Ne.symm nn0
  have nn1 : nq o ob := vne ho hB (by intro q; have q2 := congrArg vtag q; simp [vtag] at q2)
  have mm1 : nq ob o := Ne.symm nn1
  have nn2 : nq o oa := vne ho hE (by intro q; have q2 := congrArg vtag q; simp [vtag] at q2)
  have mm2 : nq oa o := Ne.symm nn2
  have hhd : d < 40 → hd40 d = d := fun q9 => if_pos q9
  have hhe : d = 40 → hd40 d = 39 := fun q9 => if_neg (by omega)
  refine x_aload_n C dX2_remember_0 0 rfl ?_
  refine x_get C (v := vI ((d : Nat) : Int)) ho (T := TX2) rfl kX2_remember_1 3 (by decide) kX2_remember_0 rfl dX2_remember_1 ?_
  refine x_bipush C dX2_remember_4 40 (by decide) ?_
  refine x_icmp_lt (tgt := 13) C dX2_remember_6 (by decide) (by omega) (by omega) (fun c1 => ?_) (fun c1 => ?_)
  · skip
    have hd1 : d < 40 := by omega
    refine x_aload_n C dX2_remember_13 0 rfl ?_
    refine x_get C (v := vI ((d : Nat) : Int)) ho (T := TX2) rfl kX2_remember_1 3 (by decide) kX2_remember_0 rfl dX2_remember_14 ?_
    refine x_if_lt (tgt := 74) C dX2_remember_17 (by decide) (by omega) (fun c2 => ?_) (fun c2 => ?_)
    · exfalso; omega
    · skip
      refine x_aload_n C dX2_remember_20 0 rfl ?_
      refine x_get C (v := vI ((d : Nat) : Int)) ho (T := TX2) rfl kX2_remember_1 3 (by decide) kX2_remember_0 rfl dX2_remember_21 ?_
      refine x_bipush C dX2_remember_24 40 (by decide) ?_
      refine x_icmp_ge (tgt := 74) C dX2_remember_26 (by decide) (by omega) (by omega) (fun c3 => ?_) (fun c3 => ?_)
      · exfalso; omega
      · skip
        refine x_aload_n C dX2_remember_29 0 rfl ?_
        refine x_get C (v := .ref oc) ho (T := TX2) rfl kX2_remember_1 0 (by decide) kX2_remember_2 rfl dX2_remember_30 ?_
        refine x_aload_n C dX2_remember_33 0 rfl ?_
        refine x_get C (v := vI ((d : Nat) : Int)) ho (T := TX2) rfl kX2_remember_1 3 (by decide) kX2_remember_0 rfl dX2_remember_34 ?_
        refine x_iload_n C dX2_remember_37 1 rfl ?_
        refine x_iast C hC ⟨by omega, by omega⟩ (by decide) dX2_remember_38 (x_hn (fun h4 e5 => ?_))
        have f6 : h4 oc = some (eI D 40 (fu Fc (Int.toNat (((d : Nat) : Int))) x)) := by rw [e5]; exact hu_s
        refine x_aload_n C dX2_remember_39 0 rfl ?_
        have n8 : nq o oc := vnt ho hC (p := (3, 2)) (q := (0, 40)) rfl rfl (by decide)
        have f7 : h4 o = some (eO 2 [.ref oc, .ref ob, .ref oa, vI ((d : Nat) : Int), vI ((u : Nat) : Int)]) := by rw [e5, hu_n n8]; exact ho
        refine x_get C (v := .ref ob) f7 (T := TX2) rfl kX2_remember_1 1 (by decide) kX2_remember_3 rfl dX2_remember_40 ?_
        refine x_aload_n C dX2_remember_43 0 rfl ?_
        refine x_get C (v := vI ((d : Nat) : Int)) f7 (T := TX2) rfl kX2_remember_1 3 (by decide) kX2_remember_0 rfl dX2_remember_44 ?_
        refine x_iload_n C dX2_remember_47 2 rfl ?_
        have f9 : h4 ob = some (eI D 40 Fb) := by rw [e5, hu_n (Ne.symm n1)]; exact hB
        refine x_iast C f9 ⟨by omega, by omega⟩ (by decide) dX2_remember_48 (x_hn (fun h10 e11 => ?_))
        have f12 : h10 ob = some (eI D 40 (fu Fb (Int.toNat (((d : Nat) : Int))) y)) := by rw [e11]; exact hu_s
        refine x_aload_n C dX2_remember_49 0 rfl ?_
        have n14 : nq o ob := vnt f7 f9 (p := (3, 2)) (q := (0, 40)) rfl rfl (by decide)
        have f13 : h10 o = some (eO 2 [.ref oc, .ref ob, .ref oa, vI ((d : Nat) : Int), vI ((u : Nat) : Int)]) := by rw [e11, hu_n n14]; exact f7
        refine x_get C (v := .ref oa) f13 (T := TX2) rfl kX2_remember_1 2 (by decide) kX2_remember_4 rfl dX2_remember_50 ?_
        refine x_aload_n C dX2_remember_53 0 rfl ?_
        refine x_get C (v := vI ((d : Nat) : Int)) f13 (T := TX2) rfl kX2_remember_1 3 (by decide) kX2_remember_0 rfl dX2_remember_54 ?_
        refine x_iload_n C dX2_remember_57 3 rfl ?_
        have f15 : h4 oa = some (eI D 40 Fa) := by rw [e5, hu_n (Ne.symm n2)]; exact hE
        have f16 : h10 oa = some (eI D 40 Fa) := by rw [e11, hu_n (Ne.symm n3)]; exact f15
        refine x_iast C f16 ⟨by omega, by omega⟩ (by decide) dX2_remember_58 (x_hn (fun h17 e18 => ?_))
        have f19 : h17 oa = some (eI D 40 (fu Fa (Int.toNat (((d : Nat) : Int))) z)) := by rw [e18]; exact hu_s
        refine x_aload_n C dX2_remember_59 0 rfl ?_
        refine x_dup C dX2_remember_60 rfl ?_
        have n21 : nq o oa := vnt f13 f16 (p := (3, 2)) (q := (0, 40)) rfl rfl (by decide)
        have f20 : h17 o = some (eO 2 [.ref oc, .ref ob, .ref oa, vI ((d : Nat) : Int), vI ((u : Nat) : Int)]) := by rw [e18, hu_n n21]; exact f13
        refine x_get C (v := vI ((d : Nat) : Int)) f20 (T := TX2) rfl kX2_remember_1 3 (by decide) kX2_remember_0 rfl dX2_remember_61 ?_
        refine x_iconst C dX2_remember_64 1 (by decide) ?_
        refine x_iadd C dX2_remember_65 ?_
        refine x_put C f20 (T := TX2) rfl tyX2_ok nmX2 kX2_remember_1 3 (by decide) kX2_remember_0 rfl (fs' := [.ref oc, .ref ob, .ref oa, vI ((((d : Nat) : Int)) + 1), vI ((u : Nat) : Int)]) rfl rfl (by simp) rfl dX2_remember_66 (x_hn (fun h22 e23 => ?_))
        have f24 : h22 o = some (eO 2 [.ref oc, .ref ob, .ref oa, vI ((((d : Nat) : Int)) + 1), vI ((u : Nat) : Int)]) := by rw [e23]; exact hu_s
        refine x_aload_n C dX2_remember_69 0 rfl ?_
        refine x_iconst C dX2_remember_70 0 (by decide) ?_
        refine x_put C f24 (T := TX2) rfl tyX2_ok nmX2 kX2_remember_1 4 (by decide) kX2_remember_5 rfl (fs' := [.ref oc, .ref ob, .ref oa, vI ((((d : Nat) : Int)) + 1), vI 0]) rfl rfl (by simp) rfl dX2_remember_71 (x_hn (fun h25 e26 => ?_))
        have f27 : h25 o = some (eO 2 [.ref oc, .ref ob, .ref oa, vI ((((d : Nat) : Int)) + 1), vI 0]) := by rw [e26]; exact hu_s
        refine x_vret C G dX2_remember_74 ?_ (by decide) (by decide)
        refine ⟨rfl, ?_⟩
        have k9 : Int.toNat ((d : Nat) : Int) = d := by omega
        try rw [e26, e23, e18, e11, e5]
        try simp only [nq] at *
        funext b9
        by_cases b90 : b9 = o
        · rw [b90]; simp [hu, hrow, hd40, n1, n2, n3, Ne.symm n1, Ne.symm n2, Ne.symm n3, show Int.toNat 39 = 39 from rfl, *]
        by_cases b91 : b9 = oa
        · rw [b91]; simp [hu, hrow, hd40, n1, n2, n3, Ne.symm n1, Ne.symm n2, Ne.symm n3, show Int.toNat 39 = 39 from rfl, *]
        by_cases b92 : b9 = ob
        · rw [b92]; simp [hu, hrow, hd40, n1, n2, n3, Ne.symm n1, Ne.symm n2, Ne.symm n3, show Int.toNat 39 = 39 from rfl, *]
        by_cases b93 : b9 = oc
        · rw [b93]; simp [hu, hrow, hd40, n1, n2, n3, Ne.symm n1, Ne.symm n2, Ne.symm n3, show Int.toNat 39 = 39 from rfl, *]
        simp [hu, b90, b91, b92, b93]
  · skip
    have hd1 : d = 40 := by omega
    refine x_aload_n C dX2_remember_9 0 rfl ?_
    refine x_callV C (n := 0) (qc := (RX2, TX2, 5)) (As := []) (rest := []) (c_X2_forgetEarliest ho hC hB hE (by assumption) (by assumption) (by assumption)) gX2_remember_X2_forgetEarliest (by decide +kernel) ho rfl rfl rfl rfl (Nat.le_of_ble_eq_true rfl) ⟨by decide, by decide⟩ ⟨by decide, by decide⟩ dX2_remember_10 (fun rv28 h29 hp30 => ?_)
    obtain ⟨rfl, e31⟩ := hp30
    have f32 : h29 o = some (eO 2 [.ref oc, .ref ob, .ref oa, vI ((39 : Nat) : Int), vI ((u : Nat) : Int)]) := by rw [e31]; exact hu_s
    have n34 : nq oa o := vnt hE ho (p := (0, 40)) (q := (3, 2)) rfl rfl (by decide)
    have f33 : h29 oa = some (eI D 40 (shN Fa 39)) := by rw [e31, hu_n n34]; exact hu_s
    have n36 : nq ob o := vnt hB ho (p := (0, 40)) (q := (3, 2)) rfl rfl (by decide)
    have f35 : h29 ob = some (eI D 40 (shN Fb 39)) := by rw [e31, hu_n n36, hu_n n3]; exact hu_s
    have n38 : nq oc o := vnt hC ho (p := (0, 40)) (q := (3, 2)) rfl rfl (by decide)
    have f37 : h29 oc = some (eI D 40 (shN Fc 39)) := by rw [e31, hu_n n38, hu_n n2, hu_n n1]; exact hu_s
    refine x_aload_n C dX2_remember_13 0 rfl ?_
    refine x_get C (v := vI ((39 : Nat) : Int)) f32 (T := TX2) rfl kX2_remember_1 3 (by decide) kX2_remember_0 rfl dX2_remember_14 ?_
    refine x_if_lt (tgt := 74) C dX2_remember_17 (by decide) (by omega) (fun c39 => ?_) (fun c39 => ?_)
    · exfalso; omega
    · skip
      refine x_aload_n C dX2_remember_20 0 rfl ?_
      refine x_get C (v := vI ((39 : Nat) : Int)) f32 (T := TX2) rfl kX2_remember_1 3 (by decide) kX2_remember_0 rfl dX2_remember_21 ?_
      refine x_bipush C dX2_remember_24 40 (by decide) ?_
      refine x_icmp_ge (tgt := 74) C dX2_remember_26 (by decide) (by omega) (by omega) (fun c40 => ?_) (fun c40 => ?_)
      · exfalso; omega
      · skip
        refine x_aload_n C dX2_remember_29 0 rfl ?_
        refine x_get C (v := .ref oc) f32 (T := TX2) rfl kX2_remember_1 0 (by decide) kX2_remember_2 rfl dX2_remember_30 ?_
        refine x_aload_n C dX2_remember_33 0 rfl ?_
        refine x_get C (v := vI ((39 : Nat) : Int)) f32 (T := TX2) rfl kX2_remember_1 3 (by decide) kX2_remember_0 rfl dX2_remember_34 ?_
        refine x_iload_n C dX2_remember_37 1 rfl ?_
        refine x_iast C f37 ⟨by omega, by omega⟩ (by decide) dX2_remember_38 (x_hn (fun h41 e42 => ?_))
        have f43 : h41 oc = some (eI D 40 (fu (shN Fc 39) (Int.toNat (((39 : Nat) : Int))) x)) := by rw [e42]; exact hu_s
        refine x_aload_n C dX2_remember_39 0 rfl ?_
        have f44 : h41 o = some (eO 2 [.ref oc, .ref ob, .ref oa, vI ((39 : Nat) : Int), vI ((u : Nat) : Int)]) := by rw [e42, hu_n (Ne.symm n38)]; exact f32
        refine x_get C (v := .ref ob) f44 (T := TX2) rfl kX2_remember_1 1 (by decide) kX2_remember_3 rfl dX2_remember_40 ?_
        refine x_aload_n C dX2_remember_43 0 rfl ?_
        refine x_get C (v := vI ((39 : Nat) : Int)) f44 (T := TX2) rfl kX2_remember_1 3 (by decide) kX2_remember_0 rfl dX2_remember_44 ?_
        refine x_iload_n C dX2_remember_47 2 rfl ?_
        have f45 : h41 ob = some (eI D 40 (shN Fb 39)) := by rw [e42, hu_n (Ne.symm n1)]; exact f35
        refine x_iast C f45 ⟨by omega, by omega⟩ (by decide) dX2_remember_48 (x_hn (fun h46 e47 => ?_))
        have f48 : h46 ob = some (eI D 40 (fu (shN Fb 39) (Int.toNat (((39 : Nat) : Int))) y)) := by rw [e47]; exact hu_s
        refine x_aload_n C dX2_remember_49 0 rfl ?_
        have f49 : h46 o = some (eO 2 [.ref oc, .ref ob, .ref oa, vI ((39 : Nat) : Int), vI ((u : Nat) : Int)]) := by rw [e47, hu_n (Ne.symm n36)]; exact f44
        refine x_get C (v := .ref oa) f49 (T := TX2) rfl kX2_remember_1 2 (by decide) kX2_remember_4 rfl dX2_remember_50 ?_
        refine x_aload_n C dX2_remember_53 0 rfl ?_
        refine x_get C (v := vI ((39 : Nat) : Int)) f49 (T := TX2) rfl kX2_remember_1 3 (by decide) kX2_remember_0 rfl dX2_remember_54 ?_
        refine x_iload_n C dX2_remember_57 3 rfl ?_
        have f50 : h41 oa = some (eI D 40 (shN Fa 39)) := by rw [e42, hu_n (Ne.symm n2)]; exact f33
        have f51 : h46 oa = some (eI D 40 (shN Fa 39)) := by rw [e47, hu_n (Ne.symm n3)]; exact f50
        refine x_iast C f51 ⟨by omega, by omega⟩ (by decide) dX2_remember_58 (x_hn (fun h52 e53 => ?_))
        have f54 : h52 oa = some (eI D 40 (fu (shN Fa 39) (Int.toNat (((39 : Nat) : Int))) z)) := by rw [e53]; exact hu_s
        refine x_aload_n C dX2_remember_59 0 rfl ?_
        refine x_dup C dX2_remember_60 rfl ?_
        have f55 : h52 o = some (eO 2 [.ref oc, .ref ob, .ref oa, vI ((39 : Nat) : Int), vI ((u : Nat) : Int)]) := by rw [e53, hu_n (Ne.symm n34)]; exact f49
        refine x_get C (v := vI ((39 : Nat) : Int)) f55 (T := TX2) rfl kX2_remember_1 3 (by decide) kX2_remember_0 rfl dX2_remember_61 ?_
        refine x_iconst C dX2_remember_64 1 (by decide) ?_
        refine x_iadd C dX2_remember_65 ?_
        refine x_put C f55 (T := TX2) rfl tyX2_ok nmX2 kX2_remember_1 3 (by decide) kX2_remember_0 rfl (fs' := [.ref oc, .ref ob, .ref oa, vI ((((39 : Nat) : Int)) + 1), vI ((u : Nat) : Int)]) rfl rfl (by simp) rfl dX2_remember_66 (x_hn (fun h56 e57 => ?_))
        have f58 : h56 o = some (eO 2 [.ref oc, .ref ob, .ref oa, vI ((((39 : Nat) : Int)) + 1), vI ((u : Nat) : Int)]) := by rw [e57]; exact hu_s
        refine x_aload_n C dX2_remember_69 0 rfl ?_
        refine x_iconst C dX2_remember_70 0 (by decide) ?_
        refine x_put C f58 (T := TX2) rfl tyX2_ok nmX2 kX2_remember_1 4 (by decide) kX2_remember_5 rfl (fs' := [.ref oc, .ref ob, .ref oa, vI ((((39 : Nat) : Int)) + 1), vI 0]) rfl rfl (by simp) rfl dX2_remember_71 (x_hn (fun h59 e60 => ?_))
        have f61 : h59 o = some (eO 2 [.ref oc, .ref ob, .ref oa, vI ((((39 : Nat) : Int)) + 1), vI 0]) := by rw [e60]; exact hu_s
        refine x_vret C G dX2_remember_74 ?_ (by decide) (by decide)
        refine ⟨rfl, ?_⟩
        have k9 : Int.toNat ((d : Nat) : Int) = d := by omega
        try rw [e60, e57, e53, e47, e42, e31]
        try simp only [nq] at *
        funext b9
        by_cases b90 : b9 = o
        · rw [b90]; simp [hu, hrow, hd40, n1, n2, n3, Ne.symm n1, Ne.symm n2, Ne.symm n3, show Int.toNat 39 = 39 from rfl, *]
        by_cases b91 : b9 = oa
        · rw [b91]; simp [hu, hrow, hd40, n1, n2, n3, Ne.symm n1, Ne.symm n2, Ne.symm n3, show Int.toNat 39 = 39 from rfl, *]
        by_cases b92 : b9 = ob
        · rw [b92]; simp [hu, hrow, hd40, n1, n2, n3, Ne.symm n1, Ne.symm n2, Ne.symm n3, show Int.toNat 39 = 39 from rfl, *]
        by_cases b93 : b9 = oc
        · rw [b93]; simp [hu, hrow, hd40, n1, n2, n3, Ne.symm n1, Ne.symm n2, Ne.symm n3, show Int.toNat 39 = 39 from rfl, *]
        simp [hu, b90, b91, b92, b93]

theorem kX2_stepBack_0 : Cond.fieldLink "LedgeLevels$History" 21 "LedgeLevels$History" "done" "I" ∈ wsX2_stepBack := by decide +kernel
theorem kX2_stepBack_1 : ∀ w ∈ wsX20, w ∈ wsX2_stepBack := by decide +kernel
theorem kX2_stepBack_2 : Cond.fieldLink "LedgeLevels$History" 25 "LedgeLevels$History" "undone" "I" ∈ wsX2_stepBack := by decide +kernel
set_option maxRecDepth 100000 in
set_option maxHeartbeats 1000000 in
theorem c_X2_stepBack {l : Launch} {D : va_G} {A : Nat → Prop} {h : vh} {o : Nat} {x1 x2 x3 : Value} {d u : Nat} (ho : h o = some (eO 2 [x1, x2, x3, vI ((d : Nat) : Int), vI ((u : Nat) : Int)])) (hd : 1 ≤ d ∧ d ≤ 40) (hu9 : u ≤ 40) : MX l D A yX2_stepBack wsX2_stepBack { frames := 0, cells := 0, slots := 0, locals := 0 } [.ref o] h (fun rv h' => rv = none ∧ h' = hu h o (eO 2 [x1, x2, x3, vI ((d - 1 : Nat) : Int), vI ((u + 1 : Nat) : Int)])) := by
  refine MX.of (cc := cX2_stepBack) (maxL := 1) (ret := none) [(0, .ref o)] (by decide +kernel) rfl rfl (Nat.le_of_ble_eq_true rfl) ?_
  intro κ C hkl G
  subst hkl
  have C : CX κ "LedgeLevels$History" "stepBack" cX2_stepBack wsX2_stepBack { frames := 0, cells := 0, slots := 0, locals := 0 } D A 1 := C
  have hiz : nq (D.1 20) (D.1 21) := cx_iz C
  refine x_aload_n C dX2_stepBack_0 0 rfl ?_
  refine x_dup C dX2_stepBack_1 rfl ?_
  refine x_get C (v := vI ((d : Nat) : Int)) ho (T := TX2) rfl kX2_stepBack_1 3 (by decide) kX2_stepBack_0 rfl dX2_stepBack_2 ?_
  refine x_iconst C dX2_stepBack_5 1 (by decide) ?_
  refine x_isub C dX2_stepBack_6 ?_
  refine x_topv (show (((d : Nat) : Int)) - 1 = ((d - 1 : Nat) : Int) from by omega) ?_
  refine x_put C ho (T := TX2) rfl tyX2_ok nmX2 kX2_stepBack_1 3 (by decide) kX2_stepBack_0 rfl (fs' := [x1, x2, x3, vI ((d - 1 : Nat) : Int), vI ((u : Nat) : Int)]) rfl rfl (by simp) rfl dX2_stepBack_7 (x_hn (fun h1 e2 => ?_))
  have f3 : h1 o = some (eO 2 [x1, x2, x3, vI ((d - 1 : Nat) : Int), vI ((u : Nat) : Int)]) := by rw [e2]; exact hu_s
  refine x_aload_n C dX2_stepBack_10 0 rfl ?_
  refine x_dup C dX2_stepBack_11 rfl ?_
  refine x_get C (v := vI ((u : Nat) : Int)) f3 (T := TX2) rfl kX2_stepBack_1 4 (by decide) kX2_stepBack_2 rfl dX2_stepBack_12 ?_
  refine x_iconst C dX2_stepBack_15 1 (by decide) ?_
  refine x_iadd C dX2_stepBack_16 ?_
  refine x_put C f3 (T := TX2) rfl tyX2_ok nmX2 kX2_stepBack_1 4 (by decide) kX2_stepBack_2 rfl (fs' := [x1, x2, x3, vI ((d - 1 : Nat) : Int), vI ((((u : Nat) : Int)) + 1)]) rfl rfl (by simp) rfl dX2_stepBack_17 (x_hn (fun h4 e5 => ?_))
  have f6 : h4 o = some (eO 2 [x1, x2, x3, vI ((d - 1 : Nat) : Int), vI ((((u : Nat) : Int)) + 1)]) := by rw [e5]; exact hu_s
  refine x_vret C G dX2_stepBack_20 ?_ (by decide) (by decide)
  refine ⟨rfl, ?_⟩
  rw [e5, e2]
  simp only [hu_u]
  rfl

theorem kX2_stepOn_0 : Cond.fieldLink "LedgeLevels$History" 21 "LedgeLevels$History" "done" "I" ∈ wsX2_stepOn := by decide +kernel
theorem kX2_stepOn_1 : ∀ w ∈ wsX20, w ∈ wsX2_stepOn := by decide +kernel
theorem kX2_stepOn_2 : Cond.fieldLink "LedgeLevels$History" 25 "LedgeLevels$History" "undone" "I" ∈ wsX2_stepOn := by decide +kernel
set_option maxRecDepth 100000 in
set_option maxHeartbeats 1000000 in
theorem c_X2_stepOn {l : Launch} {D : va_G} {A : Nat → Prop} {h : vh} {o : Nat} {x1 x2 x3 : Value} {d u : Nat} (ho : h o = some (eO 2 [x1, x2, x3, vI ((d : Nat) : Int), vI ((u : Nat) : Int)])) (hd : d ≤ 40) (hu9 : 1 ≤ u ∧ u ≤ 40) : MX l D A yX2_stepOn wsX2_stepOn { frames := 0, cells := 0, slots := 0, locals := 0 } [.ref o] h (fun rv h' => rv = none ∧ h' = hu h o (eO 2 [x1, x2, x3, vI ((d + 1 : Nat) : Int), vI ((u - 1 : Nat) : Int)])) := by
  refine MX.of (cc := cX2_stepOn) (maxL := 1) (ret := none) [(0, .ref o)] (by decide +kernel) rfl rfl (Nat.le_of_ble_eq_true rfl) ?_
  intro κ C hkl G
  subst hkl
  have C : CX κ "LedgeLevels$History" "stepOn" cX2_stepOn wsX2_stepOn { frames := 0, cells := 0, slots := 0, locals := 0 } D A 1 := C
  have hiz : nq (D.1 20) (D.1 21) := cx_iz C
  refine x_aload_n C dX2_stepOn_0 0 rfl ?_
  refine x_dup C dX2_stepOn_1 rfl ?_
  refine x_get C (v := vI ((d : Nat) : Int)) ho (T := TX2) rfl kX2_stepOn_1 3 (by decide) kX2_stepOn_0 rfl dX2_stepOn_2 ?_
  refine x_iconst C dX2_stepOn_5 1 (by decide) ?_
  refine x_iadd C dX2_stepOn_6 ?_
  refine x_put C ho (T := TX2) rfl tyX2_ok nmX2 kX2_stepOn_1 3 (by decide) kX2_stepOn_0 rfl (fs' := [x1, x2, x3, vI ((((d : Nat) : Int)) + 1), vI ((u : Nat) : Int)]) rfl rfl (by simp) rfl dX2_stepOn_7 (x_hn (fun h1 e2 => ?_))
  have f3 : h1 o = some (eO 2 [x1, x2, x3, vI ((((d : Nat) : Int)) + 1), vI ((u : Nat) : Int)]) := by rw [e2]; exact hu_s
  refine x_aload_n C dX2_stepOn_10 0 rfl ?_
  refine x_dup C dX2_stepOn_11 rfl ?_
  refine x_get C (v := vI ((u : Nat) : Int)) f3 (T := TX2) rfl kX2_stepOn_1 4 (by decide) kX2_stepOn_2 rfl dX2_stepOn_12 ?_
  refine x_iconst C dX2_stepOn_15 1 (by decide) ?_
  refine x_isub C dX2_stepOn_16 ?_
  refine x_topv (show (((u : Nat) : Int)) - 1 = ((u - 1 : Nat) : Int) from by omega) ?_
  refine x_put C f3 (T := TX2) rfl tyX2_ok nmX2 kX2_stepOn_1 4 (by decide) kX2_stepOn_2 rfl (fs' := [x1, x2, x3, vI ((((d : Nat) : Int)) + 1), vI ((u - 1 : Nat) : Int)]) rfl rfl (by simp) rfl dX2_stepOn_17 (x_hn (fun h4 e5 => ?_))
  have f6 : h4 o = some (eO 2 [x1, x2, x3, vI ((((d : Nat) : Int)) + 1), vI ((u - 1 : Nat) : Int)]) := by rw [e5]; exact hu_s
  refine x_vret C G dX2_stepOn_20 ?_ (by decide) (by decide)
  refine ⟨rfl, ?_⟩
  rw [e5, e2]
  simp only [hu_u]
  rfl

theorem kX2_hasNext_0 : Cond.fieldLink "LedgeLevels$History" 21 "LedgeLevels$History" "done" "I" ∈ wsX2_hasNext := by decide +kernel
theorem kX2_hasNext_1 : ∀ w ∈ wsX20, w ∈ wsX2_hasNext := by decide +kernel
set_option maxRecDepth 100000 in
set_option maxHeartbeats 1000000 in
theorem c_X2_hasNext {l : Launch} {D : va_G} {A : Nat → Prop} {h : vh} {o : Nat} {x1 x2 x3 x4 : Value} {d : Nat} (ho : h o = some (eO 2 [x1, x2, x3, vI ((d : Nat) : Int), x4])) (hd : d < 40) : MX l D A yX2_hasNext wsX2_hasNext { frames := 0, cells := 0, slots := 0, locals := 0 } [.ref o] h (fun rv h' => rv = some (vI 1) ∧ h' = h) := by
  refine MX.of (cc := cX2_hasNext) (maxL := 1) (ret := (some .boolean)) [(0, .ref o)] (by decide +kernel) rfl rfl (Nat.le_of_ble_eq_true rfl) ?_
  intro κ C hkl G
  subst hkl
  have C : CX κ "LedgeLevels$History" "hasNext" cX2_hasNext wsX2_hasNext { frames := 0, cells := 0, slots := 0, locals := 0 } D A 1 := C
  have hiz : nq (D.1 20) (D.1 21) := cx_iz C
  refine x_aload_n C dX2_hasNext_0 0 rfl ?_
  refine x_get C (v := vI ((d : Nat) : Int)) ho (T := TX2) rfl kX2_hasNext_1 3 (by decide) kX2_hasNext_0 rfl dX2_hasNext_1 ?_
  refine x_if_lt (tgt := 20) C dX2_hasNext_4 (by decide) (by omega) (fun c1 => ?_) (fun c1 => ?_)
  · exfalso; omega
  · skip
    refine x_aload_n C dX2_hasNext_7 0 rfl ?_
    refine x_get C (v := vI ((d : Nat) : Int)) ho (T := TX2) rfl kX2_hasNext_1 3 (by decide) kX2_hasNext_0 rfl dX2_hasNext_8 ?_
    refine x_bipush C dX2_hasNext_11 40 (by decide) ?_
    refine x_icmp_ge (tgt := 20) C dX2_hasNext_13 (by decide) (by omega) (by omega) (fun c2 => ?_) (fun c2 => ?_)
    · exfalso; omega
    · skip
      refine x_iconst C dX2_hasNext_16 1 (by decide) ?_
      refine x_goto (tgt := 21) C dX2_hasNext_17 (by decide) ?_
      refine x_zret C G dX2_hasNext_21 (by first | exact Or.inl rfl | exact Or.inr rfl) ?_ (by decide) (by decide)
      exact ⟨rfl, rfl⟩

theorem kX2_cellOfNext_0 : Cond.fieldLink "LedgeLevels$History" 9 "LedgeLevels$History" "cells" "[I" ∈ wsX2_cellOfNext := by decide +kernel
theorem kX2_cellOfNext_1 : ∀ w ∈ wsX20, w ∈ wsX2_cellOfNext := by decide +kernel
theorem kX2_cellOfNext_2 : Cond.fieldLink "LedgeLevels$History" 21 "LedgeLevels$History" "done" "I" ∈ wsX2_cellOfNext := by decide +kernel
set_option maxRecDepth 100000 in
set_option maxHeartbeats 1000000 in
theorem c_X2_cellOfNext {l : Launch} {D : va_G} {A : Nat → Prop} {h : vh} {o oc : Nat} {x2 x3 x4 : Value} {d : Nat} {F : Nat → Int} (ho : h o = some (eO 2 [.ref oc, x2, x3, vI ((d : Nat) : Int), x4])) (hF : h oc = some (eI D 40 F)) (hd : d < 40) : MX l D A yX2_cellOfNext wsX2_cellOfNext { frames := 1, cells := 0, slots := 0, locals := 20 } [.ref o] h (fun rv h' => rv = some (vI (F d)) ∧ h' = h) := by
  refine MX.of (cc := cX2_cellOfNext) (maxL := 1) (ret := (some .int)) [(0, .ref o)] (by decide +kernel) rfl rfl (Nat.le_of_ble_eq_true rfl) ?_
  intro κ C hkl G
  subst hkl
  have C : CX κ "LedgeLevels$History" "cellOfNext" cX2_cellOfNext wsX2_cellOfNext { frames := 1, cells := 0, slots := 0, locals := 20 } D A 1 := C
  have hiz : nq (D.1 20) (D.1 21) := cx_iz C
  refine x_aload_n C dX2_cellOfNext_0 0 rfl ?_
  refine x_callV C (n := 0) (qc := (RX2, TX2, 5)) (As := []) (rest := []) (c_X2_hasNext ho (by omega)) gX2_cellOfNext_X2_hasNext (by decide +kernel) ho rfl rfl rfl rfl (Nat.le_of_ble_eq_true rfl) ⟨by decide, by decide⟩ ⟨by decide, by decide⟩ dX2_cellOfNext_1 (fun rv1 h2 hp3 => ?_)
  obtain ⟨rfl, e4⟩ := hp3
  obtain rfl := e4.symm
  refine x_if_eq (tgt := 19) C dX2_cellOfNext_4 (by decide) (by omega) (fun c5 => ?_) (fun c5 => ?_)
  · exfalso; omega
  · skip
    refine x_aload_n C dX2_cellOfNext_7 0 rfl ?_
    refine x_get C (v := .ref oc) ho (T := TX2) rfl kX2_cellOfNext_1 0 (by decide) kX2_cellOfNext_0 rfl dX2_cellOfNext_8 ?_
    refine x_aload_n C dX2_cellOfNext_11 0 rfl ?_
    refine x_get C (v := vI ((d : Nat) : Int)) ho (T := TX2) rfl kX2_cellOfNext_1 3 (by decide) kX2_cellOfNext_2 rfl dX2_cellOfNext_12 ?_
    refine x_iald C hF ⟨by omega, by omega⟩ (by decide) dX2_cellOfNext_15 ?_
    refine x_goto (tgt := 20) C dX2_cellOfNext_16 (by decide) ?_
    refine x_iret C G dX2_cellOfNext_20 ?_ (by decide) (by decide)
    exact ⟨rfl, rfl⟩

theorem kX2_kindBeforeNext_0 : Cond.fieldLink "LedgeLevels$History" 15 "LedgeLevels$History" "kindsBefore" "[I" ∈ wsX2_kindBeforeNext := by decide +kernel
theorem kX2_kindBeforeNext_1 : ∀ w ∈ wsX20, w ∈ wsX2_kindBeforeNext := by decide +kernel
theorem kX2_kindBeforeNext_2 : Cond.fieldLink "LedgeLevels$History" 21 "LedgeLevels$History" "done" "I" ∈ wsX2_kindBeforeNext := by decide +kernel
set_option maxRecDepth 100000 in
set_option maxHeartbeats 1000000 in
theorem c_X2_kindBeforeNext {l : Launch} {D : va_G} {A : Nat → Prop} {h : vh} {o ob : Nat} {x1 x3 x4 : Value} {d : Nat} {F : Nat → Int} (ho : h o = some (eO 2 [x1, .ref ob, x3, vI ((d : Nat) : Int), x4])) (hF : h ob = some (eI D 40 F)) (hd : d < 40) : MX l D A yX2_kindBeforeNext wsX2_kindBeforeNext { frames := 1, cells := 0, slots := 0, locals := 20 } [.ref o] h (fun rv h' => rv = some (vI (F d)) ∧ h' = h) := by
  refine MX.of (cc := cX2_kindBeforeNext) (maxL := 1) (ret := (some .int)) [(0, .ref o)] (by decide +kernel) rfl rfl (Nat.le_of_ble_eq_true rfl) ?_
  intro κ C hkl G
  subst hkl
  have C : CX κ "LedgeLevels$History" "kindBeforeNext" cX2_kindBeforeNext wsX2_kindBeforeNext { frames := 1, cells := 0, slots := 0, locals := 20 } D A 1 := C
  have hiz : nq (D.1 20) (D.1 21) := cx_iz C
  refine x_aload_n C dX2_kindBeforeNext_0 0 rfl ?_
  refine x_callV C (n := 0) (qc := (RX2, TX2, 5)) (As := []) (rest := []) (c_X2_hasNext ho (by omega)) gX2_kindBeforeNext_X2_hasNext (by decide +kernel) ho rfl rfl rfl rfl (Nat.le_of_ble_eq_true rfl) ⟨by decide, by decide⟩ ⟨by decide, by decide⟩ dX2_kindBeforeNext_1 (fun rv1 h2 hp3 => ?_)
  obtain ⟨rfl, e4⟩ := hp3
  obtain rfl := e4.symm
  refine x_if_eq (tgt := 19) C dX2_kindBeforeNext_4 (by decide) (by omega) (fun c5 => ?_) (fun c5 => ?_)
  · exfalso; omega
  · skip
    refine x_aload_n C dX2_kindBeforeNext_7 0 rfl ?_
    refine x_get C (v := .ref ob) ho (T := TX2) rfl kX2_kindBeforeNext_1 1 (by decide) kX2_kindBeforeNext_0 rfl dX2_kindBeforeNext_8 ?_
    refine x_aload_n C dX2_kindBeforeNext_11 0 rfl ?_
    refine x_get C (v := vI ((d : Nat) : Int)) ho (T := TX2) rfl kX2_kindBeforeNext_1 3 (by decide) kX2_kindBeforeNext_2 rfl dX2_kindBeforeNext_12 ?_
    refine x_iald C hF ⟨by omega, by omega⟩ (by decide) dX2_kindBeforeNext_15 ?_
    refine x_goto (tgt := 20) C dX2_kindBeforeNext_16 (by decide) ?_
    refine x_iret C G dX2_kindBeforeNext_20 ?_ (by decide) (by decide)
    exact ⟨rfl, rfl⟩

theorem kX2_kindAfterNext_0 : Cond.fieldLink "LedgeLevels$History" 18 "LedgeLevels$History" "kindsAfter" "[I" ∈ wsX2_kindAfterNext := by decide +kernel
theorem kX2_kindAfterNext_1 : ∀ w ∈ wsX20, w ∈ wsX2_kindAfterNext := by decide +kernel
theorem kX2_kindAfterNext_2 : Cond.fieldLink "LedgeLevels$History" 21 "LedgeLevels$History" "done" "I" ∈ wsX2_kindAfterNext := by decide +kernel
set_option maxRecDepth 100000 in
set_option maxHeartbeats 1000000 in
theorem c_X2_kindAfterNext {l : Launch} {D : va_G} {A : Nat → Prop} {h : vh} {o oa : Nat} {x1 x2 x4 : Value} {d : Nat} {F : Nat → Int} (ho : h o = some (eO 2 [x1, x2, .ref oa, vI ((d : Nat) : Int), x4])) (hF : h oa = some (eI D 40 F)) (hd : d < 40) : MX l D A yX2_kindAfterNext wsX2_kindAfterNext { frames := 1, cells := 0, slots := 0, locals := 20 } [.ref o] h (fun rv h' => rv = some (vI (F d)) ∧ h' = h) := by
  refine MX.of (cc := cX2_kindAfterNext) (maxL := 1) (ret := (some .int)) [(0, .ref o)] (by decide +kernel) rfl rfl (Nat.le_of_ble_eq_true rfl) ?_
  intro κ C hkl G
  subst hkl
  have C : CX κ "LedgeLevels$History" "kindAfterNext" cX2_kindAfterNext wsX2_kindAfterNext { frames := 1, cells := 0, slots := 0, locals := 20 } D A 1 := C
  have hiz : nq (D.1 20) (D.1 21) := cx_iz C
  refine x_aload_n C dX2_kindAfterNext_0 0 rfl ?_
  refine x_callV C (n := 0) (qc := (RX2, TX2, 5)) (As := []) (rest := []) (c_X2_hasNext ho (by omega)) gX2_kindAfterNext_X2_hasNext (by decide +kernel) ho rfl rfl rfl rfl (Nat.le_of_ble_eq_true rfl) ⟨by decide, by decide⟩ ⟨by decide, by decide⟩ dX2_kindAfterNext_1 (fun rv1 h2 hp3 => ?_)
  obtain ⟨rfl, e4⟩ := hp3
  obtain rfl := e4.symm
  refine x_if_eq (tgt := 19) C dX2_kindAfterNext_4 (by decide) (by omega) (fun c5 => ?_) (fun c5 => ?_)
  · exfalso; omega
  · skip
    refine x_aload_n C dX2_kindAfterNext_7 0 rfl ?_
    refine x_get C (v := .ref oa) ho (T := TX2) rfl kX2_kindAfterNext_1 2 (by decide) kX2_kindAfterNext_0 rfl dX2_kindAfterNext_8 ?_
    refine x_aload_n C dX2_kindAfterNext_11 0 rfl ?_
    refine x_get C (v := vI ((d : Nat) : Int)) ho (T := TX2) rfl kX2_kindAfterNext_1 3 (by decide) kX2_kindAfterNext_2 rfl dX2_kindAfterNext_12 ?_
    refine x_iald C hF ⟨by omega, by omega⟩ (by decide) dX2_kindAfterNext_15 ?_
    refine x_goto (tgt := 20) C dX2_kindAfterNext_16 (by decide) ?_
    refine x_iret C G dX2_kindAfterNext_20 ?_ (by decide) (by decide)
    exact ⟨rfl, rfl⟩

theorem kX2_init_0 : Cond.methodLink "LedgeLevels$History" 3 Lib.objectInit ∈ wsX2_init := by decide +kernel
theorem kX2_init_1 : Cond.instanceMethod Lib.objectInit ∈ wsX2_init := by decide +kernel
theorem kX2_init_2 : Cond.code Lib.objectInit ⟨#[0xb1]⟩ 1 none ∈ wsX2_init := by decide +kernel
theorem kX2_init_3 : Cond.arrayClass (newarray.typeOf .int) ∈ wsX2_init := by decide +kernel
theorem kX2_init_4 : Cond.fieldLink "LedgeLevels$History" 9 "LedgeLevels$History" "cells" "[I" ∈ wsX2_init := by decide +kernel
theorem kX2_init_5 : ∀ w ∈ wsX20, w ∈ wsX2_init := by decide +kernel
theorem kX2_init_6 : Cond.fieldLink "LedgeLevels$History" 15 "LedgeLevels$History" "kindsBefore" "[I" ∈ wsX2_init := by decide +kernel
theorem kX2_init_7 : Cond.fieldLink "LedgeLevels$History" 18 "LedgeLevels$History" "kindsAfter" "[I" ∈ wsX2_init := by decide +kernel
theorem kX2_init_8 : Cond.fieldLink "LedgeLevels$History" 21 "LedgeLevels$History" "done" "I" ∈ wsX2_init := by decide +kernel
theorem kX2_init_9 : Cond.fieldLink "LedgeLevels$History" 25 "LedgeLevels$History" "undone" "I" ∈ wsX2_init := by decide +kernel
set_option maxRecDepth 100000 in
set_option maxHeartbeats 1000000 in
theorem c_X2_init {l : Launch} {D : va_G} {A : Nat → Prop} {h : vh} {o : Nat} (ho : h o = some (eO 2 [.null, .null, .null, vI 0, vI 0]))  : MX l D A yX2_init wsX2_init { frames := 1, cells := 3, slots := 120, locals := 20 } [.ref o] h (fun rv h' => rv = none ∧ ∃ oc ob oa : Nat, h oc = none ∧ h ob = none ∧ h oa = none ∧ oc ≠ ob ∧ oc ≠ oa ∧ ob ≠ oa ∧ h' = hu (hu (hu (hu h oc (eI D 40 (fun _ => 0))) ob (eI D 40 (fun _ => 0))) oa (eI D 40 (fun _ => 0))) o (eO 2 [.ref oc, .ref ob, .ref oa, vI ((0 : Nat) : Int), vI ((0 : Nat) : Int)])) := by
  refine MX.of (cc := cX2_init) (maxL := 1) (ret := none) [(0, .ref o)] (by decide +kernel) rfl rfl (Nat.le_of_ble_eq_true rfl) ?_
  intro κ C hkl G
  subst hkl
  have C : CX κ "LedgeLevels$History" "<init>" cX2_init wsX2_init { frames := 1, cells := 3, slots := 120, locals := 20 } D A 1 := C
  have hiz : nq (D.1 20) (D.1 21) := cx_iz C
  refine x_aload_n C dX2_init_0 0 rfl ?_
  refine x_objInit C kX2_init_0 kX2_init_1 kX2_init_2 (by decide) (by decide) dX2_init_1 ?_
  refine x_aload_n C dX2_init_4 0 rfl ?_
  refine x_bipush C dX2_init_5 40 (by decide) ?_
  refine x_newI C (N := 40) kX2_init_3 (by decide) (by decide) (by decide) (by decide) dX2_init_7 (fun q1 nq4 => x_hn (fun h2 e3 => ?_))
  have nb5 : h q1 = none := nq4
  have f6 : h2 q1 = some (eI D 40 (fun _ => 0)) := by rw [e3]; exact hu_s
  have f7 : h2 o = some (eO 2 [.null, .null, .null, vI 0, vI 0]) := by rw [e3, hu_n (vnn ho nq4)]; exact ho
  refine x_putF C f7 (T := TX2) rfl tyX2_ok nmX2 kX2_init_5 0 (by decide) kX2_init_4 rfl rfl rfl (fs' := [.ref q1, .null, .null, vI 0, vI 0]) rfl rfl (by simp) rfl dX2_init_9 (x_hn (fun h8 e9 => ?_))
  have f10 : h8 o = some (eO 2 [.ref q1, .null, .null, vI 0, vI 0]) := by rw [e9]; exact hu_s
  refine x_aload_n C dX2_init_12 0 rfl ?_
  refine x_bipush C dX2_init_13 40 (by decide) ?_
  refine x_newI C (N := 40) kX2_init_3 (by decide) (by decide) (by decide) (by decide) dX2_init_15 (fun q11 nq14 => x_hn (fun h12 e13 => ?_))
  have nb15 : h q11 = none := by rw [e9, e3] at nq14; exact (hu_none (hu_none nq14).1).1
  have f16 : h12 q11 = some (eI D 40 (fun _ => 0)) := by rw [e13]; exact hu_s
  have f17 : h8 q1 = some (eI D 40 (fun _ => 0)) := by rw [e9, hu_n (Ne.symm (vnn ho nq4))]; exact f6
  have f18 : h12 o = some (eO 2 [.ref q1, .null, .null, vI 0, vI 0]) := by rw [e13, hu_n (vnn f10 nq14)]; exact f10
  refine x_putF C f18 (T := TX2) rfl tyX2_ok nmX2 kX2_init_5 1 (by decide) kX2_init_6 rfl rfl rfl (fs' := [.ref q1, .ref q11, .null, vI 0, vI 0]) rfl rfl (by simp) rfl dX2_init_17 (x_hn (fun h19 e20 => ?_))
  have f21 : h19 o = some (eO 2 [.ref q1, .ref q11, .null, vI 0, vI 0]) := by rw [e20]; exact hu_s
  refine x_aload_n C dX2_init_20 0 rfl ?_
  refine x_bipush C dX2_init_21 40 (by decide) ?_
  refine x_newI C (N := 40) kX2_init_3 (by decide) (by decide) (by decide) (by decide) dX2_init_23 (fun q22 nq25 => x_hn (fun h23 e24 => ?_))
  have nb26 : h q22 = none := by rw [e20, e13, e9, e3] at nq25; exact (hu_none (hu_none (hu_none (hu_none nq25).1).1).1).1
  have f27 : h23 q22 = some (eI D 40 (fun _ => 0)) := by rw [e24]; exact hu_s
  have f28 : h12 q1 = some (eI D 40 (fun _ => 0)) := by rw [e13, hu_n (vnn f17 nq14)]; exact f17
  have f29 : h19 q1 = some (eI D 40 (fun _ => 0)) := by rw [e20, hu_n (Ne.symm (vnn ho nq4))]; exact f28
  have f30 : h19 q11 = some (eI D 40 (fun _ => 0)) := by rw [e20, hu_n (Ne.symm (vnn f10 nq14))]; exact f16
  have f31 : h23 o = some (eO 2 [.ref q1, .ref q11, .null, vI 0, vI 0]) := by rw [e24, hu_n (vnn f21 nq25)]; exact f21
  refine x_putF C f31 (T := TX2) rfl tyX2_ok nmX2 kX2_init_5 2 (by decide) kX2_init_7 rfl rfl rfl (fs' := [.ref q1, .ref q11, .ref q22, vI 0, vI 0]) rfl rfl (by simp) rfl dX2_init_25 (x_hn (fun h32 e33 => ?_))
  have f34 : h32 o = some (eO 2 [.ref q1, .ref q11, .ref q22, vI 0, vI 0]) := by rw [e33]; exact hu_s
  refine x_aload_n C dX2_init_28 0 rfl ?_
  refine x_iconst C dX2_init_29 0 (by decide) ?_
  refine x_put C f34 (T := TX2) rfl tyX2_ok nmX2 kX2_init_5 3 (by decide) kX2_init_8 rfl (fs' := [.ref q1, .ref q11, .ref q22, vI 0, vI 0]) rfl rfl (by simp) rfl dX2_init_30 (x_hn (fun h35 e36 => ?_))
  have f37 : h35 o = some (eO 2 [.ref q1, .ref q11, .ref q22, vI 0, vI 0]) := by rw [e36]; exact hu_s
  refine x_aload_n C dX2_init_33 0 rfl ?_
  refine x_iconst C dX2_init_34 0 (by decide) ?_
  refine x_put C f37 (T := TX2) rfl tyX2_ok nmX2 kX2_init_5 4 (by decide) kX2_init_9 rfl (fs' := [.ref q1, .ref q11, .ref q22, vI 0, vI 0]) rfl rfl (by simp) rfl dX2_init_35 (x_hn (fun h38 e39 => ?_))
  have f40 : h38 o = some (eO 2 [.ref q1, .ref q11, .ref q22, vI 0, vI 0]) := by rw [e39]; exact hu_s
  refine x_vret C G dX2_init_38 ?_ (by decide) (by decide)
  have g0 := vnn ho nb5
  have g1 := vnn ho nb15
  have g2 := vnn ho nb26
  have g3 := (vnn f17 nq14)
  have g4 := (vnn f29 nq25)
  have g5 := (vnn f30 nq25)
  refine ⟨rfl, q1, q11, q22, nb5, nb15, nb26, g3, g4, g5, ?_⟩
  rw [e39, e36, e33, e24, e20, e13, e9, e3]
  funext b9
  by_cases b1 : b9 = o
  · rw [b1]; simp [hu, g0, g1, g2]
  · by_cases b2 : b9 = q22
    · rw [b2]; simp [hu, Ne.symm g2]
    · by_cases b3 : b9 = q11
      · rw [b3]; simp [hu, Ne.symm g1, g5]
      · by_cases b4 : b9 = q1
        · rw [b4]; simp [hu, Ne.symm g0, g3, g4]
        · simp [hu, b1, b2, b3, b4]


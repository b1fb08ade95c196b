section XB
variable {κ : KX} {own nm : String} {cc : ByteArray} {Ts : List Cond} {R' : Room} {D : va_G} {A : Nat → Prop} {nL n1 n2 : Nat} {h : vh} {ls : List (Nat × Value)} {pc : Nat} {st : List Value}
theorem x_riand (C : CX κ own nm cc Ts R' D A nL) {x y : Int32} (d : decode cc pc = .ok (.iand, 1)) (kk : X κ n1 n2 h ls (pc + 1) (.int (x &&& y) :: st)) : X κ n1 n2 h ls pc (.int y :: .int x :: st) := by
  obtain ⟨p, l, e, R, s, m, args, below, meth, c, Q, D0, A0, nL0⟩ := κ
  obtain ⟨hx, hb, hml, ho, hts, hlk, hnm, hE, rfl, rfl, rfl, rfl⟩ := C
  exact fun H locs la hS hP hl => lv_iand hx hb d (kk H locs la hS hP hl)
theorem x_riadd (C : CX κ own nm cc Ts R' D A nL) {x y : Int32} (d : decode cc pc = .ok (.iadd, 1)) (kk : X κ n1 n2 h ls (pc + 1) (.int (x + y) :: st)) : X κ n1 n2 h ls pc (.int y :: .int x :: st) := by
  obtain ⟨p, l, e, R, s, m, args, below, meth, c, Q, D0, A0, nL0⟩ := κ
  obtain ⟨hx, hb, hml, ho, hts, hlk, hnm, hE, rfl, rfl, rfl, rfl⟩ := C
  exact fun H locs la hS hP hl => lv_iadd hx hb d (kk H locs la hS hP hl)
theorem x_risub (C : CX κ own nm cc Ts R' D A nL) {x y : Int32} (d : decode cc pc = .ok (.isub, 1)) (kk : X κ n1 n2 h ls (pc + 1) (.int (x - y) :: st)) : X κ n1 n2 h ls pc (.int y :: .int x :: st) := by
  obtain ⟨p, l, e, R, s, m, args, below, meth, c, Q, D0, A0, nL0⟩ := κ
  obtain ⟨hx, hb, hml, ho, hts, hlk, hnm, hE, rfl, rfl, rfl, rfl⟩ := C
  exact fun H locs la hS hP hl => lv_isub hx hb d (kk H locs la hS hP hl)
theorem x_riushr (C : CX κ own nm cc Ts R' D A nL) {x y : Int32} (d : decode cc pc = .ok (.iushr, 1)) (kk : X κ n1 n2 h ls (pc + 1) (.int (x.toUInt32 >>> (y.toUInt32 &&& Int32.toUInt32 31)).toInt32 :: st)) : X κ n1 n2 h ls pc (.int y :: .int x :: st) := by
  obtain ⟨p, l, e, R, s, m, args, below, meth, c, Q, D0, A0, nL0⟩ := κ
  obtain ⟨hx, hb, hml, ho, hts, hlk, hnm, hE, rfl, rfl, rfl, rfl⟩ := C
  exact fun H locs la hS hP hl => lv_iushr hx hb d rfl (kk H locs la hS hP hl)
theorem x_ldcwI (C : CX κ own nm cc Ts R' D A nL) {index : Nat} {v : Int32} (hk : Cond.constant own index v ∈ Ts) (d : decode cc pc = .ok (.ldc_w index, 3)) (kk : X κ n1 n2 h ls (pc + 3) (.int v :: st)) : X κ n1 n2 h ls pc st := by
  obtain ⟨p, l, e, R, s, m, args, below, meth, c, Q, D0, A0, nL0⟩ := κ
  obtain ⟨hx, hb, hml, ho, hts, hlk, hnm, hE, rfl, rfl, rfl, rfl⟩ := C
  exact fun H locs la hS hP hl => lv_ldcw hx hb ho (hts _ hk) d (kk H locs la hS hP hl)
variable {y : MethodName} {ws ws' : List Cond} {rm : Room} {bytes : ByteArray} {maxL n : Nat} {ret : Option FieldType} {As rest : List Value} {post : Option Value → vh → Prop} {index : Nat}
theorem x_callSJ (C : CX κ own nm cc Ts R' D A nL) (hM : MX (kl κ) D A y ws rm (As) h post) (hG : GoodIn Ts (va_wsS own index y ws)) (hd : y.cls ≠ "java/lang/invoke/MethodHandle" ∧ y.cls ≠ "java/lang/invoke/VarHandle" ∧ (parseMethodDescriptor y.desc).map (fun d => d.parameters.length) = some n) (hw : ws = Cond.code y bytes maxL ret :: ws') (hAs : As.length = n) (hst : st = As.reverse ++ rest) (hcat : (rest.map fun v => v.category).sum ≤ 8) (hR : rm.frames + 1 ≤ R'.frames ∧ 8 + (maxL + 11) + rm.locals ≤ R'.locals) (hf : n1 + rm.cells ≤ R'.cells ∧ n2 + rm.slots ≤ R'.slots) (d : decode cc pc = .ok (.invokestatic index, 3))  (kk : ∀ (rv : Option Value) (h' : vh), post rv h' → X κ (n1 + rm.cells) (n2 + rm.slots) h' ls (pc + 3) (stk rv rest)) : X κ n1 n2 h ls pc st := by
  obtain ⟨p, l, e, R, s, m, args, below, meth, c, Q, D0, A0, nL0⟩ := κ
  obtain ⟨hx, hb, hml, ho, hts, hlk, hnm, hE, rfl, rfl, rfl, rfl⟩ := C
  intro H locs la hS hP hl
  exact xr_go (va_runS (As := As) (rest := rest) ⟨hx, hb, hml, ho, hts⟩ hM (va_cwS n hts hG hw rfl rfl hd hR) ⟨mpx_blind, fun U hU hW => ⟨rfl, by rw [hU]; exact hP, hE.next hS hU hW⟩⟩ rfl hAs hl.1 hst (lv_room hcat) d hf) hS hl kk
end XB
/-- how many bits of a small number are set -/
def pc3 (n : Nat) : Nat := n % 2 + n / 2 % 2 + n / 4 % 2

theorem k9_265 : Cond.constant RJ6 265 (1431655765) ∈ wsJ6_bitCount_0f7a4 := by decide +kernel
theorem k9_266 : Cond.constant RJ6 266 (858993459) ∈ wsJ6_bitCount_0f7a4 := by decide +kernel
theorem k9_267 : Cond.constant RJ6 267 (252645135) ∈ wsJ6_bitCount_0f7a4 := by decide +kernel
set_option maxRecDepth 100000 in
theorem c_J6_bitCount {l : Launch} {D : va_G} {A : Nat → Prop} {h : vh} {n : Nat} (hn : n < 8) : MX l D A yJ6_bitCount_0f7a4 wsJ6_bitCount_0f7a4 { frames := 0, cells := 0, slots := 0, locals := 0 } [vI ((n : Nat) : Int)] h (fun rv h' => rv = some (vI ((pc3 n : Nat) : Int)) ∧ h' = h) := by
  refine MX.of (cc := cJ6_bitCount_0f7a4) (maxL := 1) (ret := (some .int)) [(0, vI ((n : Nat) : Int))] (by decide +kernel) rfl rfl (Nat.le_of_ble_eq_true rfl) ?_
  intro κ C hkl G
  subst hkl
  have C : CX κ "java/lang/Integer" "bitCount" cJ6_bitCount_0f7a4 wsJ6_bitCount_0f7a4 { frames := 0, cells := 0, slots := 0, locals := 0 } D A 1 := C
  refine x_iload_n C dJ6_bitCount_0f7a4_0 0 rfl ?_
  refine x_iload_n C dJ6_bitCount_0f7a4_1 0 rfl ?_
  refine x_iconst C dJ6_bitCount_0f7a4_2 1 (by decide) ?_
  refine x_riushr C dJ6_bitCount_0f7a4_3 ?_
  refine x_ldcwI C k9_265 dJ6_bitCount_0f7a4_4 ?_
  refine x_riand C dJ6_bitCount_0f7a4_7 ?_
  refine x_risub C dJ6_bitCount_0f7a4_8 ?_
  refine x_istore_n C dJ6_bitCount_0f7a4_9 (by decide) rfl ?_
  refine x_iload_n C dJ6_bitCount_0f7a4_10 0 rfl ?_
  refine x_ldcwI C k9_266 dJ6_bitCount_0f7a4_11 ?_
  refine x_riand C dJ6_bitCount_0f7a4_14 ?_
  refine x_iload_n C dJ6_bitCount_0f7a4_15 0 rfl ?_
  refine x_iconst C dJ6_bitCount_0f7a4_16 2 (by decide) ?_
  refine x_riushr C dJ6_bitCount_0f7a4_17 ?_
  refine x_ldcwI C k9_266 dJ6_bitCount_0f7a4_18 ?_
  refine x_riand C dJ6_bitCount_0f7a4_21 ?_
  refine x_riadd C dJ6_bitCount_0f7a4_22 ?_
  refine x_istore_n C dJ6_bitCount_0f7a4_23 (by decide) rfl ?_
  refine x_iload_n C dJ6_bitCount_0f7a4_24 0 rfl ?_
  refine x_iload_n C dJ6_bitCount_0f7a4_25 0 rfl ?_
  refine x_iconst C dJ6_bitCount_0f7a4_26 4 (by decide) ?_
  refine x_riushr C dJ6_bitCount_0f7a4_27 ?_
  refine x_riadd C dJ6_bitCount_0f7a4_28 ?_
  refine x_ldcwI C k9_267 dJ6_bitCount_0f7a4_29 ?_
  refine x_riand C dJ6_bitCount_0f7a4_32 ?_
  refine x_istore_n C dJ6_bitCount_0f7a4_33 (by decide) rfl ?_
  refine x_iload_n C dJ6_bitCount_0f7a4_34 0 rfl ?_
  refine x_iload_n C dJ6_bitCount_0f7a4_35 0 rfl ?_
  refine x_bipush C dJ6_bitCount_0f7a4_36 8 (by decide) ?_
  refine x_riushr C dJ6_bitCount_0f7a4_38 ?_
  refine x_riadd C dJ6_bitCount_0f7a4_39 ?_
  refine x_istore_n C dJ6_bitCount_0f7a4_40 (by decide) rfl ?_
  refine x_iload_n C dJ6_bitCount_0f7a4_41 0 rfl ?_
  refine x_iload_n C dJ6_bitCount_0f7a4_42 0 rfl ?_
  refine x_bipush C dJ6_bitCount_0f7a4_43 16 (by decide) ?_
  refine x_riushr C dJ6_bitCount_0f7a4_45 ?_
  refine x_riadd C dJ6_bitCount_0f7a4_46 ?_
  refine x_istore_n C dJ6_bitCount_0f7a4_47 (by decide) rfl ?_
  refine x_iload_n C dJ6_bitCount_0f7a4_48 0 rfl ?_
  refine x_bipush C dJ6_bitCount_0f7a4_49 63 (by decide) ?_
  refine x_riand C dJ6_bitCount_0f7a4_51 ?_
  refine x_iret C G dJ6_bitCount_0f7a4_52 ?_ (by decide) (by decide)
  refine ⟨?_, rfl⟩
  have h8 : n = 0 ∨ n = 1 ∨ n = 2 ∨ n = 3 ∨ n = 4 ∨ n = 5 ∨ n = 6 ∨ n = 7 := by omega
  clear C G
  rcases h8 with rfl | rfl | rfl | rfl | rfl | rfl | rfl | rfl <;> decide +kernel
theorem kX1_keyCount_0 : Cond.fieldLink "LedgeLevels$Grid" 18 "LedgeLevels$Grid" "allKeys" "I" ∈ wsX1_keyCount := by decide +kernel
theorem kX1_keyCount_1 : ∀ w ∈ wsX10, w ∈ wsX1_keyCount := by decide +kernel
set_option maxRecDepth 100000 in
set_option maxHeartbeats 1000000 in
theorem c_X1_keyCount {l : Launch} {D : va_G} {A : Nat → Prop} {h : vh} {g : Nat} {x1 x2 : Value} {al : Nat} (hg : h g = some (eO 1 [x1, x2, vI ((al : Nat) : Int)])) (hal : al < 8) : MX l D A yX1_keyCount wsX1_keyCount { frames := 1, cells := 0, slots := 0, locals := 20 } [.ref g] h (fun rv h' => rv = some (vI ((pc3 al : Nat) : Int)) ∧ h' = h) := by
  refine MX.of (cc := cX1_keyCount) (maxL := 1) (ret := (some .int)) [(0, .ref g)] (by decide +kernel) rfl rfl (Nat.le_of_ble_eq_true rfl) ?_
  intro κ C hkl G
  subst hkl
  have C : CX κ "LedgeLevels$Grid" "keyCount" cX1_keyCount wsX1_keyCount { frames := 1, cells := 0, slots := 0, locals := 20 } D A 1 := C
  have hiz : nq (D.1 20) (D.1 21) := cx_iz C
  refine x_aload_n C dX1_keyCount_0 0 rfl ?_
  refine x_get C (v := vI ((al : Nat) : Int)) hg (T := TX1) rfl kX1_keyCount_1 2 (by decide) kX1_keyCount_0 rfl dX1_keyCount_1 ?_
  refine x_callSJ C (n := 1) (As := [vI ((al : Nat) : Int)]) (rest := []) (c_J6_bitCount (by omega)) gX1_keyCount_J6_bitCount_0f7a4 (by decide +kernel) rfl rfl rfl (Nat.le_of_ble_eq_true rfl) ⟨by decide, by decide⟩ ⟨by decide, by decide⟩ dX1_keyCount_4 (fun rv1 h2 hp3 => ?_)
  obtain ⟨rfl, e4⟩ := hp3
  obtain rfl := e4.symm
  refine x_iret C G dX1_keyCount_7 ?_ (by decide) (by decide)
  exact ⟨rfl, rfl⟩

/-- how many of the first n cells are marked -/
def cntR (R : Nat → Int) : Nat → Nat
  | 0 => 0
  | n + 1 => if R n = 0 then cntR R n else cntR R n + 1
theorem cntR_t {R : Nat → Int} {n : Nat} (h : R n = 0) : cntR R (n + 1) = cntR R n := if_pos h
theorem cntR_f {R : Nat → Int} {n : Nat} (h : ¬ R n = 0) : cntR R (n + 1) = cntR R n + 1 := if_neg h
theorem cntR_le (R : Nat → Int) : ∀ n, cntR R n ≤ n
  | 0 => Nat.le_refl _
  | n + 1 => by have := cntR_le R n; unfold cntR; split <;> omega

theorem kX5_reachedCount_0 : Cond.fieldLink "LedgeLevels$Search" 18 "LedgeLevels$Search" "reached" "[Z" ∈ wsX5_reachedCount := by decide +kernel
theorem kX5_reachedCount_1 : ∀ w ∈ wsX50, w ∈ wsX5_reachedCount := by decide +kernel
set_option maxRecDepth 100000 in
set_option maxHeartbeats 1000000 in
theorem c_X5_reachedCount {l : Launch} {D : va_G} {A : Nat → Prop} {h : vh} {o sr : Nat} {x1 x2 x3 x5 x6 x7 : Value} {R : Nat → Int} (ho : h o = some (eO 5 [x1, x2, x3, .ref sr, x5, x6, x7])) (hR : h sr = some (eZ D 96 R)) (hr : ∀ j, 0 ≤ R j ∧ R j ≤ 1) : MX l D A yX5_reachedCount wsX5_reachedCount { frames := 0, cells := 0, slots := 0, locals := 0 } [.ref o] h (fun rv h' => rv = some (vI ((cntR R 96 : Nat) : Int)) ∧ h' = h) := by
  refine MX.of (cc := cX5_reachedCount) (maxL := 6) (ret := (some .int)) [(0, .ref o)] (by decide +kernel) rfl rfl (Nat.le_of_ble_eq_true rfl) ?_
  intro κ C hkl G
  subst hkl
  have C : CX κ "LedgeLevels$Search" "reachedCount" cX5_reachedCount wsX5_reachedCount { frames := 0, cells := 0, slots := 0, locals := 0 } D A 6 := C
  have hiz : nq (D.1 20) (D.1 21) := cx_iz C
  refine x_iconst C dX5_reachedCount_0 0 (by decide) ?_
  refine x_istore_n C (ls' := [(0, .ref o), (1, vI 0)]) dX5_reachedCount_1 (by decide) rfl ?_
  refine x_aload_n C dX5_reachedCount_2 0 rfl ?_
  refine x_get C (v := .ref sr) ho (T := TX5) rfl kX5_reachedCount_1 3 (by decide) kX5_reachedCount_0 rfl dX5_reachedCount_3 ?_
  refine x_astore_n C (ls' := [(0, .ref o), (1, vI 0), (2, .ref sr)]) dX5_reachedCount_6 (by decide) rfl ?_
  refine x_aload_n C dX5_reachedCount_7 2 rfl ?_
  refine x_alen C hR (t0 := 1) rfl 96 rfl dX5_reachedCount_8 ?_
  refine x_istore_n C (ls' := [(0, .ref o), (1, vI 0), (2, .ref sr), (3, vI 96)]) dX5_reachedCount_9 (by decide) rfl ?_
  refine x_iconst C dX5_reachedCount_10 0 (by decide) ?_
  refine x_istore C (ls' := [(0, .ref o), (1, vI 0), (2, .ref sr), (3, vI 96), (4, vI 0)]) dX5_reachedCount_11 (by decide) rfl ?_
  have LP : ∀ (N : Nat) (i : Nat)   (hi : i ≤ 96) (hm : 96 - i < N), X κ 0 0 h [(0, .ref o), (1, vI ((cntR R i : Nat) : Int)), (2, .ref sr), (3, vI 96), (4, vI ((i : Nat) : Int))] 13 [] := by
    intro N
    induction N with
    | zero => intro i hi hm; exfalso; omega
    | succ N ihLP =>
      intro i hi hm
      refine x_iload C dX5_reachedCount_13 4 rfl ?_
      refine x_iload_n C dX5_reachedCount_15 3 rfl ?_
      refine x_icmp_ge (tgt := 39) C dX5_reachedCount_16 (by decide) (by omega) (by omega) (fun c2 => ?_) (fun c2 => ?_)
      · skip
        refine x_iload_n C dX5_reachedCount_39 1 rfl ?_
        refine x_iret C G dX5_reachedCount_40 ?_ (by decide) (by decide)
        obtain rfl : i = 96 := by omega
        exact ⟨rfl, rfl⟩
      · skip
        refine x_aload_n C dX5_reachedCount_19 2 rfl ?_
        refine x_iload C dX5_reachedCount_20 4 rfl ?_
        refine x_zald C hR ⟨by omega, by omega⟩ (by decide) dX5_reachedCount_22 ?_
        have r3 := hr (Int.toNat (((i : Nat) : Int)))
        refine x_istore C (ls' := [(0, .ref o), (1, vI ((cntR R i : Nat) : Int)), (2, .ref sr), (3, vI 96), (4, vI ((i : Nat) : Int)), (5, vI (R (Int.toNat (((i : Nat) : Int)))))]) dX5_reachedCount_23 (by decide) rfl ?_
        refine x_iload C dX5_reachedCount_25 5 rfl ?_
        refine x_if_eq (tgt := 33) C dX5_reachedCount_27 (by decide) (by omega) (fun c4 => ?_) (fun c4 => ?_)
        · skip
          refine x_iinc C (x := ((i : Nat) : Int)) (ls' := [(0, .ref o), (1, vI ((cntR R i : Nat) : Int)), (2, .ref sr), (3, vI 96), (4, vI ((((i : Nat) : Int)) + 1)), (5, vI (R (Int.toNat (((i : Nat) : Int)))))]) dX5_reachedCount_33 4 rfl (by decide) rfl ?_
          refine x_goto (tgt := 13) C dX5_reachedCount_36 (by decide) ?_
          have hcl := cntR_le R i
          have hst : ((cntR R i : Nat) : Int) = ((cntR R (i + 1) : Nat) : Int) := by first | (rw [cntR_t (by assumption)]) | (rw [cntR_f (by assumption)]; rfl)
          rw [hst]
          refine x_sub [0, 1, 2, 3, 4] (ls' := [(0, .ref o), (1, vI ((cntR R (i + 1) : Nat) : Int)), (2, .ref sr), (3, vI 96), (4, vI ((((i : Nat) : Int)) + 1))]) rfl ?_
          exact ihLP (i + 1) (by omega) (by omega)
        · skip
          refine x_iinc C (x := ((cntR R i : Nat) : Int)) (ls' := [(0, .ref o), (1, vI ((((cntR R i : Nat) : Int)) + 1)), (2, .ref sr), (3, vI 96), (4, vI ((i : Nat) : Int)), (5, vI (R (Int.toNat (((i : Nat) : Int)))))]) dX5_reachedCount_30 1 rfl (by decide) rfl ?_
          refine x_iinc C (x := ((i : Nat) : Int)) (ls' := [(0, .ref o), (1, vI ((((cntR R i : Nat) : Int)) + 1)), (2, .ref sr), (3, vI 96), (4, vI ((((i : Nat) : Int)) + 1)), (5, vI (R (Int.toNat (((i : Nat) : Int)))))]) dX5_reachedCount_33 4 rfl (by decide) rfl ?_
          refine x_goto (tgt := 13) C dX5_reachedCount_36 (by decide) ?_
          have hcl := cntR_le R i
          have hst : (((cntR R i : Nat) : Int)) + 1 = ((cntR R (i + 1) : Nat) : Int) := by first | (rw [cntR_t (by assumption)]) | (rw [cntR_f (by assumption)]; rfl)
          rw [hst]
          refine x_sub [0, 1, 2, 3, 4] (ls' := [(0, .ref o), (1, vI ((cntR R (i + 1) : Nat) : Int)), (2, .ref sr), (3, vI 96), (4, vI ((((i : Nat) : Int)) + 1))]) rfl ?_
          exact ihLP (i + 1) (by omega) (by omega)
  exact LP (97) 0 (by omega) (by omega)

/-- the farthest marked cell: the last column, of it the first row -/
def frR (R : Nat → Int) (r : Int) : Prop := (r = -1 ∧ ∀ c : Nat, c < 96 → R c = 0) ∨ ∃ c : Nat, c < 96 ∧ r = c ∧ R c ≠ 0 ∧ ∀ c' : Nat, c' < 96 → R c' ≠ 0 → c' % 12 < c % 12 ∨ (c' % 12 = c % 12 ∧ c ≤ c')
theorem frR.uniq {R R' : Nat → Int} (hR : ∀ c : Nat, c < 96 → (R c = 0 ↔ R' c = 0)) {r s : Int} (h : frR R r) (g : frR R' s) : r = s := by
  rcases h with ⟨h1, h2⟩ | ⟨c, h1, h2, h3, h4⟩ <;> rcases g with ⟨g1, g2⟩ | ⟨b, g1, g2, g3, g4⟩
  · rw [h1, g1]
  · exact absurd ((hR b g1).mp (h2 b g1)) g3
  · exact absurd ((hR c h1).mpr (g2 c h1)) h3
  · have k1 := h4 b g1 (fun z => g3 ((hR b g1).mp z))
    have k2 := g4 c h1 (fun z => h3 ((hR c h1).mpr z))
    omega

theorem kX5_farthestReached_0 : Cond.initialized "LedgeLevels" ∈ wsX5_farthestReached := by decide +kernel
theorem kX5_farthestReached_1 : Cond.static yX7_isCell ∈ wsX5_farthestReached := by decide +kernel
theorem kX5_farthestReached_2 : Cond.methodLinkNest "LedgeLevels$Search" 76 yX7_isCell "LedgeLevels" ∈ nwAll := by decide +kernel
theorem kX5_farthestReached_3 : Cond.fieldLink "LedgeLevels$Search" 18 "LedgeLevels$Search" "reached" "[Z" ∈ wsX5_farthestReached := by decide +kernel
theorem kX5_farthestReached_4 : ∀ w ∈ wsX50, w ∈ wsX5_farthestReached := by decide +kernel
set_option maxRecDepth 100000 in
set_option maxHeartbeats 1000000 in
theorem c_X5_farthestReached {l : Launch} {D : va_G} {A : Nat → Prop} {h : vh} {o sr : Nat} {x1 x2 x3 x5 x6 x7 : Value} {R : Nat → Int} (ho : h o = some (eO 5 [x1, x2, x3, .ref sr, x5, x6, x7])) (hR : h sr = some (eZ D 96 R)) (hr : ∀ j, 0 ≤ R j ∧ R j ≤ 1) : MX l D A yX5_farthestReached wsX5_farthestReached { frames := 1, cells := 0, slots := 0, locals := 20 } [.ref o] h (fun rv h' => ∃ (r9 : Int), rv = some (vI r9) ∧ h' = h ∧ (frR R r9)) := by
  refine MX.of (cc := cX5_farthestReached) (maxL := 4) (ret := (some .int)) [(0, .ref o)] (by decide +kernel) rfl rfl (Nat.le_of_ble_eq_true rfl) ?_
  intro κ C hkl G
  subst hkl
  have C : CX κ "LedgeLevels$Search" "farthestReached" cX5_farthestReached wsX5_farthestReached { frames := 1, cells := 0, slots := 0, locals := 20 } D A 4 := C
  have hiz : nq (D.1 20) (D.1 21) := cx_iz C
  refine x_bipush C dX5_farthestReached_0 11 (by decide) ?_
  refine x_istore_n C (ls' := [(0, .ref o), (1, vI 11)]) dX5_farthestReached_2 (by decide) rfl ?_
  have LP : ∀ (N : Nat) (i : Int)   (hi : -1 ≤ i ∧ i ≤ 11) (hm : i + 1 < N) (hz : ∀ c : Nat, c < 96 → ((c % 12 : Nat) : Int) > i → R c = 0), X κ 0 0 h [(0, .ref o), (1, vI i)] 3 [] := by
    intro N
    induction N with
    | zero => intro i hi hm hz; exfalso; omega
    | succ N ihLP =>
      intro i hi hm hz
      refine x_iload_n C dX5_farthestReached_3 1 rfl ?_
      refine x_if_lt (tgt := 52) C dX5_farthestReached_4 (by decide) (by omega) (fun c2 => ?_) (fun c2 => ?_)
      · skip
        refine x_iconst C dX5_farthestReached_52 (-1) (by decide) ?_
        refine x_iret C G dX5_farthestReached_53 ?_ (by decide) (by decide)
        exact ⟨-1, rfl, rfl, Or.inl ⟨rfl, fun c h1 => hz c h1 (by omega)⟩⟩
      · skip
        refine x_iconst C dX5_farthestReached_7 0 (by decide) ?_
        refine x_istore_n C (ls' := [(0, .ref o), (1, vI i), (2, vI 0)]) dX5_farthestReached_8 (by decide) rfl ?_
        have LR : ∀ (M : Nat) (j : Nat)   (hj : j ≤ 8) (hm2 : 8 - j < M) (hz2 : ∀ c : Nat, c < 96 → ((c % 12 : Nat) : Int) = i → c / 12 < j → R c = 0), X κ 0 0 h [(0, .ref o), (1, vI i), (2, vI ((j : Nat) : Int))] 9 [] := by
          intro M
          induction M with
          | zero => intro j hj hm2 hz2; exfalso; omega
          | succ M ihLR =>
            intro j hj hm2 hz2
            refine x_iload_n C dX5_farthestReached_9 2 rfl ?_
            refine x_bipush C dX5_farthestReached_10 8 (by decide) ?_
            refine x_icmp_ge (tgt := 46) C dX5_farthestReached_12 (by decide) (by omega) (by omega) (fun c4 => ?_) (fun c4 => ?_)
            · skip
              refine x_iinc C (x := i) (ls' := [(0, .ref o), (1, vI (i + (-1))), (2, vI ((j : Nat) : Int))]) dX5_farthestReached_46 1 rfl (by decide) rfl ?_
              refine x_goto (tgt := 3) C dX5_farthestReached_49 (by decide) ?_
              refine x_sub [0, 1] (ls' := [(0, .ref o), (1, vI (i + (-1)))]) rfl ?_
              exact ihLP (i + (-1)) (by omega) (by omega) (fun c h1 h2 => by
    by_cases q : ((c % 12 : Nat) : Int) > i
    · exact hz c h1 q
    · exact hz2 c h1 (by omega) (by omega))
            · skip
              refine x_bipush C dX5_farthestReached_15 12 (by decide) ?_
              refine x_iload_n C dX5_farthestReached_17 2 rfl ?_
              refine x_imul C dX5_farthestReached_18 ?_
              refine x_iload_n C dX5_farthestReached_19 1 rfl ?_
              refine x_iadd C dX5_farthestReached_20 ?_
              refine x_istore_n C (ls' := [(0, .ref o), (1, vI i), (2, vI ((j : Nat) : Int)), (3, vI ((12 * (((j : Nat) : Int))) + i))]) dX5_farthestReached_21 (by decide) rfl ?_
              refine x_iload_n C dX5_farthestReached_22 3 rfl ?_
              refine x_callSN C (n := 1) (As := [vI ((12 * (((j : Nat) : Int))) + i)]) (rest := []) (c_X7_isCell (by omega)) gX5_farthestReached_X7_isCell_n76 kX5_farthestReached_2 kX5_farthestReached_0 kX5_farthestReached_1 (by decide +kernel) rfl rfl rfl (Nat.le_of_ble_eq_true rfl) ⟨by decide, by decide⟩ ⟨by decide, by decide⟩ dX5_farthestReached_23 (fun rv5 h6 hp7 => ?_)
              obtain ⟨rfl, e8⟩ := hp7
              obtain rfl := e8.symm
              have hbI : bI (0 ≤ 12 * ((j : Nat) : Int) + i ∧ 12 * ((j : Nat) : Int) + i < 96) = 1 := bI_t ⟨by omega, by omega⟩
              refine x_if_eq (tgt := 40) C dX5_farthestReached_26 (by decide) (by omega) (fun c9 => ?_) (fun c9 => ?_)
              · exfalso; omega
              · skip
                refine x_aload_n C dX5_farthestReached_29 0 rfl ?_
                refine x_get C (v := .ref sr) ho (T := TX5) rfl kX5_farthestReached_4 3 (by decide) kX5_farthestReached_3 rfl dX5_farthestReached_30 ?_
                refine x_iload_n C dX5_farthestReached_33 3 rfl ?_
                refine x_zald C hR ⟨by omega, by omega⟩ (by decide) dX5_farthestReached_34 ?_
                have r10 := hr (Int.toNat ((12 * (((j : Nat) : Int))) + i))
                refine x_if_eq (tgt := 40) C dX5_farthestReached_35 (by decide) (by omega) (fun c11 => ?_) (fun c11 => ?_)
                · skip
                  refine x_iinc C (x := ((j : Nat) : Int)) (ls' := [(0, .ref o), (1, vI i), (2, vI ((((j : Nat) : Int)) + 1)), (3, vI ((12 * (((j : Nat) : Int))) + i))]) dX5_farthestReached_40 2 rfl (by decide) rfl ?_
                  refine x_goto (tgt := 9) C dX5_farthestReached_43 (by decide) ?_
                  refine x_sub [0, 1, 2] (ls' := [(0, .ref o), (1, vI i), (2, vI ((((j : Nat) : Int)) + 1))]) rfl ?_
                  exact ihLR (j + 1) (by omega) (by omega) (fun c h1 h2 h3 => by
    by_cases q : c / 12 < j
    · exact hz2 c h1 h2 q
    · have e9 : c = (12 * ((j : Nat) : Int) + i).toNat := by omega
      rw [e9]; assumption)
                · skip
                  refine x_iload_n C dX5_farthestReached_38 3 rfl ?_
                  refine x_iret C G dX5_farthestReached_39 ?_ (by decide) (by decide)
                  refine ⟨_, rfl, rfl, Or.inr ⟨(12 * ((j : Nat) : Int) + i).toNat, by omega, by omega, by assumption, fun c' h1 h2 => ?_⟩⟩
                  have k1 := hz c' h1
                  have k2 := hz2 c' h1
                  by_cases q1 : ((c' % 12 : Nat) : Int) > i
                  · exact absurd (k1 q1) h2
                  · by_cases q2 : ((c' % 12 : Nat) : Int) = i
                    · by_cases q3 : c' / 12 < j
                      · exact absurd (k2 q2 q3) h2
                      · exact Or.inr (by omega)
                    · exact Or.inl (by omega)
        exact LR (9) 0 (by omega) (by omega) (fun c h1 h2 h3 => by omega)
  exact LP (13) 11 (by omega) (by omega) (fun c h1 h2 => by omega)


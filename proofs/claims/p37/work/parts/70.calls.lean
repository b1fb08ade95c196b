/-! ===== the script is read by a method of its own ===== -/
def XSq (A : Nat → Prop) (b nS : Nat) (sc : Nat → Int) (U : State) : Prop := ∃ xs : Nat → Int32, va_X b nS xs U U.heap ∧ b < U.heap.size ∧ ¬ A b ∧ ∀ j, xs j = iI (sc j)
def SX (l : Launch) (D : va_G) (A : Nat → Prop) (b nS : Nat) (sc : Nat → Int) (y : MethodName) (ws : List Cond) (rm : Room) (av : List Value) (h : vh) (post : Option Value → vh → Prop) : Prop :=
  Met l y ws rm (fun a U => MPx l D A av h a U ∧ XSq A b nS sc U) (MQx D A post) rm.cells rm.slots A
theorem spx_blind {l : Launch} {D : va_G} {A : Nat → Prop} {b nS : Nat} {sc : Nat → Int} {av : List Value} {h : vh} : FrameBlind (fun a U => MPx l D A av h a U ∧ XSq A b nS sc U) := by
  intro a U g mk hq
  obtain ⟨xs, h1, h2, h3, h4⟩ := hq.2
  exact ⟨mpx_blind a U g mk hq.1, xs, va_X.moved (u := U) (U := U.calling g mk a) (Vm.Alike.refl U.vm) h1, h2, h3, h4⟩
theorem SX.of {l : Launch} {D : va_G} {A : Nat → Prop} {b nS : Nat} {sc : Nat → Int} {y : MethodName} {ws ws' : List Cond} {rm : Room} {av : List Value} {h : vh} {post : Option Value → vh → Prop} {cc : ByteArray} {maxL : Nat} {ret : Option FieldType} (ls : List (Nat × Value)) (hy : plainName y.cls = true) (hw : ws = Cond.code y cc maxL ret :: ws') (hls : lv_args 0 av = ls) (hln : (lg_sl av).length ≤ maxL)
    (body : ∀ κ : KX, CX κ y.cls y.name cc ws rm D A maxL → kl κ = l → CR κ ret post rm.cells rm.slots → XS κ b nS sc → X κ 0 0 h ls 0 []) : SX l D A b nS sc y ws rm av h post := by
  refine Met.ofW hy hw ?_
  intro p e s m args below meth c s₁ B hml hv
  obtain ⟨⟨rfl, hP, hE⟩, hX⟩ := hv
  have K := body (p, l, e, rm, s, m, av.toArray, below, meth, c, MQ below (MQx D A post) av.toArray s rm.cells rm.slots A, D, A, maxL) ⟨B.exec, B.bytes, hml, findClass_of_methodNamed B.named, atoms_spec (ws := ws) B.pre, B.notSynchronized, (name_of_methodNamed B.named B.method).1, hE, rfl, rfl, rfl, rfl⟩ rfl ⟨B.returns, fun t h => h⟩ hX
  rw [lg_entry_eq]
  exact K s.heap [] _ va_S.rf hP (hls ▸ lv_entry av hln)
section XSX
variable {κ : KX} {own nm : String} {cc : ByteArray} {Ts : List Cond} {R' : Room} {D : va_G} {A : Nat → Prop} {nL n1 n2 : Nat} {h : vh} {ls : List (Nat × Value)} {pc : Nat} {st : List Value}
variable {y : MethodName} {ws ws' : List Cond} {rm : Room} {bytes : ByteArray} {maxL n : Nat} {ret : Option FieldType} {As rest : List Value} {post : Option Value → vh → Prop} {index : Nat}
theorem x_callSs (C : CX κ own nm cc Ts R' D A nL) {b nS : Nat} {sc : Nat → Int} (xs0 : XS κ b nS sc) (hM : SX (kl κ) D A b nS sc y ws rm As h post) (hG : GoodIn Ts (va_wsS own index y ws)) (hd : y.cls ≠ "java/lang/invoke/MethodHandle" ∧ y.cls ≠ "java/lang/invoke/VarHandle" ∧ (parseMethodDescriptor y.desc).map (fun d => d.parameters.length) = some n) (hw : ws = Cond.code y bytes maxL ret :: ws') (hAs : As.length = n) (hst : st = As.reverse ++ rest) (hcat : (rest.map fun v => v.category).sum ≤ 8) (hR : rm.frames + 1 ≤ R'.frames ∧ 8 + (maxL + 11) + rm.locals ≤ R'.locals) (hf : n1 + rm.cells ≤ R'.cells ∧ n2 + rm.slots ≤ R'.slots) (d : decode cc pc = .ok (.invokestatic index, 3))
    (kk : ∀ (rv : Option Value) (h' : vh), post rv h' → X κ (n1 + rm.cells) (n2 + rm.slots) h' ls (pc + 3) (stk rv rest)) : X κ n1 n2 h ls pc st := by
  obtain ⟨p, l, e, R, s, m, args, below, meth, c, Q, D0, A0, nL0⟩ := κ
  obtain ⟨hx, hb, hml, ho, hts, hlk, hnm, hE, rfl, rfl, rfl, rfl⟩ := C
  obtain ⟨xs, s1, s2, s3, s4⟩ := xs0
  intro H locs la hS hP hl
  exact xr_go (va_runS (As := As) (rest := rest) ⟨hx, hb, hml, ho, hts⟩ hM (va_cwS n hts hG hw rfl rfl hd hR) ⟨spx_blind, fun U hU hW => ⟨⟨rfl, by rw [hU]; exact hP, hE.next hS hU hW⟩, xs, by rw [hU]; exact (s1.kept (hS.2.1 b s2 s3)).moved hW.alike, by rw [hU]; exact Nat.lt_of_lt_of_le s2 hS.1, s3, s4⟩⟩ rfl hAs hl.1 hst (lv_room hcat) d hf) hS hl kk
end XSX
theorem kL_cell_1 : Cond.constant "LedgeLevelsLaw" 7 (53717) ∈ wsL_cell := by decide +kernel
theorem kL_cell_2 : Cond.constant "LedgeLevelsLaw" 8 (1938867) ∈ wsL_cell := by decide +kernel
set_option maxRecDepth 100000 in
theorem c_L_cell {l : Launch} {D : va_G} {A : Nat → Prop} {h : vh} {b nS k : Nat} {sc : Nat → Int} (hk : k < 60) (hn : nS ≤ 260) : SX l D A b nS sc yL_cell wsL_cell { frames := 0, cells := 0, slots := 0, locals := 0 } [.ref b, vI ((k : Nat) : Int)] h (fun rv h' => (∃ z : Int32, rv = some (.int z)) ∧ h' = h) := by
  refine SX.of (cc := cL_cell) (maxL := 2) (ret := (some .int)) [(0, .ref b), (1, vI ((k : Nat) : Int))] (by decide +kernel) rfl rfl (Nat.le_of_ble_eq_true rfl) ?_
  intro κ C hkl G xs0
  subst hkl
  have C : CX κ "LedgeLevelsLaw" "cell" cL_cell wsL_cell { frames := 0, cells := 0, slots := 0, locals := 0 } D A 2 := C
  refine x_iload_n C dL_cell_0 1 rfl ?_
  refine x_aload_n C dL_cell_1 0 rfl ?_
  refine x_slen C xs0 ((nS : Nat) : Int) (iI_nat nS).symm dL_cell_2 ?_
  refine x_icmp_ge (tgt := 12) C dL_cell_3 (by decide) (by omega) (by omega) (fun c1 => ?_) (fun c1 => ?_)
  · refine x_ldcI C (z := 53717) (by decide) kL_cell_1 dL_cell_12 ?_
    refine x_iload_n C dL_cell_14 1 rfl ?_
    refine x_bipush C dL_cell_15 15 (by decide) ?_
    refine x_iadd C dL_cell_17 ?_
    refine x_imul C dL_cell_18 ?_
    refine x_ldcI C (z := 1938867) (by decide) kL_cell_2 dL_cell_19 ?_
    refine x_iadd C dL_cell_21 ?_
    exact x_iret C G dL_cell_22 ⟨⟨_, rfl⟩, rfl⟩ (by decide) (by decide)
  · refine x_aload_n C dL_cell_6 0 rfl ?_
    refine x_iload_n C dL_cell_7 1 rfl ?_
    refine x_sld C xs0 ⟨by omega, by omega⟩ (by omega) dL_cell_8 ?_
    refine x_goto (tgt := 22) C dL_cell_9 (by decide) ?_
    exact x_iret C G dL_cell_22 ⟨⟨_, rfl⟩, rfl⟩ (by decide) (by decide)

theorem kL_calls_39 : Cond.classLink "LedgeLevelsLaw" 39 "java/lang/IllegalStateException" ∈ wsL_calls := by decide +kernel

theorem tkL_calls_set : Tk "LedgeLevelsLaw" wsL_calls [(0, 105, 106, 39)] 9 "java/lang/IllegalStateException" 106 := ⟨[], (⟨0, 105, 106, 39⟩ : ExceptionTableEntry), [], "java/lang/IllegalStateException", rfl, (fun z hz => by cases hz), by decide, by decide, kL_calls_39, by decide +kernel, rfl⟩
set_option maxRecDepth 100000 in
theorem c_L_calls_set {l : Launch} {D : va_G} {A : Nat → Prop} {h : vh} {b : Nat} {a0 a1 a2 : Int} {fs : List Value} {POST : Option Value → vh → Prop} {XPOST : String → vh → Prop} (hM : TX l D A yX7_set wsX7_set { frames := 7, cells := 3, slots := 18, locals := 112 } [.ref b, vI a0, vI a1, vI a2] h POST XPOST) (hb : h b = some (eO 7 fs)) (hP : ∀ rv h1, POST rv h1 → ∃ v, rv = some (vI v)) (hX : ∀ E h1, XPOST E h1 → E = "java/lang/IllegalStateException") : HX l D A yL_calls wsL_calls { frames := 8, cells := 3, slots := 18, locals := 137 } [.ref b, vI 0, vI a0, vI a1, vI a2] h (fun rv h' => POST rv h' ∨ ∃ E, XPOST E h' ∧ rv = some (vI (-5))) := by
  refine HX.of (cc := cL_calls) (maxL := 6) (ret := (some .int)) (hh := [(0, 105, 106, 39)]) [(0, .ref b), (1, vI 0), (2, vI a0), (3, vI a1), (4, vI a2)] (by decide +kernel) rfl rfl (Nat.le_of_ble_eq_true rfl) ?_
  intro κ C hkl G ch kn
  subst hkl
  have C : CX κ "LedgeLevelsLaw" "calls" cL_calls wsL_calls { frames := 8, cells := 3, slots := 18, locals := 137 } D A 6 := C
  refine x_iload_n C dL_calls_0 1 rfl ?_
  refine x_if_ne (tgt := 15) C dL_calls_1 (by decide) (by omega) (fun z9 => absurd rfl z9) (fun _ => ?_)
  refine x_aload_n C dL_calls_4 0 rfl ?_
  refine x_iload_n C dL_calls_5 2 rfl ?_
  refine x_iload_n C dL_calls_6 3 rfl ?_
  refine x_iload C dL_calls_7 4 rfl ?_
  refine x_callVh C (n := 3) (qc := (RX7, TX7, 7)) (As := [vI a0, vI a1, vI a2]) (rest := []) hM gL_calls_X7_set (by decide +kernel) hb rfl rfl rfl rfl (Nat.le_of_ble_eq_true rfl) ⟨by decide, by decide⟩ ⟨(by decide), (by decide)⟩ dL_calls_9 ch kn (fun E h1 q hx => ?_) (fun rv h1 hp => ?_)
  · obtain rfl := hX E h1 hx
    refine ⟨106, tkL_calls_set, ?_⟩
    refine x_astore C (ls' := [(0, .ref b), (1, vI 0), (2, vI a0), (3, vI a1), (4, vI a2)] ++ [(5, .ref q)]) dL_calls_106 (by decide) rfl ?_
    refine x_bipush C dL_calls_108 (-5) (by decide) ?_
    exact x_iret C G dL_calls_110 (Or.inr ⟨_, hx, rfl⟩) (by decide) (by decide)
  · obtain ⟨v, rfl⟩ := hP rv h1 hp
    refine x_goto (tgt := 105) C dL_calls_12 (by decide) ?_
    exact x_iret C G dL_calls_105 (Or.inl hp) (by decide) (by decide)

theorem tkL_calls_undo : Tk "LedgeLevelsLaw" wsL_calls [(0, 105, 106, 39)] 22 "java/lang/IllegalStateException" 106 := ⟨[], (⟨0, 105, 106, 39⟩ : ExceptionTableEntry), [], "java/lang/IllegalStateException", rfl, (fun z hz => by cases hz), by decide, by decide, kL_calls_39, by decide +kernel, rfl⟩
set_option maxRecDepth 100000 in
theorem c_L_calls_undo {l : Launch} {D : va_G} {A : Nat → Prop} {h : vh} {b : Nat} {a0 a1 a2 : Int} {fs : List Value} {POST : Option Value → vh → Prop} {XPOST : String → vh → Prop} (hM : TX l D A yX7_undo wsX7_undo { frames := 7, cells := 2, slots := 12, locals := 112 } [.ref b, vI a0] h POST XPOST) (hb : h b = some (eO 7 fs)) (hP : ∀ rv h1, POST rv h1 → ∃ v, rv = some (vI v)) (hX : ∀ E h1, XPOST E h1 → E = "java/lang/IllegalStateException") : HX l D A yL_calls wsL_calls { frames := 8, cells := 2, slots := 12, locals := 136 } [.ref b, vI 1, vI a0, vI a1, vI a2] h (fun rv h' => POST rv h' ∨ ∃ E, XPOST E h' ∧ rv = some (vI (-5))) := by
  refine HX.of (cc := cL_calls) (maxL := 6) (ret := (some .int)) (hh := [(0, 105, 106, 39)]) [(0, .ref b), (1, vI 1), (2, vI a0), (3, vI a1), (4, vI a2)] (by decide +kernel) rfl rfl (Nat.le_of_ble_eq_true rfl) ?_
  intro κ C hkl G ch kn
  subst hkl
  have C : CX κ "LedgeLevelsLaw" "calls" cL_calls wsL_calls { frames := 8, cells := 2, slots := 12, locals := 136 } D A 6 := C
  refine x_iload_n C dL_calls_0 1 rfl ?_
  refine x_if_ne (tgt := 15) C dL_calls_1 (by decide) (by omega) (fun _ => ?_) (fun z9 => absurd z9 (by decide))
  refine x_iload_n C dL_calls_15 1 rfl ?_
  refine x_iconst C dL_calls_16 1 (by decide) ?_
  refine x_icmp_ne (tgt := 28) C dL_calls_17 (by decide) (by omega) (by omega) (fun z9 => absurd rfl z9) (fun _ => ?_)
  refine x_aload_n C dL_calls_20 0 rfl ?_
  refine x_iload_n C dL_calls_21 2 rfl ?_
  refine x_callVh C (n := 1) (qc := (RX7, TX7, 7)) (As := [vI a0]) (rest := []) hM gL_calls_X7_undo (by decide +kernel) hb rfl rfl rfl rfl (Nat.le_of_ble_eq_true rfl) ⟨by decide, by decide⟩ ⟨(by decide), (by decide)⟩ dL_calls_22 ch kn (fun E h1 q hx => ?_) (fun rv h1 hp => ?_)
  · obtain rfl := hX E h1 hx
    refine ⟨106, tkL_calls_undo, ?_⟩
    refine x_astore C (ls' := [(0, .ref b), (1, vI 1), (2, vI a0), (3, vI a1), (4, vI a2)] ++ [(5, .ref q)]) dL_calls_106 (by decide) rfl ?_
    refine x_bipush C dL_calls_108 (-5) (by decide) ?_
    exact x_iret C G dL_calls_110 (Or.inr ⟨_, hx, rfl⟩) (by decide) (by decide)
  · obtain ⟨v, rfl⟩ := hP rv h1 hp
    refine x_goto (tgt := 105) C dL_calls_25 (by decide) ?_
    exact x_iret C G dL_calls_105 (Or.inl hp) (by decide) (by decide)

theorem tkL_calls_redo : Tk "LedgeLevelsLaw" wsL_calls [(0, 105, 106, 39)] 35 "java/lang/IllegalStateException" 106 := ⟨[], (⟨0, 105, 106, 39⟩ : ExceptionTableEntry), [], "java/lang/IllegalStateException", rfl, (fun z hz => by cases hz), by decide, by decide, kL_calls_39, by decide +kernel, rfl⟩
set_option maxRecDepth 100000 in
theorem c_L_calls_redo {l : Launch} {D : va_G} {A : Nat → Prop} {h : vh} {b : Nat} {a0 a1 a2 : Int} {fs : List Value} {POST : Option Value → vh → Prop} {XPOST : String → vh → Prop} (hM : TX l D A yX7_redo wsX7_redo { frames := 7, cells := 2, slots := 12, locals := 112 } [.ref b, vI a0] h POST XPOST) (hb : h b = some (eO 7 fs)) (hP : ∀ rv h1, POST rv h1 → ∃ v, rv = some (vI v)) (hX : ∀ E h1, XPOST E h1 → E = "java/lang/IllegalStateException") : HX l D A yL_calls wsL_calls { frames := 8, cells := 2, slots := 12, locals := 136 } [.ref b, vI 2, vI a0, vI a1, vI a2] h (fun rv h' => POST rv h' ∨ ∃ E, XPOST E h' ∧ rv = some (vI (-5))) := by
  refine HX.of (cc := cL_calls) (maxL := 6) (ret := (some .int)) (hh := [(0, 105, 106, 39)]) [(0, .ref b), (1, vI 2), (2, vI a0), (3, vI a1), (4, vI a2)] (by decide +kernel) rfl rfl (Nat.le_of_ble_eq_true rfl) ?_
  intro κ C hkl G ch kn
  subst hkl
  have C : CX κ "LedgeLevelsLaw" "calls" cL_calls wsL_calls { frames := 8, cells := 2, slots := 12, locals := 136 } D A 6 := C
  refine x_iload_n C dL_calls_0 1 rfl ?_
  refine x_if_ne (tgt := 15) C dL_calls_1 (by decide) (by omega) (fun _ => ?_) (fun z9 => absurd z9 (by decide))
  refine x_iload_n C dL_calls_15 1 rfl ?_
  refine x_iconst C dL_calls_16 1 (by decide) ?_
  refine x_icmp_ne (tgt := 28) C dL_calls_17 (by decide) (by omega) (by omega) (fun _ => ?_) (fun z9 => absurd z9 (by decide))
  refine x_iload_n C dL_calls_28 1 rfl ?_
  refine x_iconst C dL_calls_29 2 (by decide) ?_
  refine x_icmp_ne (tgt := 41) C dL_calls_30 (by decide) (by omega) (by omega) (fun z9 => absurd rfl z9) (fun _ => ?_)
  refine x_aload_n C dL_calls_33 0 rfl ?_
  refine x_iload_n C dL_calls_34 2 rfl ?_
  refine x_callVh C (n := 1) (qc := (RX7, TX7, 7)) (As := [vI a0]) (rest := []) hM gL_calls_X7_redo (by decide +kernel) hb rfl rfl rfl rfl (Nat.le_of_ble_eq_true rfl) ⟨by decide, by decide⟩ ⟨(by decide), (by decide)⟩ dL_calls_35 ch kn (fun E h1 q hx => ?_) (fun rv h1 hp => ?_)
  · obtain rfl := hX E h1 hx
    refine ⟨106, tkL_calls_redo, ?_⟩
    refine x_astore C (ls' := [(0, .ref b), (1, vI 2), (2, vI a0), (3, vI a1), (4, vI a2)] ++ [(5, .ref q)]) dL_calls_106 (by decide) rfl ?_
    refine x_bipush C dL_calls_108 (-5) (by decide) ?_
    exact x_iret C G dL_calls_110 (Or.inr ⟨_, hx, rfl⟩) (by decide) (by decide)
  · obtain ⟨v, rfl⟩ := hP rv h1 hp
    refine x_goto (tgt := 105) C dL_calls_38 (by decide) ?_
    exact x_iret C G dL_calls_105 (Or.inl hp) (by decide) (by decide)

theorem tkL_calls_offer : Tk "LedgeLevelsLaw" wsL_calls [(0, 105, 106, 39)] 48 "java/lang/IllegalStateException" 106 := ⟨[], (⟨0, 105, 106, 39⟩ : ExceptionTableEntry), [], "java/lang/IllegalStateException", rfl, (fun z hz => by cases hz), by decide, by decide, kL_calls_39, by decide +kernel, rfl⟩
set_option maxRecDepth 100000 in
theorem c_L_calls_offer {l : Launch} {D : va_G} {A : Nat → Prop} {h : vh} {b : Nat} {a0 a1 a2 : Int} {fs : List Value} {POST : Option Value → vh → Prop} {XPOST : String → vh → Prop} (hM : TX l D A yX7_offer wsX7_offer { frames := 7, cells := 6, slots := 122, locals := 112 } [.ref b, vI a0] h POST XPOST) (hb : h b = some (eO 7 fs)) (hP : ∀ rv h1, POST rv h1 → ∃ v, rv = some (vI v)) (hX : ∀ E h1, XPOST E h1 → E = "java/lang/IllegalStateException") : HX l D A yL_calls wsL_calls { frames := 8, cells := 6, slots := 122, locals := 134 } [.ref b, vI 3, vI a0, vI a1, vI a2] h (fun rv h' => POST rv h' ∨ ∃ E, XPOST E h' ∧ rv = some (vI (-5))) := by
  refine HX.of (cc := cL_calls) (maxL := 6) (ret := (some .int)) (hh := [(0, 105, 106, 39)]) [(0, .ref b), (1, vI 3), (2, vI a0), (3, vI a1), (4, vI a2)] (by decide +kernel) rfl rfl (Nat.le_of_ble_eq_true rfl) ?_
  intro κ C hkl G ch kn
  subst hkl
  have C : CX κ "LedgeLevelsLaw" "calls" cL_calls wsL_calls { frames := 8, cells := 6, slots := 122, locals := 134 } D A 6 := C
  refine x_iload_n C dL_calls_0 1 rfl ?_
  refine x_if_ne (tgt := 15) C dL_calls_1 (by decide) (by omega) (fun _ => ?_) (fun z9 => absurd z9 (by decide))
  refine x_iload_n C dL_calls_15 1 rfl ?_
  refine x_iconst C dL_calls_16 1 (by decide) ?_
  refine x_icmp_ne (tgt := 28) C dL_calls_17 (by decide) (by omega) (by omega) (fun _ => ?_) (fun z9 => absurd z9 (by decide))
  refine x_iload_n C dL_calls_28 1 rfl ?_
  refine x_iconst C dL_calls_29 2 (by decide) ?_
  refine x_icmp_ne (tgt := 41) C dL_calls_30 (by decide) (by omega) (by omega) (fun _ => ?_) (fun z9 => absurd z9 (by decide))
  refine x_iload_n C dL_calls_41 1 rfl ?_
  refine x_iconst C dL_calls_42 3 (by decide) ?_
  refine x_icmp_ne (tgt := 54) C dL_calls_43 (by decide) (by omega) (by omega) (fun z9 => absurd rfl z9) (fun _ => ?_)
  refine x_aload_n C dL_calls_46 0 rfl ?_
  refine x_iload_n C dL_calls_47 2 rfl ?_
  refine x_callVh C (n := 1) (qc := (RX7, TX7, 7)) (As := [vI a0]) (rest := []) hM gL_calls_X7_offer (by decide +kernel) hb rfl rfl rfl rfl (Nat.le_of_ble_eq_true rfl) ⟨by decide, by decide⟩ ⟨(by decide), (by decide)⟩ dL_calls_48 ch kn (fun E h1 q hx => ?_) (fun rv h1 hp => ?_)
  · obtain rfl := hX E h1 hx
    refine ⟨106, tkL_calls_offer, ?_⟩
    refine x_astore C (ls' := [(0, .ref b), (1, vI 3), (2, vI a0), (3, vI a1), (4, vI a2)] ++ [(5, .ref q)]) dL_calls_106 (by decide) rfl ?_
    refine x_bipush C dL_calls_108 (-5) (by decide) ?_
    exact x_iret C G dL_calls_110 (Or.inr ⟨_, hx, rfl⟩) (by decide) (by decide)
  · obtain ⟨v, rfl⟩ := hP rv h1 hp
    refine x_goto (tgt := 105) C dL_calls_51 (by decide) ?_
    exact x_iret C G dL_calls_105 (Or.inl hp) (by decide) (by decide)

theorem tkL_calls_copy : Tk "LedgeLevelsLaw" wsL_calls [(0, 105, 106, 39)] 62 "java/lang/IllegalStateException" 106 := ⟨[], (⟨0, 105, 106, 39⟩ : ExceptionTableEntry), [], "java/lang/IllegalStateException", rfl, (fun z hz => by cases hz), by decide, by decide, kL_calls_39, by decide +kernel, rfl⟩
set_option maxRecDepth 100000 in
theorem c_L_calls_copy {l : Launch} {D : va_G} {A : Nat → Prop} {h : vh} {b : Nat} {a0 a1 a2 : Int} {fs : List Value} {POST : Option Value → vh → Prop} {XPOST : String → vh → Prop} (hM : TX l D A yX7_copy wsX7_copy { frames := 7, cells := 11, slots := 251, locals := 113 } [.ref b, vI a0, vI a1] h POST XPOST) (hb : h b = some (eO 7 fs)) (hP : ∀ rv h1, POST rv h1 → ∃ v, rv = some (vI v)) (hX : ∀ E h1, XPOST E h1 → E = "java/lang/IllegalStateException") : HX l D A yL_calls wsL_calls { frames := 8, cells := 11, slots := 251, locals := 137 } [.ref b, vI 4, vI a0, vI a1, vI a2] h (fun rv h' => POST rv h' ∨ ∃ E, XPOST E h' ∧ rv = some (vI (-5))) := by
  refine HX.of (cc := cL_calls) (maxL := 6) (ret := (some .int)) (hh := [(0, 105, 106, 39)]) [(0, .ref b), (1, vI 4), (2, vI a0), (3, vI a1), (4, vI a2)] (by decide +kernel) rfl rfl (Nat.le_of_ble_eq_true rfl) ?_
  intro κ C hkl G ch kn
  subst hkl
  have C : CX κ "LedgeLevelsLaw" "calls" cL_calls wsL_calls { frames := 8, cells := 11, slots := 251, locals := 137 } D A 6 := C
  refine x_iload_n C dL_calls_0 1 rfl ?_
  refine x_if_ne (tgt := 15) C dL_calls_1 (by decide) (by omega) (fun _ => ?_) (fun z9 => absurd z9 (by decide))
  refine x_iload_n C dL_calls_15 1 rfl ?_
  refine x_iconst C dL_calls_16 1 (by decide) ?_
  refine x_icmp_ne (tgt := 28) C dL_calls_17 (by decide) (by omega) (by omega) (fun _ => ?_) (fun z9 => absurd z9 (by decide))
  refine x_iload_n C dL_calls_28 1 rfl ?_
  refine x_iconst C dL_calls_29 2 (by decide) ?_
  refine x_icmp_ne (tgt := 41) C dL_calls_30 (by decide) (by omega) (by omega) (fun _ => ?_) (fun z9 => absurd z9 (by decide))
  refine x_iload_n C dL_calls_41 1 rfl ?_
  refine x_iconst C dL_calls_42 3 (by decide) ?_
  refine x_icmp_ne (tgt := 54) C dL_calls_43 (by decide) (by omega) (by omega) (fun _ => ?_) (fun z9 => absurd z9 (by decide))
  refine x_iload_n C dL_calls_54 1 rfl ?_
  refine x_iconst C dL_calls_55 4 (by decide) ?_
  refine x_icmp_ne (tgt := 68) C dL_calls_56 (by decide) (by omega) (by omega) (fun z9 => absurd rfl z9) (fun _ => ?_)
  refine x_aload_n C dL_calls_59 0 rfl ?_
  refine x_iload_n C dL_calls_60 2 rfl ?_
  refine x_iload_n C dL_calls_61 3 rfl ?_
  refine x_callVh C (n := 2) (qc := (RX7, TX7, 7)) (As := [vI a0, vI a1]) (rest := []) hM gL_calls_X7_copy (by decide +kernel) hb rfl rfl rfl rfl (Nat.le_of_ble_eq_true rfl) ⟨by decide, by decide⟩ ⟨(by decide), (by decide)⟩ dL_calls_62 ch kn (fun E h1 q hx => ?_) (fun rv h1 hp => ?_)
  · obtain rfl := hX E h1 hx
    refine ⟨106, tkL_calls_copy, ?_⟩
    refine x_astore C (ls' := [(0, .ref b), (1, vI 4), (2, vI a0), (3, vI a1), (4, vI a2)] ++ [(5, .ref q)]) dL_calls_106 (by decide) rfl ?_
    refine x_bipush C dL_calls_108 (-5) (by decide) ?_
    exact x_iret C G dL_calls_110 (Or.inr ⟨_, hx, rfl⟩) (by decide) (by decide)
  · obtain ⟨v, rfl⟩ := hP rv h1 hp
    refine x_goto (tgt := 105) C dL_calls_65 (by decide) ?_
    exact x_iret C G dL_calls_105 (Or.inl hp) (by decide) (by decide)

theorem tkL_calls_star : Tk "LedgeLevelsLaw" wsL_calls [(0, 105, 106, 39)] 78 "java/lang/IllegalStateException" 106 := ⟨[], (⟨0, 105, 106, 39⟩ : ExceptionTableEntry), [], "java/lang/IllegalStateException", rfl, (fun z hz => by cases hz), by decide, by decide, kL_calls_39, by decide +kernel, rfl⟩
set_option maxRecDepth 100000 in
theorem c_L_calls_star {l : Launch} {D : va_G} {A : Nat → Prop} {h : vh} {b : Nat} {a0 a1 a2 : Int} {fs : List Value} {POST : Option Value → vh → Prop} {XPOST : String → vh → Prop} (hM : TX l D A yX7_star wsX7_star { frames := 7, cells := 4, slots := 24, locals := 112 } [.ref b, vI a0, vI a1, vI a2] h POST XPOST) (hb : h b = some (eO 7 fs)) (hP : ∀ rv h1, POST rv h1 → ∃ v, rv = some (vI v)) (hX : ∀ E h1, XPOST E h1 → E = "java/lang/IllegalStateException") : HX l D A yL_calls wsL_calls { frames := 8, cells := 4, slots := 24, locals := 137 } [.ref b, vI 5, vI a0, vI a1, vI a2] h (fun rv h' => POST rv h' ∨ ∃ E, XPOST E h' ∧ rv = some (vI (-5))) := by
  refine HX.of (cc := cL_calls) (maxL := 6) (ret := (some .int)) (hh := [(0, 105, 106, 39)]) [(0, .ref b), (1, vI 5), (2, vI a0), (3, vI a1), (4, vI a2)] (by decide +kernel) rfl rfl (Nat.le_of_ble_eq_true rfl) ?_
  intro κ C hkl G ch kn
  subst hkl
  have C : CX κ "LedgeLevelsLaw" "calls" cL_calls wsL_calls { frames := 8, cells := 4, slots := 24, locals := 137 } D A 6 := C
  refine x_iload_n C dL_calls_0 1 rfl ?_
  refine x_if_ne (tgt := 15) C dL_calls_1 (by decide) (by omega) (fun _ => ?_) (fun z9 => absurd z9 (by decide))
  refine x_iload_n C dL_calls_15 1 rfl ?_
  refine x_iconst C dL_calls_16 1 (by decide) ?_
  refine x_icmp_ne (tgt := 28) C dL_calls_17 (by decide) (by omega) (by omega) (fun _ => ?_) (fun z9 => absurd z9 (by decide))
  refine x_iload_n C dL_calls_28 1 rfl ?_
  refine x_iconst C dL_calls_29 2 (by decide) ?_
  refine x_icmp_ne (tgt := 41) C dL_calls_30 (by decide) (by omega) (by omega) (fun _ => ?_) (fun z9 => absurd z9 (by decide))
  refine x_iload_n C dL_calls_41 1 rfl ?_
  refine x_iconst C dL_calls_42 3 (by decide) ?_
  refine x_icmp_ne (tgt := 54) C dL_calls_43 (by decide) (by omega) (by omega) (fun _ => ?_) (fun z9 => absurd z9 (by decide))
  refine x_iload_n C dL_calls_54 1 rfl ?_
  refine x_iconst C dL_calls_55 4 (by decide) ?_
  refine x_icmp_ne (tgt := 68) C dL_calls_56 (by decide) (by omega) (by omega) (fun _ => ?_) (fun z9 => absurd z9 (by decide))
  refine x_iload_n C dL_calls_68 1 rfl ?_
  refine x_iconst C dL_calls_69 5 (by decide) ?_
  refine x_icmp_ne (tgt := 84) C dL_calls_70 (by decide) (by omega) (by omega) (fun z9 => absurd rfl z9) (fun _ => ?_)
  refine x_aload_n C dL_calls_73 0 rfl ?_
  refine x_iload_n C dL_calls_74 2 rfl ?_
  refine x_iload_n C dL_calls_75 3 rfl ?_
  refine x_iload C dL_calls_76 4 rfl ?_
  refine x_callVh C (n := 3) (qc := (RX7, TX7, 7)) (As := [vI a0, vI a1, vI a2]) (rest := []) hM gL_calls_X7_star (by decide +kernel) hb rfl rfl rfl rfl (Nat.le_of_ble_eq_true rfl) ⟨by decide, by decide⟩ ⟨(by decide), (by decide)⟩ dL_calls_78 ch kn (fun E h1 q hx => ?_) (fun rv h1 hp => ?_)
  · obtain rfl := hX E h1 hx
    refine ⟨106, tkL_calls_star, ?_⟩
    refine x_astore C (ls' := [(0, .ref b), (1, vI 5), (2, vI a0), (3, vI a1), (4, vI a2)] ++ [(5, .ref q)]) dL_calls_106 (by decide) rfl ?_
    refine x_bipush C dL_calls_108 (-5) (by decide) ?_
    exact x_iret C G dL_calls_110 (Or.inr ⟨_, hx, rfl⟩) (by decide) (by decide)
  · obtain ⟨v, rfl⟩ := hP rv h1 hp
    refine x_goto (tgt := 105) C dL_calls_81 (by decide) ?_
    exact x_iret C G dL_calls_105 (Or.inl hp) (by decide) (by decide)

theorem tkL_calls_run : Tk "LedgeLevelsLaw" wsL_calls [(0, 105, 106, 39)] 93 "java/lang/IllegalStateException" 106 := ⟨[], (⟨0, 105, 106, 39⟩ : ExceptionTableEntry), [], "java/lang/IllegalStateException", rfl, (fun z hz => by cases hz), by decide, by decide, kL_calls_39, by decide +kernel, rfl⟩
set_option maxRecDepth 100000 in
theorem c_L_calls_run {l : Launch} {D : va_G} {A : Nat → Prop} {h : vh} {b : Nat} {a0 a1 a2 : Int} {fs : List Value} {POST : Option Value → vh → Prop} {XPOST : String → vh → Prop} (hM : TX l D A yX7_run wsX7_run { frames := 7, cells := 3, slots := 18, locals := 112 } [.ref b, vI a0, vI a1] h POST XPOST) (hb : h b = some (eO 7 fs)) (hP : ∀ rv h1, POST rv h1 → ∃ v, rv = some (vI v)) (hX : ∀ E h1, XPOST E h1 → E = "java/lang/IllegalStateException") : HX l D A yL_calls wsL_calls { frames := 8, cells := 3, slots := 18, locals := 136 } [.ref b, vI 6, vI a0, vI a1, vI a2] h (fun rv h' => POST rv h' ∨ ∃ E, XPOST E h' ∧ rv = some (vI (-5))) := by
  refine HX.of (cc := cL_calls) (maxL := 6) (ret := (some .int)) (hh := [(0, 105, 106, 39)]) [(0, .ref b), (1, vI 6), (2, vI a0), (3, vI a1), (4, vI a2)] (by decide +kernel) rfl rfl (Nat.le_of_ble_eq_true rfl) ?_
  intro κ C hkl G ch kn
  subst hkl
  have C : CX κ "LedgeLevelsLaw" "calls" cL_calls wsL_calls { frames := 8, cells := 3, slots := 18, locals := 136 } D A 6 := C
  refine x_iload_n C dL_calls_0 1 rfl ?_
  refine x_if_ne (tgt := 15) C dL_calls_1 (by decide) (by omega) (fun _ => ?_) (fun z9 => absurd z9 (by decide))
  refine x_iload_n C dL_calls_15 1 rfl ?_
  refine x_iconst C dL_calls_16 1 (by decide) ?_
  refine x_icmp_ne (tgt := 28) C dL_calls_17 (by decide) (by omega) (by omega) (fun _ => ?_) (fun z9 => absurd z9 (by decide))
  refine x_iload_n C dL_calls_28 1 rfl ?_
  refine x_iconst C dL_calls_29 2 (by decide) ?_
  refine x_icmp_ne (tgt := 41) C dL_calls_30 (by decide) (by omega) (by omega) (fun _ => ?_) (fun z9 => absurd z9 (by decide))
  refine x_iload_n C dL_calls_41 1 rfl ?_
  refine x_iconst C dL_calls_42 3 (by decide) ?_
  refine x_icmp_ne (tgt := 54) C dL_calls_43 (by decide) (by omega) (by omega) (fun _ => ?_) (fun z9 => absurd z9 (by decide))
  refine x_iload_n C dL_calls_54 1 rfl ?_
  refine x_iconst C dL_calls_55 4 (by decide) ?_
  refine x_icmp_ne (tgt := 68) C dL_calls_56 (by decide) (by omega) (by omega) (fun _ => ?_) (fun z9 => absurd z9 (by decide))
  refine x_iload_n C dL_calls_68 1 rfl ?_
  refine x_iconst C dL_calls_69 5 (by decide) ?_
  refine x_icmp_ne (tgt := 84) C dL_calls_70 (by decide) (by omega) (by omega) (fun _ => ?_) (fun z9 => absurd z9 (by decide))
  refine x_iload_n C dL_calls_84 1 rfl ?_
  refine x_bipush C dL_calls_85 6 (by decide) ?_
  refine x_icmp_ne (tgt := 99) C dL_calls_87 (by decide) (by omega) (by omega) (fun z9 => absurd rfl z9) (fun _ => ?_)
  refine x_aload_n C dL_calls_90 0 rfl ?_
  refine x_iload_n C dL_calls_91 2 rfl ?_
  refine x_iload_n C dL_calls_92 3 rfl ?_
  refine x_callVh C (n := 2) (qc := (RX7, TX7, 7)) (As := [vI a0, vI a1]) (rest := []) hM gL_calls_X7_run (by decide +kernel) hb rfl rfl rfl rfl (Nat.le_of_ble_eq_true rfl) ⟨by decide, by decide⟩ ⟨(by decide), (by decide)⟩ dL_calls_93 ch kn (fun E h1 q hx => ?_) (fun rv h1 hp => ?_)
  · obtain rfl := hX E h1 hx
    refine ⟨106, tkL_calls_run, ?_⟩
    refine x_astore C (ls' := [(0, .ref b), (1, vI 6), (2, vI a0), (3, vI a1), (4, vI a2)] ++ [(5, .ref q)]) dL_calls_106 (by decide) rfl ?_
    refine x_bipush C dL_calls_108 (-5) (by decide) ?_
    exact x_iret C G dL_calls_110 (Or.inr ⟨_, hx, rfl⟩) (by decide) (by decide)
  · obtain ⟨v, rfl⟩ := hP rv h1 hp
    refine x_goto (tgt := 105) C dL_calls_96 (by decide) ?_
    exact x_iret C G dL_calls_105 (Or.inl hp) (by decide) (by decide)

theorem tkL_calls_step : Tk "LedgeLevelsLaw" wsL_calls [(0, 105, 106, 39)] 102 "java/lang/IllegalStateException" 106 := ⟨[], (⟨0, 105, 106, 39⟩ : ExceptionTableEntry), [], "java/lang/IllegalStateException", rfl, (fun z hz => by cases hz), by decide, by decide, kL_calls_39, by decide +kernel, rfl⟩
set_option maxRecDepth 100000 in
theorem c_L_calls_step {l : Launch} {D : va_G} {A : Nat → Prop} {h : vh} {b : Nat} {a0 a1 a2 : Int} {fs : List Value} {POST : Option Value → vh → Prop} {XPOST : String → vh → Prop} (hM : TX l D A yX7_step wsX7_step { frames := 7, cells := 2, slots := 12, locals := 112 } [.ref b, vI a0, vI a1] h POST XPOST) (hb : h b = some (eO 7 fs)) (hP : ∀ rv h1, POST rv h1 → ∃ v, rv = some (vI v)) (hX : ∀ E h1, XPOST E h1 → E = "java/lang/IllegalStateException") : HX l D A yL_calls wsL_calls { frames := 8, cells := 2, slots := 12, locals := 135 } [.ref b, vI 7, vI a0, vI a1, vI a2] h (fun rv h' => POST rv h' ∨ ∃ E, XPOST E h' ∧ rv = some (vI (-5))) := by
  refine HX.of (cc := cL_calls) (maxL := 6) (ret := (some .int)) (hh := [(0, 105, 106, 39)]) [(0, .ref b), (1, vI 7), (2, vI a0), (3, vI a1), (4, vI a2)] (by decide +kernel) rfl rfl (Nat.le_of_ble_eq_true rfl) ?_
  intro κ C hkl G ch kn
  subst hkl
  have C : CX κ "LedgeLevelsLaw" "calls" cL_calls wsL_calls { frames := 8, cells := 2, slots := 12, locals := 135 } D A 6 := C
  refine x_iload_n C dL_calls_0 1 rfl ?_
  refine x_if_ne (tgt := 15) C dL_calls_1 (by decide) (by omega) (fun _ => ?_) (fun z9 => absurd z9 (by decide))
  refine x_iload_n C dL_calls_15 1 rfl ?_
  refine x_iconst C dL_calls_16 1 (by decide) ?_
  refine x_icmp_ne (tgt := 28) C dL_calls_17 (by decide) (by omega) (by omega) (fun _ => ?_) (fun z9 => absurd z9 (by decide))
  refine x_iload_n C dL_calls_28 1 rfl ?_
  refine x_iconst C dL_calls_29 2 (by decide) ?_
  refine x_icmp_ne (tgt := 41) C dL_calls_30 (by decide) (by omega) (by omega) (fun _ => ?_) (fun z9 => absurd z9 (by decide))
  refine x_iload_n C dL_calls_41 1 rfl ?_
  refine x_iconst C dL_calls_42 3 (by decide) ?_
  refine x_icmp_ne (tgt := 54) C dL_calls_43 (by decide) (by omega) (by omega) (fun _ => ?_) (fun z9 => absurd z9 (by decide))
  refine x_iload_n C dL_calls_54 1 rfl ?_
  refine x_iconst C dL_calls_55 4 (by decide) ?_
  refine x_icmp_ne (tgt := 68) C dL_calls_56 (by decide) (by omega) (by omega) (fun _ => ?_) (fun z9 => absurd z9 (by decide))
  refine x_iload_n C dL_calls_68 1 rfl ?_
  refine x_iconst C dL_calls_69 5 (by decide) ?_
  refine x_icmp_ne (tgt := 84) C dL_calls_70 (by decide) (by omega) (by omega) (fun _ => ?_) (fun z9 => absurd z9 (by decide))
  refine x_iload_n C dL_calls_84 1 rfl ?_
  refine x_bipush C dL_calls_85 6 (by decide) ?_
  refine x_icmp_ne (tgt := 99) C dL_calls_87 (by decide) (by omega) (by omega) (fun _ => ?_) (fun z9 => absurd z9 (by decide))
  refine x_aload_n C dL_calls_99 0 rfl ?_
  refine x_iload_n C dL_calls_100 2 rfl ?_
  refine x_iload_n C dL_calls_101 3 rfl ?_
  refine x_callVh C (n := 2) (qc := (RX7, TX7, 7)) (As := [vI a0, vI a1]) (rest := []) hM gL_calls_X7_step (by decide +kernel) hb rfl rfl rfl rfl (Nat.le_of_ble_eq_true rfl) ⟨by decide, by decide⟩ ⟨(by decide), (by decide)⟩ dL_calls_102 ch kn (fun E h1 q hx => ?_) (fun rv h1 hp => ?_)
  · obtain rfl := hX E h1 hx
    refine ⟨106, tkL_calls_step, ?_⟩
    refine x_astore C (ls' := [(0, .ref b), (1, vI 7), (2, vI a0), (3, vI a1), (4, vI a2)] ++ [(5, .ref q)]) dL_calls_106 (by decide) rfl ?_
    refine x_bipush C dL_calls_108 (-5) (by decide) ?_
    exact x_iret C G dL_calls_110 (Or.inr ⟨_, hx, rfl⟩) (by decide) (by decide)
  · obtain ⟨v, rfl⟩ := hP rv h1 hp
    exact x_iret C G dL_calls_105 (Or.inl hp) (by decide) (by decide)


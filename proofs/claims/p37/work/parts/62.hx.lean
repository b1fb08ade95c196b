/-! ===== methods with an exception table that end normally ===== -/
def NC (U : State) : Prop := va_Nc "java/lang/IndexOutOfBoundsException" "java/lang/IllegalStateException" U ∧ va_Nc "java/lang/IllegalArgumentException" "java/lang/IllegalStateException" U
theorem NC.like {s U : State} (hA : s.vm.Alike U.vm) (h : NC s) : NC U := ⟨va_Nc.moved hA h.1, va_Nc.moved hA h.2⟩
def KN (κ : KX) : Prop := match κ with
  | (_, _, _, _, s, _, _, _, _, _, _, _, _, _) => NC s
def CH (κ : KX) (hh : List (Nat × Nat × Nat × Nat)) : Prop := match κ with
  | (_, _, _, _, _, _, _, _, _, c, _, _, _, _) => c.exceptionTable.toList = tableOf hh
def HX (l : Launch) (D : va_G) (A : Nat → Prop) (y : MethodName) (ws : List Cond) (rm : Room) (av : List Value) (h : vh) (post : Option Value → vh → Prop) : Prop :=
  vx_Met l y ws rm (fun a U => MPx l D A av h a U ∧ NC U) (MQx D A post) (XCx D A (fun _ _ => False)) rm.cells rm.slots A
theorem hpx_blind {l : Launch} {D : va_G} {A : Nat → Prop} {av : List Value} {h : vh} : FrameBlind (fun a U => MPx l D A av h a U ∧ NC U) := by
  intro a U g mk hq
  exact ⟨mpx_blind a U g mk hq.1, hq.2.like (U := U.calling g mk a) (Vm.Alike.refl U.vm)⟩
theorem HX.of {l : Launch} {D : va_G} {A : Nat → Prop} {y : MethodName} {ws ws' : List Cond} {rm : Room} {av : List Value} {h : vh} {post : Option Value → vh → Prop} {cc : ByteArray} {maxL : Nat} {ret : Option FieldType} {hh : List (Nat × Nat × Nat × Nat)} (ls : List (Nat × Value)) (hy : plainName y.cls = true) (hw : ws = Cond.codeWith y cc maxL ret hh :: ws') (hls : lv_args 0 av = ls) (hln : (lg_sl av).length ≤ maxL)
    (body : ∀ κ : KX, CX κ y.cls y.name cc ws rm D A maxL → kl κ = l → CR κ ret post rm.cells rm.slots → CH κ hh → KN κ → X κ 0 0 h ls 0 []) : HX l D A y ws rm av h post := by
  refine vx_ofWH hy hw ?_
  intro p e s m args below meth c s₁ B hml hv
  obtain ⟨⟨rfl, hP, hE⟩, hN⟩ := hv
  have ht := vx_table (x := y) B (atoms_spec (ws := ws) B.pre _ (by rw [hw]; exact List.mem_cons_self))
  have K := body (p, l, e, rm, s, m, av.toArray, below, meth, c, vx_MQ below (MQx D A post) (XCx D A (fun _ _ => False)) av.toArray s rm.cells rm.slots A, D, A, maxL) ⟨B.exec, B.bytes, hml, findClass_of_methodNamed B.named, atoms_spec (ws := ws) B.pre, B.notSynchronized, (name_of_methodNamed B.named B.method).1, hE, rfl, rfl, rfl, rfl⟩ rfl ⟨B.returns, fun t h => by
    obtain ⟨o, b1, b2, b3, b4⟩ := h
    exact ⟨o, b1, b2, Or.inl ⟨b3, b4⟩⟩⟩ ht hN
  rw [lg_entry_eq]
  exact K s.heap [] _ va_S.rf hP (hls ▸ lv_entry av hln)
def Tk (own : String) (Ts : List Cond) (hh : List (Nat × Nat × Nat × Nat)) (pc : Nat) (E : String) (hpc : Nat) : Prop :=
  ∃ (pre : List ExceptionTableEntry) (x : ExceptionTableEntry) (suf : List ExceptionTableEntry) (name : String), tableOf hh = pre ++ x :: suf ∧ (∀ z ∈ pre, z.catchType ≠ 0 ∧ ∃ n2 : String, Cond.classLink own z.catchType n2 ∈ Ts ∧ ∀ U, NC U → va_Nc E n2 U) ∧ covers x pc = true ∧ x.catchType ≠ 0 ∧ Cond.classLink own x.catchType name ∈ Ts ∧ Cond.castable E name ∈ nwAll ∧ x.handlerPc = hpc
section XH
variable {κ : KX} {own nm : String} {cc : ByteArray} {Ts : List Cond} {R' : Room} {D : va_G} {A : Nat → Prop} {nL n1 n2 : Nat} {h : vh} {ls : List (Nat × Value)} {pc : Nat} {st : List Value}
variable {y : MethodName} {ws ws' : List Cond} {rm : Room} {bytes : ByteArray} {maxL n index b ci : Nat} {ret : Option FieldType} {As rest fs : List Value} {post : Option Value → vh → Prop} {qc : vw_C} {xpost : String → vh → Prop} {hh : List (Nat × Nat × Nat × Nat)}
theorem x_callVh (C : CX κ own nm cc Ts R' D A nL) (hM : TX (kl κ) D A y ws rm (.ref b :: As) h post xpost) (hG : GoodIn Ts (wsV own index qc.1 y ws)) (hd : y.cls = qc.1 ∧ y.cls ≠ "java/lang/invoke/MethodHandle" ∧ y.cls ≠ "java/lang/invoke/VarHandle" ∧ (parseMethodDescriptor y.desc).map (fun d => d.parameters.length) = some n) (hb1 : h b = some (.inr (ci, fs))) (hci : vwCl[ci]? = some qc) (hw : ws = Cond.code y bytes maxL ret :: ws') (hAs : As.length = n) (hst : st = As.reverse ++ .ref b :: rest) (hcat : (rest.map fun v => v.category).sum ≤ 8) (hR : rm.frames + 1 ≤ R'.frames ∧ 8 + (maxL + 11) + rm.locals ≤ R'.locals) (hf : n1 + rm.cells ≤ R'.cells ∧ n2 + rm.slots ≤ R'.slots) (d : decode cc pc = .ok (.invokevirtual index, 3)) (ch : CH κ hh) (kn : KN κ)
    (kx : ∀ (E : String) (h' : vh) (q : Nat), xpost E h' → ∃ hpc, Tk own Ts hh pc E hpc ∧ X κ (n1 + rm.cells) (n2 + rm.slots) h' ls hpc [.ref q]) (kk : ∀ (rv : Option Value) (h' : vh), post rv h' → X κ (n1 + rm.cells) (n2 + rm.slots) h' ls (pc + 3) (stk rv rest)) : X κ n1 n2 h ls pc st := by
  obtain ⟨p, l, e, R, s, m, args, below, meth, c, Q, D0, A0, nL0⟩ := κ
  obtain ⟨hx, hb, hml, ho, hts, hlk, hnm, hE, rfl, rfl, rfl, rfl⟩ := C
  intro H locs la hS hP hl
  exact xt_go (vx_runV (As := As) (rest := rest) ⟨hx, hb, hml, ho, hts⟩ hM (cwV n hts hG hw rfl rfl hd hR) ⟨mpx_blind, va_recv hE.2.1 (hP.one hb1) (q0 := 0) hci rfl, fun U hU hW => ⟨rfl, by rw [hU]; exact hP, hE.next hS hU hW⟩⟩ rfl hAs hl.1 hst (lv_room hcat) d hf) hS hl kk (fun E h' ce q H1 locs1 hx1 hP1 hS1 g1 g2 g3 => by
    obtain ⟨hpc, ⟨pre, x, suf, name, t1, t2, t3, t4, t5, t6, t7⟩, kX⟩ := kx E h' q hx1
    subst t7
    have kn2 : NC s := kn
    have ch2 : c.exceptionTable.toList = tableOf hh := ch
    exact vx_catch ho pre x suf (ch2.trans t1) (fun z hz => Or.inr ⟨(t2 z hz).1, (t2 z hz).2.elim fun n2 h2 => ⟨n2, hts _ h2.1, h2.2 s kn2⟩⟩) t3 t4 (hts _ t5) (nw_use (nw_all _ t6) (hE.2.2.1 _ t6)) g1 g2 g3 (kX H1 locs1 la hS1 hP1 hl))
theorem x_callSh (C : CX κ own nm cc Ts R' D A nL) (hM : HX (kl κ) D A y ws rm As h post) (kn : KN κ) (hG : GoodIn Ts (va_wsS own index y ws)) (hd : y.cls ≠ "java/lang/invoke/MethodHandle" ∧ y.cls ≠ "java/lang/invoke/VarHandle" ∧ (parseMethodDescriptor y.desc).map (fun d => d.parameters.length) = some n) (hw : ws = Cond.codeWith y bytes maxL ret hh :: ws') (hAs : As.length = n) (hst : st = As.reverse ++ rest) (hcat : (rest.map fun v => v.category).sum ≤ 8) (hR : rm.frames + 1 ≤ R'.frames ∧ 8 + (maxL + 11) + rm.locals ≤ R'.locals) (hf : n1 + rm.cells ≤ R'.cells ∧ n2 + rm.slots ≤ R'.slots) (d : decode cc pc = .ok (.invokestatic index, 3))
    (kk : ∀ (rv : Option Value) (h' : vh), post rv h' → X κ (n1 + rm.cells) (n2 + rm.slots) h' ls (pc + 3) (stk rv rest)) : X κ n1 n2 h ls pc st := by
  obtain ⟨p, l, e, R, s, m, args, below, meth, c, Q, D0, A0, nL0⟩ := κ
  obtain ⟨hx, hb, hml, ho, hts, hlk, hnm, hE, rfl, rfl, rfl, rfl⟩ := C
  intro H locs la hS hP hl
  have kn2 : NC s := kn
  exact xt_go (vx_runSX (As := As) (rest := rest) ⟨hx, hb, hml, ho, hts⟩ hM (vx_cwSW n hts hG hw rfl rfl hd hR) ⟨hpx_blind, fun U hU hW => ⟨⟨rfl, by rw [hU]; exact hP, hE.next hS hU hW⟩, kn2.like hW.alike⟩⟩ rfl hAs hl.1 hst (lv_room hcat) d hf) hS hl kk (fun E h' ce q H1 locs1 hx1 hP1 hS1 g1 g2 g3 => hx1.elim)
end XH

theorem HX.ofc {l : Launch} {D : va_G} {A : Nat → Prop} {y : MethodName} {ws ws' : List Cond} {rm : Room} {av : List Value} {h : vh} {post : Option Value → vh → Prop} {cc : ByteArray} {maxL : Nat} {ret : Option FieldType} (ls : List (Nat × Value)) (hy : plainName y.cls = true) (hw : ws = Cond.code y cc maxL ret :: ws') (hls : lv_args 0 av = ls) (hln : (lg_sl av).length ≤ maxL)
    (body : ∀ κ : KX, CX κ y.cls y.name cc ws rm D A maxL → kl κ = l → CR κ ret post rm.cells rm.slots → KN κ → X κ 0 0 h ls 0 []) : HX l D A y ws rm av h post := by
  refine vx_ofW hy hw ?_
  intro p e s m args below meth c s₁ B hml ht hv
  obtain ⟨⟨rfl, hP, hE⟩, hN⟩ := hv
  have K := body (p, l, e, rm, s, m, av.toArray, below, meth, c, vx_MQ below (MQx D A post) (XCx D A (fun _ _ => False)) av.toArray s rm.cells rm.slots A, D, A, maxL) ⟨B.exec, B.bytes, hml, findClass_of_methodNamed B.named, atoms_spec (ws := ws) B.pre, B.notSynchronized, (name_of_methodNamed B.named B.method).1, hE, rfl, rfl, rfl, rfl⟩ rfl ⟨B.returns, fun t h => by
    obtain ⟨o, b1, b2, b3, b4⟩ := h
    exact ⟨o, b1, b2, Or.inl ⟨b3, b4⟩⟩⟩ hN
  rw [lg_entry_eq]
  exact K s.heap [] _ va_S.rf hP (hls ▸ lv_entry av hln)
section XV
variable {κ : KX} {own nm : String} {cc : ByteArray} {Ts : List Cond} {R' : Room} {D : va_G} {A : Nat → Prop} {nL n1 n2 : Nat} {h : vh} {ls : List (Nat × Value)} {pc : Nat} {st : List Value}
variable {y : MethodName} {ws ws' : List Cond} {rm : Room} {bytes : ByteArray} {maxL n index b ci : Nat} {ret : Option FieldType} {As rest fs : List Value} {post : Option Value → vh → Prop} {qc : vw_C} {xpost : String → vh → Prop}
/-- a method that throws nothing as it is called here -/
theorem x_callVx (C : CX κ own nm cc Ts R' D A nL) (hM : TX (kl κ) D A y ws rm (.ref b :: As) h post xpost) (hG : GoodIn Ts (wsV own index qc.1 y ws)) (hd : y.cls = qc.1 ∧ y.cls ≠ "java/lang/invoke/MethodHandle" ∧ y.cls ≠ "java/lang/invoke/VarHandle" ∧ (parseMethodDescriptor y.desc).map (fun d => d.parameters.length) = some n) (hb1 : h b = some (.inr (ci, fs))) (hci : vwCl[ci]? = some qc) (hw : ws = Cond.code y bytes maxL ret :: ws') (hAs : As.length = n) (hst : st = As.reverse ++ .ref b :: rest) (hcat : (rest.map fun v => v.category).sum ≤ 8) (hR : rm.frames + 1 ≤ R'.frames ∧ 8 + (maxL + 11) + rm.locals ≤ R'.locals) (hf : n1 + rm.cells ≤ R'.cells ∧ n2 + rm.slots ≤ R'.slots) (d : decode cc pc = .ok (.invokevirtual index, 3))
    (kx : ∀ (E : String) (h' : vh), xpost E h' → False) (kk : ∀ (rv : Option Value) (h' : vh), post rv h' → X κ (n1 + rm.cells) (n2 + rm.slots) h' ls (pc + 3) (stk rv rest)) : X κ n1 n2 h ls pc st := by
  obtain ⟨p, l, e, R, s, m, args, below, meth, c, Q, D0, A0, nL0⟩ := κ
  obtain ⟨hx, hb, hml, ho, hts, hlk, hnm, hE, rfl, rfl, rfl, rfl⟩ := C
  intro H locs la hS hP hl
  exact xt_go (vx_runV (As := As) (rest := rest) ⟨hx, hb, hml, ho, hts⟩ hM (cwV n hts hG hw rfl rfl hd hR) ⟨mpx_blind, va_recv hE.2.1 (hP.one hb1) (q0 := 0) hci rfl, fun U hU hW => ⟨rfl, by rw [hU]; exact hP, hE.next hS hU hW⟩⟩ rfl hAs hl.1 hst (lv_room hcat) d hf) hS hl kk (fun E h' ce q H1 locs1 hx1 hP1 hS1 g1 g2 g3 => (kx E h' hx1).elim)
theorem x_callSc (C : CX κ own nm cc Ts R' D A nL) (hM : HX (kl κ) D A y ws rm As h post) (kn : KN κ) (hG : GoodIn Ts (va_wsS own index y ws)) (hd : y.cls ≠ "java/lang/invoke/MethodHandle" ∧ y.cls ≠ "java/lang/invoke/VarHandle" ∧ (parseMethodDescriptor y.desc).map (fun d => d.parameters.length) = some n) (hw : ws = Cond.code y bytes maxL ret :: ws') (hAs : As.length = n) (hst : st = As.reverse ++ rest) (hcat : (rest.map fun v => v.category).sum ≤ 8) (hR : rm.frames + 1 ≤ R'.frames ∧ 8 + (maxL + 11) + rm.locals ≤ R'.locals) (hf : n1 + rm.cells ≤ R'.cells ∧ n2 + rm.slots ≤ R'.slots) (d : decode cc pc = .ok (.invokestatic index, 3))
    (kk : ∀ (rv : Option Value) (h' : vh), post rv h' → X κ (n1 + rm.cells) (n2 + rm.slots) h' ls (pc + 3) (stk rv rest)) : X κ n1 n2 h ls pc st := by
  obtain ⟨p, l, e, R, s, m, args, below, meth, c, Q, D0, A0, nL0⟩ := κ
  obtain ⟨hx, hb, hml, ho, hts, hlk, hnm, hE, rfl, rfl, rfl, rfl⟩ := C
  intro H locs la hS hP hl
  have kn2 : NC s := kn
  exact xt_go (vx_runS (As := As) (rest := rest) ⟨hx, hb, hml, ho, hts⟩ hM (va_cwS n hts hG hw rfl rfl hd hR) ⟨hpx_blind, fun U hU hW => ⟨⟨rfl, by rw [hU]; exact hP, hE.next hS hU hW⟩, kn2.like hW.alike⟩⟩ rfl hAs hl.1 hst (lv_room hcat) d hf) hS hl kk (fun E h' ce q H1 locs1 hx1 hP1 hS1 g1 g2 g3 => hx1.elim)
end XV
theorem SB.le {c : CS} {b b' : Int} (h : SB c b) (hb : b ≤ b') : SB c b' := ⟨h.1, h.2.1, by have := h.2.2; omega⟩
theorem SB.ke {c c' : CS} {b : Int} (h : SB c b) (e : ∀ k, 5 ≤ k → k < 10 → c' k 0 = c k 0) : SB c' b := by
  unfold SB at h ⊢
  rw [e 5 (by decide) (by decide), e 7 (by decide) (by decide), e 8 (by decide) (by decide), e 9 (by decide) (by decide)]; exact h
theorem SB.se {c c1 : CS} {b : Int} (h : SB c b) (hs : SE c c1) : SB c1 (b + 1) := by
  obtain ⟨h1, h2, h3⟩ := h
  obtain ⟨_, g2, g3⟩ := hs
  exact ⟨g2, by omega, by omega⟩
theorem vI_inj {v w : Int} (h : some (vI v) = some (vI w)) : iI v = iI w := by
  have h1 := Option.some.inj h
  exact Value.int.inj h1
theorem SB.oks {c : CS} {t : Nat} (h : SB c (21 * (t : Int))) (ht : t ≤ 600) : OkS c := ⟨h.1, h.2.1, by have := h.2.2; omega⟩
/-! the script: a cell that was there before, and is never written -/
def XS (κ : KX) (b nS : Nat) (sc : Nat → Int) : Prop := match κ with
  | (_, _, _, _, s, _, _, _, _, _, _, _, A, _) => ∃ xs : Nat → Int32, va_X b nS xs s s.heap ∧ b < s.heap.size ∧ ¬ A b ∧ ∀ j, xs j = iI (sc j)
section XSC
variable {κ : KX} {own nm : String} {cc : ByteArray} {Ts : List Cond} {R' : Room} {D : va_G} {A : Nat → Prop} {nL n1 n2 : Nat} {h : vh} {ls : List (Nat × Value)} {pc : Nat} {st : List Value}
theorem x_sld (C : CX κ own nm cc Ts R' D A nL) {b nS : Nat} {sc : Nat → Int} {z : Int} (S : XS κ b nS sc) (hz : 0 ≤ z ∧ z < nS) (hn : nS ≤ 2147483647) (d : decode cc pc = .ok (.iaload, 1)) (kk : X κ n1 n2 h ls (pc + 1) (vI (sc z.toNat) :: st)) : X κ n1 n2 h ls pc (vI z :: .ref b :: st) := by
  obtain ⟨p, l, e, R, s, m, args, below, meth, c, Q, D0, A0, nL0⟩ := κ
  obtain ⟨hx, hb, hml, ho, hts, hlk, hnm, hE, rfl, rfl, rfl, rfl⟩ := C
  obtain ⟨xs, s1, s2, s3, s4⟩ := S
  exact fun H locs la hS hP hl => va_sld hx hb s1 s2 s3 hS (iI_in hz.1 hz.2 hn) d (by rw [iI_clamp hz.1 (by omega), s4]; exact kk H locs la hS hP hl)
theorem x_slen (C : CX κ own nm cc Ts R' D A nL) {b nS : Nat} {sc : Nat → Int} (S : XS κ b nS sc) (n : Int) (hv : Int32.ofNat nS = iI n) (d : decode cc pc = .ok (.arraylength, 1)) (kk : X κ n1 n2 h ls (pc + 1) (vI n :: st)) : X κ n1 n2 h ls pc (.ref b :: st) := by
  obtain ⟨p, l, e, R, s, m, args, below, meth, c, Q, D0, A0, nL0⟩ := κ
  obtain ⟨hx, hb, hml, ho, hts, hlk, hnm, hE, rfl, rfl, rfl, rfl⟩ := C
  obtain ⟨xs, s1, s2, s3, s4⟩ := S
  exact fun H locs la hS hP hl => va_slen hx hb s1 s2 s3 hS d (by rw [hv]; exact kk H locs la hS hP hl)
end XSC

section XC1
def stk : Option Value → List Value → List Value
  | none, r => r
  | some v, r => v :: r
theorem xr_go {p : Program} {l : Launch} {e : Env} {R : Room} {s : State} {m : MethodId} {args a : Array Value} {below : List Frame} {meth : Method} {c : Code} {H : Heap} {locs : List Loc} {n1 n2 mc ms nL pc : Nat} {Q : State → Prop} {D : va_G} {A : Nat → Prop} {ls : List (Nat × Value)} {la : Array Slot} {st rest : List Value} {post : Option Value → vh → Prop}
    (hr : va_Run p l e R s m args below meth c H locs n1 n2 mc ms (F0 m pc la st) rest (MQx D A post a) A) (hS : va_S A s.heap H locs) (hl : lv_has la nL ls)
    (kk : ∀ (rv : Option Value) (h' : vh), post rv h' → X (p, l, e, R, s, m, args, below, meth, c, Q, D, A, nL) (n1 + mc) (n2 + ms) h' ls (pc + 3) (stk rv rest)) : W p l e R s m args below meth c H locs n1 n2 Q (F0 m pc la st) := by
  intro T hT X0
  obtain ⟨v, st₀, t, T', L, h0, X', hL, e1, e2, ⟨⟨rv, h', hv, hp, hP'⟩, hF⟩, st9⟩ := hr T hT X0
  have hvv : v = rv := by cases hv; rfl
  subst hvv
  obtain ⟨k1, k2, k3⟩ := vx_keep h0 e1 hS (fun _ _ h => h) (fun _ h => h) hL hF
  obtain ⟨t2, a1, b1⟩ := kk v h' hp T'.heap (locs ++ L) la k3 (e1 ▸ hP') hl T' rfl X'
  exact ⟨t2, st9 t2 (by cases v <;> exact a1), b1⟩
theorem xt_go {p : Program} {l : Launch} {e : Env} {R : Room} {s : State} {m : MethodId} {args a : Array Value} {below : List Frame} {meth : Method} {c : Code} {H : Heap} {locs : List Loc} {n1 n2 mc ms nL pc : Nat} {Q : State → Prop} {D : va_G} {A : Nat → Prop} {ls : List (Nat × Value)} {la : Array Slot} {st rest : List Value} {post : Option Value → vh → Prop} {xpost : String → vh → Prop}
    (hr : vx_Run p l e R s m args below meth c H locs n1 n2 mc ms (F0 m pc la st) rest (MQx D A post a) (XCx D A xpost) A) (hS : va_S A s.heap H locs) (hl : lv_has la nL ls)
    (kk : ∀ (rv : Option Value) (h' : vh), post rv h' → X (p, l, e, R, s, m, args, below, meth, c, Q, D, A, nL) (n1 + mc) (n2 + ms) h' ls (pc + 3) (stk rv rest))
    (kx : ∀ (E : String) (h' : vh) (ce : Cell) (q : Addr) (H1 : Heap) (locs1 : List Loc), xpost E h' → gP D A h' H1 → va_S A s.heap H1 locs1 → H1[q]? = some ce → ce.vm = .none → s.vm.findClass E = some ce.cls → vx_W p l e R s m args below meth c H1 locs1 (n1 + mc) (n2 + ms) Q (F0 m pc la rest) q) : W p l e R s m args below meth c H locs n1 n2 Q (F0 m pc la st) := by
  intro T hT X0
  rcases hr T hT X0 with ⟨v, st₀, t, T', L, h0, X', hL, e1, e2, ⟨⟨rv, h', hv, hp, hP'⟩, hF⟩, st9⟩ | ⟨q, st₀, t, T', L, E, ce, h0, X', hL, e1, e2, ⟨⟨h', hp, hP'⟩, hF⟩, hce, hcv, hcl, st9⟩
  · have hvv : v = rv := by cases hv; rfl
    subst hvv
    obtain ⟨k1, k2, k3⟩ := vx_keep h0 e1 hS (fun _ _ h => h) (fun _ h => h) hL hF
    obtain ⟨t2, a1, b1⟩ := kk v h' hp T'.heap (locs ++ L) la k3 (e1 ▸ hP') hl T' rfl X'
    exact ⟨t2, st9 t2 (by cases v <;> exact a1), b1⟩
  · obtain ⟨k1, k2, k3⟩ := vx_keep h0 e1 hS (fun _ _ h => h) (fun _ h => h) hL hF
    obtain ⟨t2, a1, b1⟩ := kx E h' ce q T'.heap (locs ++ L) hp (e1 ▸ hP') k3 (by rw [e1]; exact hce) hcv hcl T' rfl X'
    exact ⟨t2, st9.trans a1, b1⟩
variable {κ : KX} {own nm : String} {cc : ByteArray} {Ts : List Cond} {R' : Room} {D : va_G} {A : Nat → Prop} {nL n1 n2 : Nat} {h : vh} {ls : List (Nat × Value)} {pc : Nat} {st : List Value}
variable {y : MethodName} {ws ws' : List Cond} {rm : Room} {bytes : ByteArray} {maxL n index b ci : Nat} {ret : Option FieldType} {Cn : String} {As rest fs : List Value} {post : Option Value → vh → Prop} {qc : vw_C} {xpost : String → vh → Prop}
theorem x_callV (C : CX κ own nm cc Ts R' D A nL) (hM : MX (kl κ) D A y ws rm (.ref b :: As) h post) (hG : GoodIn Ts (wsV own index qc.1 y ws)) (hd : y.cls = qc.1 ∧ y.cls ≠ "java/lang/invoke/MethodHandle" ∧ y.cls ≠ "java/lang/invoke/VarHandle" ∧ (parseMethodDescriptor y.desc).map (fun d => d.parameters.length) = some n) (hb1 : h b = some (.inr (ci, fs))) (hci : vwCl[ci]? = some qc) (hw : ws = Cond.code y bytes maxL ret :: ws') (hAs : As.length = n) (hst : st = As.reverse ++ .ref b :: rest) (hcat : (rest.map fun v => v.category).sum ≤ 8) (hR : rm.frames + 1 ≤ R'.frames ∧ 8 + (maxL + 11) + rm.locals ≤ R'.locals) (hf : n1 + rm.cells ≤ R'.cells ∧ n2 + rm.slots ≤ R'.slots) (d : decode cc pc = .ok (.invokevirtual index, 3))  (kk : ∀ (rv : Option Value) (h' : vh), post rv h' → X κ (n1 + rm.cells) (n2 + rm.slots) h' ls (pc + 3) (stk rv rest)) : X κ n1 n2 h ls pc st := by
  obtain ⟨p, l, e, R, s, m, args, below, meth, c, Q, D0, A0, nL0⟩ := κ
  obtain ⟨hx, hb, hml, ho, hts, hlk, hnm, hE, rfl, rfl, rfl, rfl⟩ := C
  intro H locs la hS hP hl
  exact xr_go (va_runV (As := As) (rest := rest) ⟨hx, hb, hml, ho, hts⟩ hM (cwV n hts hG hw rfl rfl hd hR) ⟨mpx_blind, va_recv hE.2.1 (hP.one hb1) (q0 := 0) hci rfl, fun U hU hW => ⟨rfl, by rw [hU]; exact hP, hE.next hS hU hW⟩⟩ rfl hAs hl.1 hst (lv_room hcat) d hf) hS hl kk
theorem x_callS (C : CX κ own nm cc Ts R' D A nL) (hM : MX (kl κ) D A y ws rm (As) h post) (hG : GoodIn Ts (wsS own index y ws)) (hd : y.cls = own ∧ y.cls ≠ "java/lang/invoke/MethodHandle" ∧ y.cls ≠ "java/lang/invoke/VarHandle" ∧ (parseMethodDescriptor y.desc).map (fun d => d.parameters.length) = some n) (hw : ws = Cond.code y bytes maxL ret :: ws') (hAs : As.length = n) (hst : st = As.reverse ++ rest) (hcat : (rest.map fun v => v.category).sum ≤ 8) (hR : rm.frames + 1 ≤ R'.frames ∧ 8 + (maxL + 11) + rm.locals ≤ R'.locals) (hf : n1 + rm.cells ≤ R'.cells ∧ n2 + rm.slots ≤ R'.slots) (d : decode cc pc = .ok (.invokestatic index, 3))  (kk : ∀ (rv : Option Value) (h' : vh), post rv h' → X κ (n1 + rm.cells) (n2 + rm.slots) h' ls (pc + 3) (stk rv rest)) : X κ n1 n2 h ls pc st := by
  obtain ⟨p, l, e, R, s, m, args, below, meth, c, Q, D0, A0, nL0⟩ := κ
  obtain ⟨hx, hb, hml, ho, hts, hlk, hnm, hE, rfl, rfl, rfl, rfl⟩ := C
  intro H locs la hS hP hl
  exact xr_go (va_runS (As := As) (rest := rest) ⟨hx, hb, hml, ho, hts⟩ hM (cwS n hts hG hw rfl rfl hd hR) ⟨mpx_blind, fun U hU hW => ⟨rfl, by rw [hU]; exact hP, hE.next hS hU hW⟩⟩ rfl hAs hl.1 hst (lv_room hcat) d hf) hS hl kk
theorem x_callVt (C : CX κ own nm cc Ts R' D A nL) (hM : TX (kl κ) D A y ws rm (.ref b :: As) h post xpost) (hG : GoodIn Ts (wsV own index qc.1 y ws)) (hd : y.cls = qc.1 ∧ y.cls ≠ "java/lang/invoke/MethodHandle" ∧ y.cls ≠ "java/lang/invoke/VarHandle" ∧ (parseMethodDescriptor y.desc).map (fun d => d.parameters.length) = some n) (hb1 : h b = some (.inr (ci, fs))) (hci : vwCl[ci]? = some qc) (hw : ws = Cond.code y bytes maxL ret :: ws') (hAs : As.length = n) (hst : st = As.reverse ++ .ref b :: rest) (hcat : (rest.map fun v => v.category).sum ≤ 8) (hR : rm.frames + 1 ≤ R'.frames ∧ 8 + (maxL + 11) + rm.locals ≤ R'.locals) (hf : n1 + rm.cells ≤ R'.cells ∧ n2 + rm.slots ≤ R'.slots) (d : decode cc pc = .ok (.invokevirtual index, 3)) {xp : String → vh → Prop} {mc ms : Nat} (G : CT κ xp mc ms) (h1 : n1 + rm.cells ≤ mc) (h2 : n2 + rm.slots ≤ ms) (kx : ∀ (E : String) (h' : vh), xpost E h' → xp E h') (kk : ∀ (rv : Option Value) (h' : vh), post rv h' → X κ (n1 + rm.cells) (n2 + rm.slots) h' ls (pc + 3) (stk rv rest)) : X κ n1 n2 h ls pc st := by
  obtain ⟨p, l, e, R, s, m, args, below, meth, c, Q, D0, A0, nL0⟩ := κ
  obtain ⟨hx, hb, hml, ho, hts, hlk, hnm, hE, rfl, rfl, rfl, rfl⟩ := C
  intro H locs la hS hP hl
  exact xt_go (vx_runV (As := As) (rest := rest) ⟨hx, hb, hml, ho, hts⟩ hM (cwV n hts hG hw rfl rfl hd hR) ⟨mpx_blind, va_recv hE.2.1 (hP.one hb1) (q0 := 0) hci rfl, fun U hU hW => ⟨rfl, by rw [hU]; exact hP, hE.next hS hU hW⟩⟩ rfl hAs hl.1 hst (lv_room hcat) d hf) hS hl kk (fun E h' ce q H1 locs1 hx1 hP1 hS1 g1 g2 g3 => by
    obtain ⟨ht, Qc, rfl⟩ := G
    exact vx_out (fun x hx9 => (ht x hx9).elim) hlk g1 g2 g3 (fun t ht9 _ => ⟨⟨h', kx E h' hx1, by rw [ht9]; exact hP1⟩, hS1.F ht9⟩) hS1.2.2 h1 h2)
theorem x_callSt (C : CX κ own nm cc Ts R' D A nL) (hM : TX (kl κ) D A y ws rm (As) h post xpost) (hG : GoodIn Ts (wsS own index y ws)) (hd : y.cls = own ∧ y.cls ≠ "java/lang/invoke/MethodHandle" ∧ y.cls ≠ "java/lang/invoke/VarHandle" ∧ (parseMethodDescriptor y.desc).map (fun d => d.parameters.length) = some n) (hw : ws = Cond.code y bytes maxL ret :: ws') (hAs : As.length = n) (hst : st = As.reverse ++ rest) (hcat : (rest.map fun v => v.category).sum ≤ 8) (hR : rm.frames + 1 ≤ R'.frames ∧ 8 + (maxL + 11) + rm.locals ≤ R'.locals) (hf : n1 + rm.cells ≤ R'.cells ∧ n2 + rm.slots ≤ R'.slots) (d : decode cc pc = .ok (.invokestatic index, 3)) {xp : String → vh → Prop} {mc ms : Nat} (G : CT κ xp mc ms) (h1 : n1 + rm.cells ≤ mc) (h2 : n2 + rm.slots ≤ ms) (kx : ∀ (E : String) (h' : vh), xpost E h' → xp E h') (kk : ∀ (rv : Option Value) (h' : vh), post rv h' → X κ (n1 + rm.cells) (n2 + rm.slots) h' ls (pc + 3) (stk rv rest)) : X κ n1 n2 h ls pc st := by
  obtain ⟨p, l, e, R, s, m, args, below, meth, c, Q, D0, A0, nL0⟩ := κ
  obtain ⟨hx, hb, hml, ho, hts, hlk, hnm, hE, rfl, rfl, rfl, rfl⟩ := C
  intro H locs la hS hP hl
  exact xt_go (vx_runS (As := As) (rest := rest) ⟨hx, hb, hml, ho, hts⟩ hM (cwS n hts hG hw rfl rfl hd hR) ⟨mpx_blind, fun U hU hW => ⟨rfl, by rw [hU]; exact hP, hE.next hS hU hW⟩⟩ rfl hAs hl.1 hst (lv_room hcat) d hf) hS hl kk (fun E h' ce q H1 locs1 hx1 hP1 hS1 g1 g2 g3 => by
    obtain ⟨ht, Qc, rfl⟩ := G
    exact vx_out (fun x hx9 => (ht x hx9).elim) hlk g1 g2 g3 (fun t ht9 _ => ⟨⟨h', kx E h' hx1, by rw [ht9]; exact hP1⟩, hS1.F ht9⟩) hS1.2.2 h1 h2)
theorem x_callI (C : CX κ own nm cc Ts R' D A nL) (hM : MX (kl κ) D A y ws rm (.ref b :: As) h post) (hG : GoodIn Ts ws) (hini : Cond.initialized y.cls ∈ Ts) (hlk9 : Cond.methodLink own index y ∈ Ts) (hin : Cond.instanceMethod y ∈ Ts) (hy1 : y.name = "<init>") (hd : y.cls ≠ "java/lang/invoke/MethodHandle" ∧ y.cls ≠ "java/lang/invoke/VarHandle" ∧ (parseMethodDescriptor y.desc).map (fun d => d.parameters.length) = some n) (hw : ws = Cond.code y bytes maxL none :: ws') (hAs : As.length = n) (hst : st = As.reverse ++ .ref b :: rest) (hcat : (rest.map fun v => v.category).sum ≤ 8) (hR : rm.frames + 1 ≤ R'.frames ∧ 8 + (maxL + 11) + rm.locals ≤ R'.locals) (hf : n1 + rm.cells ≤ R'.cells ∧ n2 + rm.slots ≤ R'.slots) (d : decode cc pc = .ok (.invokespecial index, 3))  (kk : ∀ (rv : Option Value) (h' : vh), post rv h' → X κ (n1 + rm.cells) (n2 + rm.slots) h' ls (pc + 3) (stk rv rest)) : X κ n1 n2 h ls pc st := by
  obtain ⟨p, l, e, R, s, m, args, below, meth, c, Q, D0, A0, nL0⟩ := κ
  obtain ⟨hx, hb, hml, ho, hts, hlk, hnm, hE, rfl, rfl, rfl, rfl⟩ := C
  intro H locs la hS hP hl
  exact xr_go (va_runI (As := As) (rest := rest) ⟨hx, hb, hml, ho, hts⟩ hM (cwI n hts hG hw rfl rfl (hts _ hini) (hts _ hlk9) (hts _ hin) hy1 hd hR) ⟨mpx_blind, fun U hU hW => ⟨rfl, by rw [hU]; exact hP, hE.next hS hU hW⟩⟩ rfl hAs hl.1 hst (lv_room hcat) d hf) hS hl kk
theorem x_callIN (C : CX κ own nm cc Ts R' D A nL) (hM : MX (kl κ) D A y ws rm (.ref b :: As) h post) (hG : GoodIn Ts ws) (hini : Cond.initialized y.cls ∈ Ts) {host : String} (hlk9 : Cond.methodLinkNest own index y host ∈ nwAll) (hin : Cond.instanceMethod y ∈ Ts) (hy1 : y.name = "<init>") (hd : y.cls ≠ "java/lang/invoke/MethodHandle" ∧ y.cls ≠ "java/lang/invoke/VarHandle" ∧ (parseMethodDescriptor y.desc).map (fun d => d.parameters.length) = some n) (hw : ws = Cond.code y bytes maxL none :: ws') (hAs : As.length = n) (hst : st = As.reverse ++ .ref b :: rest) (hcat : (rest.map fun v => v.category).sum ≤ 8) (hR : rm.frames + 1 ≤ R'.frames ∧ 8 + (maxL + 11) + rm.locals ≤ R'.locals) (hf : n1 + rm.cells ≤ R'.cells ∧ n2 + rm.slots ≤ R'.slots) (d : decode cc pc = .ok (.invokespecial index, 3))  (kk : ∀ (rv : Option Value) (h' : vh), post rv h' → X κ (n1 + rm.cells) (n2 + rm.slots) h' ls (pc + 3) (stk rv rest)) : X κ n1 n2 h ls pc st := by
  obtain ⟨p, l, e, R, s, m, args, below, meth, c, Q, D0, A0, nL0⟩ := κ
  obtain ⟨hx, hb, hml, ho, hts, hlk, hnm, hE, rfl, rfl, rfl, rfl⟩ := C
  intro H locs la hS hP hl
  exact xr_go (va_runIN (As := As) (rest := rest) ⟨hx, hb, hml, ho, hts⟩ hM ⟨va_cnB (host := host) n hts hG hw rfl rfl (hE.2.2.1 _ hlk9) (hts _ hini) hd hR, hy1, hts _ hin⟩ ⟨mpx_blind, fun U hU hW => ⟨rfl, by rw [hU]; exact hP, hE.next hS hU hW⟩⟩ rfl hAs hl.1 hst (lv_room hcat) d hf) hS hl kk
theorem x_callSN (C : CX κ own nm cc Ts R' D A nL) (hM : MX (kl κ) D A y ws rm (As) h post) (hG : GoodIn Ts ws) {host : String} (hlk9 : Cond.methodLinkNest own index y host ∈ nwAll) (hini : Cond.initialized y.cls ∈ Ts) (hstt : Cond.static y ∈ Ts) (hd : y.cls ≠ "java/lang/invoke/MethodHandle" ∧ y.cls ≠ "java/lang/invoke/VarHandle" ∧ (parseMethodDescriptor y.desc).map (fun d => d.parameters.length) = some n) (hw : ws = Cond.code y bytes maxL ret :: ws') (hAs : As.length = n) (hst : st = As.reverse ++ rest) (hcat : (rest.map fun v => v.category).sum ≤ 8) (hR : rm.frames + 1 ≤ R'.frames ∧ 8 + (maxL + 11) + rm.locals ≤ R'.locals) (hf : n1 + rm.cells ≤ R'.cells ∧ n2 + rm.slots ≤ R'.slots) (d : decode cc pc = .ok (.invokestatic index, 3))  (kk : ∀ (rv : Option Value) (h' : vh), post rv h' → X κ (n1 + rm.cells) (n2 + rm.slots) h' ls (pc + 3) (stk rv rest)) : X κ n1 n2 h ls pc st := by
  obtain ⟨p, l, e, R, s, m, args, below, meth, c, Q, D0, A0, nL0⟩ := κ
  obtain ⟨hx, hb, hml, ho, hts, hlk, hnm, hE, rfl, rfl, rfl, rfl⟩ := C
  intro H locs la hS hP hl
  exact xr_go (va_runSN (As := As) (rest := rest) ⟨hx, hb, hml, ho, hts⟩ hM ⟨va_cnB (host := host) n hts hG hw rfl rfl (hE.2.2.1 _ hlk9) (hts _ hini) hd hR, hts _ hstt, trivial⟩ ⟨mpx_blind, fun U hU hW => ⟨rfl, by rw [hU]; exact hP, hE.next hS hU hW⟩⟩ rfl hAs hl.1 hst (lv_room hcat) d hf) hS hl kk
theorem x_objInit (C : CX κ own nm cc Ts R' D A nL) {a : Nat} (hlk9 : Cond.methodLink own index Lib.objectInit ∈ Ts) (hin : Cond.instanceMethod Lib.objectInit ∈ Ts) (hcode : Cond.code Lib.objectInit ⟨#[0xb1]⟩ 1 none ∈ Ts) (hR : 1 ≤ R'.frames) (hR2 : (st.map fun v => v.category).sum + 12 ≤ R'.locals) (d : decode cc pc = .ok (.invokespecial index, 3)) (kk : X κ n1 n2 h ls (pc + 3) st) : X κ n1 n2 h ls pc (.ref a :: st) := by
  obtain ⟨p, l, e, R, s, m, args, below, meth, c, Q, D0, A0, nL0⟩ := κ
  obtain ⟨hx, hb, hml, ho, hts, hlk, hnm, hE, rfl, rfl, rfl, rfl⟩ := C
  intro H locs la hS hP hl
  exact W.objInit hx hb ho (hts _ hlk9) (hts _ hin) (hts _ hcode) rfl (by rw [hml]; exact hl.1) rfl d hR (by
    have : 2 * (F0 m pc la (Value.ref a :: st)).monitorRoom = 0 := by first | rfl | simp [JFrame.monitorRoom]
    omega) (kk H locs la hS hP hl)
/-- 'throw new E("text")' -/
theorem x_throwS (C : CX κ own nm cc Ts R' D A nL) {xp : String → vh → Prop} {mc ms : Nat} (G : CT κ xp mc ms) {cls text : String} {names : List String} {ik is ic : Nat} (hcls : Bundle.fit cls = true) (hnames : ∀ n ∈ names, Bundle.fit n = true)
    (hk : Cond.classLink own ik cls ∈ Ts) (hini : Cond.initialized cls ∈ Ts) (hstr : (own, is, text) ∈ swL) (hat1 : ∀ w ∈ (vx_atS own ic cls names).filter goodWord, w ∈ Ts) (hat2 : ∀ w ∈ (vx_atS own ic cls names).filter (fun w => !goodWord w), w ∈ nwAll)
    (hgood : ∀ w ∈ Cond.classLink own ik cls :: Cond.initialized cls :: vx_atS own ic cls names, vx_ot w = true)
    (d0 : decode cc pc = .ok (.new ik, 3)) (d3 : decode cc (pc + 3) = .ok (.dup, 1)) (d4 : decode cc (pc + 4) = .ok (.ldc is, 2)) (d6 : decode cc (pc + 6) = .ok (.invokespecial ic, 3)) (d9 : decode cc (pc + 9) = .ok (.athrow, 1))
    (hRf : names.length + 3 < R'.frames) (hRl : (st.map fun v => v.category).sum + (13 * (names.length + 1) + 43) ≤ R'.locals) (hRc : n1 + 1 ≤ R'.cells) (hRs : n2 + 6 ≤ R'.slots) (h1 : n1 + 1 ≤ mc) (h2 : n2 + 6 ≤ ms) (hp : xp cls h) : X κ n1 n2 h ls pc st := by
  obtain ⟨p, l, e, R, s, m, args, below, meth, c, Q, D0, A0, nL0⟩ := κ
  obtain ⟨hx, hb, hml, ho, hts, hlk, hnm, hE, rfl, rfl, rfl, rfl⟩ := C
  obtain ⟨ht, Qc, rfl⟩ := G
  intro H locs la hS hP hl
  obtain ⟨sa, hsa⟩ := hE.2.2.2.1 _ hstr
  exact vx_throwS hx hb hE.1 ho hcls hnames (hts _ hk) (hts _ hini) hsa (vx_hat (B := nwAll) (fun w hw => hts _ (hat1 w hw)) hat2 (fun w hw => nw_use (nw_all w hw) (hE.2.2.1 w hw))) hgood hE.2.2.2.2.1 hE.2.2.2.2.2.1 hS (by rw [hml]; exact hl.1) d0 d3 d4 d6 d9 (fun x hx9 => (ht x hx9).elim) hRf hRl hRc hRs hlk
    (fun t hA9 hz hk9 => ⟨⟨h, hp, fun a e9 he9 => ⟨(hP a e9 he9).1.kept (hk9 a (va_at.lt (hP a e9 he9).1)), (hP a e9 he9).2⟩⟩, ⟨Nat.le_trans hS.1 hz, fun q q1 q2 => (hk9 q (Nat.lt_of_lt_of_le q1 hS.1)).trans (hS.2.1 q q1 q2)⟩⟩) hS.2.2 h1 h2
/-- the text by a wide index -/
theorem x_throwSw (C : CX κ own nm cc Ts R' D A nL) {xp : String → vh → Prop} {mc ms : Nat} (G : CT κ xp mc ms) {cls text : String} {names : List String} {ik is ic : Nat} (hcls : Bundle.fit cls = true) (hnames : ∀ n ∈ names, Bundle.fit n = true)
    (hk : Cond.classLink own ik cls ∈ Ts) (hini : Cond.initialized cls ∈ Ts) (hstr : (own, is, text) ∈ swL) (hat1 : ∀ w ∈ (vx_atS own ic cls names).filter goodWord, w ∈ Ts) (hat2 : ∀ w ∈ (vx_atS own ic cls names).filter (fun w => !goodWord w), w ∈ nwAll)
    (hgood : ∀ w ∈ Cond.classLink own ik cls :: Cond.initialized cls :: vx_atS own ic cls names, vx_ot w = true)
    (d0 : decode cc pc = .ok (.new ik, 3)) (d3 : decode cc (pc + 3) = .ok (.dup, 1)) (d4 : decode cc (pc + 4) = .ok (.ldc_w is, 3)) (d6 : decode cc (pc + 7) = .ok (.invokespecial ic, 3)) (d9 : decode cc (pc + 10) = .ok (.athrow, 1))
    (hRf : names.length + 3 < R'.frames) (hRl : (st.map fun v => v.category).sum + (13 * (names.length + 1) + 43) ≤ R'.locals) (hRc : n1 + 1 ≤ R'.cells) (hRs : n2 + 6 ≤ R'.slots) (h1 : n1 + 1 ≤ mc) (h2 : n2 + 6 ≤ ms) (hp : xp cls h) : X κ n1 n2 h ls pc st := by
  obtain ⟨p, l, e, R, s, m, args, below, meth, c, Q, D0, A0, nL0⟩ := κ
  obtain ⟨hx, hb, hml, ho, hts, hlk, hnm, hE, rfl, rfl, rfl, rfl⟩ := C
  obtain ⟨ht, Qc, rfl⟩ := G
  intro H locs la hS hP hl
  obtain ⟨sa, hsa⟩ := hE.2.2.2.1 _ hstr
  exact vx_throwSW hx hb hE.1 ho hcls hnames (hts _ hk) (hts _ hini) hsa (vx_hat (B := nwAll) (fun w hw => hts _ (hat1 w hw)) hat2 (fun w hw => nw_use (nw_all w hw) (hE.2.2.1 w hw))) hgood hE.2.2.2.2.1 hE.2.2.2.2.2.1 hS (by rw [hml]; exact hl.1) d0 d3 d4 d6 d9 (fun x hx9 => (ht x hx9).elim) hRf hRl hRc hRs hlk
    (fun t hA9 hz hk9 => ⟨⟨h, hp, fun a e9 he9 => ⟨(hP a e9 he9).1.kept (hk9 a (va_at.lt (hP a e9 he9).1)), (hP a e9 he9).2⟩⟩, ⟨Nat.le_trans hS.1 hz, fun q q1 q2 => (hk9 q (Nat.lt_of_lt_of_le q1 hS.1)).trans (hS.2.1 q q1 q2)⟩⟩) hS.2.2 h1 h2
end XC1

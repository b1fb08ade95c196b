/-! the words of the nest mates, and the texts, that the class uses -/
def nwL : List Cond := [
  .fieldLinkNest "LedgeLevels$Search" 73 "LedgeLevels$Body" "cell" "I" "LedgeLevels",
  .fieldLinkNest "LedgeLevels$Run" 57 "LedgeLevels$Body" "cell" "I" "LedgeLevels",
  .fieldLinkNest "LedgeLevels" 251 "LedgeLevels$Body" "cell" "I" "LedgeLevels",
  .fieldLinkNest "LedgeLevels" 256 "LedgeLevels$Body" "speed" "I" "LedgeLevels",
  .fieldLinkNest "LedgeLevels" 259 "LedgeLevels$Body" "taken" "I" "LedgeLevels",
  .fieldLinkNest "LedgeLevels$Run" 50 "LedgeLevels$Body" "fate" "I" "LedgeLevels",
  .fieldLinkNest "LedgeLevels$Search" 70 "LedgeLevels$Body" "fate" "I" "LedgeLevels",
  .fieldLinkNest "LedgeLevels" 247 "LedgeLevels$Run" "body" "LLedgeLevels$Body;" "LedgeLevels",
  .fieldLinkNest "LedgeLevels" 290 "LedgeLevels$Run" "work" "LLedgeLevels$Work;" "LedgeLevels",
  .fieldLinkNest "LedgeLevels" 202 "LedgeLevels$Run" "state" "I" "LedgeLevels",
  .fieldLinkNest "LedgeLevels" 207 "LedgeLevels$Run" "steps" "I" "LedgeLevels",
  .methodLinkNest "LedgeLevels$Level" 11 ⟨"LedgeLevels$Grid", "<init>", "()V"⟩ "LedgeLevels",
  .fieldLinkNest "LedgeLevels$Body" 56 "LedgeLevels$Grid" "allKeys" "I" "LedgeLevels",
  .methodLinkNest "LedgeLevels$Level" 20 ⟨"LedgeLevels$History", "<init>", "()V"⟩ "LedgeLevels",
  .fieldLinkNest "LedgeLevels" 112 "LedgeLevels$History" "done" "I" "LedgeLevels",
  .fieldLinkNest "LedgeLevels" 126 "LedgeLevels$History" "undone" "I" "LedgeLevels",
  .fieldLinkNest "LedgeLevels$Work" 29 "LedgeLevels$Level" "author" "I" "LedgeLevels",
  .fieldLinkNest "LedgeLevels$Work" 35 "LedgeLevels$Level" "parent" "LLedgeLevels$Work;" "LedgeLevels",
  .fieldLinkNest "LedgeLevels$Work" 40 "LedgeLevels$Level" "grid" "LLedgeLevels$Grid;" "LedgeLevels",
  .fieldLinkNest "LedgeLevels" 56 "LedgeLevels$Level" "grid" "LLedgeLevels$Grid;" "LedgeLevels",
  .fieldLinkNest "LedgeLevels" 93 "LedgeLevels$Level" "history" "LLedgeLevels$History;" "LedgeLevels",
  .fieldLinkNest "LedgeLevels$Work" 45 "LedgeLevels$Level" "start" "I" "LedgeLevels",
  .fieldLinkNest "LedgeLevels" 106 "LedgeLevels$Level" "start" "I" "LedgeLevels",
  .fieldLinkNest "LedgeLevels$Work" 49 "LedgeLevels$Level" "proof" "I" "LedgeLevels",
  .fieldLinkNest "LedgeLevels" 109 "LedgeLevels$Level" "proof" "I" "LedgeLevels",
  .methodLinkNest "LedgeLevels$Grid" 22 ⟨"LedgeLevels", "isCell", "(I)Z"⟩ "LedgeLevels",
  .methodLinkNest "LedgeLevels$Body" 59 ⟨"LedgeLevels", "isCell", "(I)Z"⟩ "LedgeLevels",
  .methodLinkNest "LedgeLevels$Search" 76 ⟨"LedgeLevels", "isCell", "(I)Z"⟩ "LedgeLevels",
  .methodLinkNest "LedgeLevels$Work" 11 ⟨"LedgeLevels$Grid", "<init>", "()V"⟩ "LedgeLevels",
  .fieldLinkNest "LedgeLevels" 231 "LedgeLevels$Work" "number" "I" "LedgeLevels",
  .fieldLinkNest "LedgeLevels" 182 "LedgeLevels$Work" "author" "I" "LedgeLevels",
  .fieldLinkNest "LedgeLevels" 227 "LedgeLevels$Work" "parent" "LLedgeLevels$Work;" "LedgeLevels",
  .fieldLinkNest "LedgeLevels$Run" 31 "LedgeLevels$Work" "grid" "LLedgeLevels$Grid;" "LedgeLevels",
  .fieldLinkNest "LedgeLevels" 146 "LedgeLevels$Work" "grid" "LLedgeLevels$Grid;" "LedgeLevels",
  .fieldLinkNest "LedgeLevels$Run" 37 "LedgeLevels$Work" "start" "I" "LedgeLevels",
  .fieldLinkNest "LedgeLevels" 151 "LedgeLevels$Work" "start" "I" "LedgeLevels",
  .fieldLinkNest "LedgeLevels" 187 "LedgeLevels$Work" "given" "[I" "LedgeLevels",
  .fieldLinkNest "LedgeLevels" 156 "LedgeLevels$Work" "best" "I" "LedgeLevels",
  .fieldLinkNest "LedgeLevels" 244 "LedgeLevels$Work" "record" "I" "LedgeLevels"]
def swL : List (String × Nat × String) := [
  ("LedgeLevels", 269, "no such person"),
  ("LedgeLevels", 285, "too many levels"),
  ("LedgeLevels", 281, "no such level"),
  ("LedgeLevels", 275, "no such cell"),
  ("LedgeLevels", 75, "no such kind of cell"),
  ("LedgeLevels", 90, "too many keys"),
  ("LedgeLevels", 115, "no edit to undo"),
  ("LedgeLevels", 129, "no edit to do again"),
  ("LedgeLevels", 277, "no such spring kind"),
  ("LedgeLevels", 140, "no such strength"),
  ("LedgeLevels", 283, "no such work"),
  ("LedgeLevels", 166, "no proof with a shortest run"),
  ("LedgeLevels", 168, "too many works"),
  ("LedgeLevels", 279, "the work is withdrawn"),
  ("LedgeLevels", 180, "no such number of stars"),
  ("LedgeLevels", 185, "authors do not star their own works"),
  ("LedgeLevels", 200, "no such input"),
  ("LedgeLevels", 205, "no run that goes on"),
  ("LedgeLevels", 210, "the run has all its steps"),
  ("LedgeLevels", 215, "no such number of steps")]
/-- words that hold of the tables, and aren't among the good ones: of nest mates, of classes that can be cast -/
def nwK : Cond → Bool
  | .fieldLinkNest .. => true
  | .methodLinkNest .. => true
  | .castable .. => true
  | .declares .. => true
  | .arrayOver (.object _) => true
  | _ => false
def nwAll : List Cond := nwL ++ [.castable "java/lang/IndexOutOfBoundsException" "java/lang/IndexOutOfBoundsException", .castable "java/lang/IllegalArgumentException" "java/lang/IllegalArgumentException", .castable "java/lang/IllegalStateException" "java/lang/IllegalStateException", .declares ⟨"java/lang/RuntimeException", "<init>", "(Ljava/lang/String;)V"⟩, .declares ⟨"java/lang/Exception", "<init>", "(Ljava/lang/String;)V"⟩, .declares ⟨"java/lang/Throwable", "<init>", "(Ljava/lang/String;)V"⟩, .arrayOver (.object RX3), .arrayOver (.object RX4), .arrayOver (.object RX6)]
def NW (U : State) : Prop := ∀ w ∈ nwAll, va_Nw w U
def SW (U : State) : Prop := ∀ q ∈ swL, ∃ a, vk_R q.1 q.2.1 q.2.2 a U
theorem nw_warm {w : Cond} (h : nwK w = true) {s U : State} (hW : s.WarmedH U.vm) (hZ : va_Nw w s) : va_Nw w U := by
  cases w <;> first | exact va_Nw.warmF hW hZ | exact va_Nw.warmM hW hZ | exact va_Nw.warmC hW hZ | exact va_Nw.warmD hW hZ | (simp [nwK] at h; done) | (rename_i ty; cases ty <;> first | exact va_AO.moved hW.alike hZ | (simp [nwK] at h; done))
theorem nw_all : ∀ w ∈ nwAll, nwK w = true := by decide +kernel
theorem nw_use {w : Cond} (h : nwK w = true) {A : Array Value} {U : State} (hZ : va_Nw w U) : w.before A U = true := by
  cases w <;> first | exact va_Nw.use rfl hZ | (simp [nwK] at h; done) | exact hZ
theorem nw_same {w : Cond} (h : nwK w = true) {u U : State} (hv : u.vm = U.vm) (hZ : va_Nw w u) : va_Nw w U := by
  have ha : u.vm.Alike U.vm := hv ▸ Vm.Alike.refl u.vm
  cases w <;> first | exact va_Nw.same rfl hv hZ | (simp [nwK] at h; done) | (rename_i ty; cases ty <;> first | exact va_AO.moved ha hZ | (simp [nwK] at h; done))
theorem NW.warm {s U : State} (hW : s.WarmedH U.vm) (h : NW s) : NW U := fun w hw => nw_warm (nw_all w hw) hW (h w hw)
theorem SW.warm {s U : State} (hW : s.WarmedH U.vm) (h : SW s) : SW U := fun q hq => (h q hq).elim fun a ha => ⟨a, vk_R.warm hW ha⟩
/-! the heap as a function: what the system's cells hold -/
abbrev vh : Type := Nat → Option va_E
def hu (h : vh) (a : Nat) (e : va_E) : vh := fun q => if q = a then some e else h q
theorem hu_s {h : vh} {a : Nat} {e : va_E} : hu h a e a = some e := if_pos rfl
theorem hu_n {h : vh} {a b : Nat} {e : va_E} (n : b ≠ a) : hu h a e b = h b := if_neg n
theorem hu_u {h : vh} {a : Nat} {e e' : va_E} : hu (hu h a e) a e' = hu h a e' := by
  funext q
  by_cases hq : q = a <;> simp [hu, hq]
theorem hu_c {h : vh} {a b : Nat} {e e' : va_E} (n : a ≠ b) : hu (hu h a e) b e' = hu (hu h b e') a e := by
  funext q
  by_cases hq : q = a
  · subst hq; simp [hu, n]
  · simp [hu, hq]
theorem hu_i {h : vh} {a : Nat} {e : va_E} (ha : h a = some e) : hu h a e = h := by
  funext q
  by_cases hq : q = a
  · subst hq; simp [hu, ha]
  · simp [hu, hq]
theorem vne {h : vh} {a b : Nat} {x y : va_E} (ha : h a = some x) (hb : h b = some y) (n : x ≠ y) : a ≠ b := fun e => n (by subst e; exact Option.some.inj (ha.symm.trans hb))
theorem vnn {h : vh} {a b : Nat} {x : va_E} (ha : h a = some x) (hb : h b = none) : a ≠ b := fun e => by subst e; rw [ha] at hb; cases hb
def gP (D : va_G) (A : Nat → Prop) (h : vh) (H : Heap) : Prop := ∀ (a : Nat) (e : va_E), h a = some e → va_at D vwCl (a, e) H ∧ A a
theorem gP.one {D : va_G} {A : Nat → Prop} {h : vh} {H : Heap} (hP : gP D A h H) {a : Nat} {e : va_E} (ha : h a = some e) : va_P D vwCl [(a, e)] H := fun k q hk => by
  match k, hk with
  | 0, hk => cases hk; exact (hP a e ha).1
  | k + 1, hk => simp at hk
theorem gP.fresh {D : va_G} {A : Nat → Prop} {h : vh} {H : Heap} (hP : gP D A h H) : h H.size = none := by
  cases hh : h H.size with
  | none => rfl
  | some e => exact absurd (va_at.lt (hP _ e hh).1) (Nat.lt_irrefl _)
theorem gP.upd {D : va_G} {A : Nat → Prop} {h : vh} {H H1 : Heap} (hP : gP D A h H) {a : Nat} {e : va_E} (hA : A a) (he : va_at D vwCl (a, e) H1) (oq : ∀ q : Nat, q ≠ a → H1[q]? = H[q]?) : gP D A (hu h a e) H1 := by
  intro q e' hq
  by_cases hqa : q = a
  · subst hqa
    rw [hu_s] at hq
    cases hq
    exact ⟨he, hA⟩
  · rw [hu_n hqa] at hq
    exact ⟨(hP q e' hq).1.kept (oq q hqa), (hP q e' hq).2⟩
theorem gP.push {D : va_G} {A : Nat → Prop} {h : vh} {H H1 : Heap} (hP : gP D A h H) {e : va_E} (hA : A H.size) (he : va_at D vwCl (H.size, e) H1) (oq : ∀ q : Nat, q < H.size → H1[q]? = H[q]?) : gP D A (hu h H.size e) H1 := by
  intro q e' hq
  by_cases hqa : q = H.size
  · subst hqa
    rw [hu_s] at hq
    cases hq
    exact ⟨he, hA⟩
  · rw [hu_n hqa] at hq
    exact ⟨(hP q e' hq).1.kept (oq q (va_at.lt (hP q e' hq).1)), (hP q e' hq).2⟩
abbrev eI (D : va_G) (n : Nat) (f : Nat → Int) : va_E := .inl (D.1 20, n, .inl (fun j => iI (f j)))
abbrev eZ (D : va_G) (n : Nat) (f : Nat → Int) : va_E := .inl (D.1 21, n, .inl (fun j => iI (f j)))
abbrev eR (D : va_G) (k n : Nat) (f : Nat → Option Nat) : va_E := .inl (D.1 k, n, .inr (.inr (.inr (.inr f))))
abbrev eJ (D : va_G) (n : Nat) (f : Nat → Int64) : va_E := .inl (D.1 25, n, .inr (.inl f))
abbrev eO (ci : Nat) (fs : List Value) : va_E := .inr (ci, fs)
def tyL (D : va_G) : List (ClassId × FieldType) := [(D.1 20, .int), (D.1 21, .boolean), (D.1 22, .object RX3), (D.1 23, .object RX4), (D.1 24, .object RX6), (D.1 25, .long)]
def fu (f : Nat → Int) (k : Nat) (x : Int) : Nat → Int := fun j => if j = k then x else f j
theorem fu_s {f : Nat → Int} {k : Nat} {x : Int} : fu f k x k = x := if_pos rfl
theorem fu_n {f : Nat → Int} {k j : Nat} {x : Int} (n : j ≠ k) : fu f k x j = f j := if_neg n
theorem fu_upd (f : Nat → Int) (k : Nat) (x : Int) : upd (fun j => iI (f j)) k (iI x) = fun j => iI (fu f k x j) := by
  funext j
  by_cases hj : j = k <;> simp [upd, fu, hj]
/-- what a method finds of the launch, of the classes, of the statics that a throw reads -/
def EV (l : Launch) (D : va_G) (A : Nat → Prop) (U : State) (H : Heap) : Prop :=
  l.stackTraces = false ∧ va_K D vwCl (tyL D) U ∧ NW U ∧ SW U ∧ vx_Zq Bundle.tN "UNASSIGNED_STACK" Bundle.steD A U H ∧ vx_Zq Bundle.tN "SUPPRESSED_SENTINEL" Bundle.listD A U H ∧ ∀ q, H.size ≤ q → A q
theorem EV.next {l : Launch} {D : va_G} {A : Nat → Prop} {s U : State} {H : Heap} {locs : List Loc} (h : EV l D A s s.heap) (hS : va_S A s.heap H locs) (hU : U.heap = H) (hW : s.WarmedH U.vm) : EV l D A U U.heap := by
  obtain ⟨h1, h2, h3, h4, h5, h6, h7⟩ := h
  rw [hU]
  exact ⟨h1, va_K.moved hW.alike h2, h3.warm hW, h4.warm hW, (h5.kept hS.2.1).moved hW.alike, (h6.kept hS.2.1).moved hW.alike, fun q hq => h7 q (Nat.le_trans hS.1 hq)⟩
/-! ===== the judgement: at pc, with these locals and this stack, over this heap, the machine comes to Q ===== -/
abbrev KX : Type := Program × Launch × Env × Room × State × MethodId × Array Value × List Frame × Method × Code × (State → Prop) × va_G × (Nat → Prop) × Nat
def X (κ : KX) (n1 n2 : Nat) (h : vh) (ls : List (Nat × Value)) (pc : Nat) (st : List Value) : Prop :=
  match κ with
  | (p, l, e, R, s, m, args, below, meth, c, Q, D, A, nL) => ∀ (H : Heap) (locs : List Loc) (la : Array Slot), va_S A s.heap H locs → gP D A h H → lv_has la nL ls → W p l e R s m args below meth c H locs n1 n2 Q (F0 m pc la st)
def CX (κ : KX) (own nm : String) (cc : ByteArray) (Ts : List Cond) (R' : Room) (D' : va_G) (A' : Nat → Prop) (nL' : Nat) : Prop :=
  match κ with
  | (p, l, _, R, s, m, args, _, meth, c, _, D, A, nL) => p.tables.exec = Jvm.exec ∧ c.code = cc ∧ c.maxLocals = nL ∧ s.vm.findClass own = some m.cls ∧ (∀ w ∈ Ts, w.before args s = true) ∧ meth.locks = false ∧ meth.name = nm ∧ EV l D A s s.heap ∧ R = R' ∧ D = D' ∧ A = A' ∧ nL = nL'
abbrev kl (κ : KX) : Launch := κ.2.1
/-! contracts -/
def MPx (l : Launch) (D : va_G) (A : Nat → Prop) (av : List Value) (h : vh) : Array Value → State → Prop := fun v U => v = av.toArray ∧ gP D A h U.heap ∧ EV l D A U U.heap
def MQx (D : va_G) (A : Nat → Prop) (post : Option Value → vh → Prop) : Array Value → State → Outcome → State → Prop := fun _ st oc t => (∃ (rv : Option Value) (h' : vh), oc = .returned rv ∧ post rv h' ∧ gP D A h' t.heap) ∧ va_F A st t
def XCx (D : va_G) (A : Nat → Prop) (xpost : String → vh → Prop) : String → State → State → Prop := fun E st t => (∃ h' : vh, xpost E h' ∧ gP D A h' t.heap) ∧ va_F A st t
/-- a method that returns -/
def MX (l : Launch) (D : va_G) (A : Nat → Prop) (y : MethodName) (ws : List Cond) (rm : Room) (av : List Value) (h : vh) (post : Option Value → vh → Prop) : Prop :=
  Met l y ws rm (MPx l D A av h) (MQx D A post) rm.cells rm.slots A
/-- a method that returns or throws -/
def TX (l : Launch) (D : va_G) (A : Nat → Prop) (y : MethodName) (ws : List Cond) (rm : Room) (av : List Value) (h : vh) (post : Option Value → vh → Prop) (xpost : String → vh → Prop) : Prop :=
  vx_Met l y ws rm (MPx l D A av h) (MQx D A post) (XCx D A xpost) rm.cells rm.slots A
theorem mpx_blind {l : Launch} {D : va_G} {A : Nat → Prop} {av : List Value} {h : vh} : FrameBlind (MPx l D A av h) := by
  intro a U g mk hq
  obtain ⟨h1, h2, e1, e2, e3, e4, e5, e6, e7⟩ := hq
  have hv : (U.calling g mk a).vm = U.vm := rfl
  have ha : U.vm.Alike (U.calling g mk a).vm := Vm.Alike.refl U.vm
  exact ⟨h1, h2, e1, va_K.moved (u := U) (U := U.calling g mk a) ha e2, fun w hw => nw_same (nw_all w hw) hv.symm (e3 w hw), fun q hq => (e4 q hq).elim fun b hb => ⟨b, vk_R.same hv hb⟩, vx_Zq.moved (u := U) (U := U.calling g mk a) ha e5, vx_Zq.moved (u := U) (U := U.calling g mk a) ha e6, e7⟩
/-- what a return owes, what a throw owes -/
def CR (κ : KX) (ret : Option FieldType) (post : Option Value → vh → Prop) (mc ms : Nat) : Prop :=
  match κ with
  | (_, _, _, _, s, _, args, below, meth, _, Q, D, A, _) => meth.sig.returnType = ret ∧ ∀ t, MQ below (MQx D A post) args s mc ms A t → Q t
def CT (κ : KX) (xpost : String → vh → Prop) (mc ms : Nat) : Prop :=
  match κ with
  | (_, _, _, _, s, _, args, below, _, c, Q, D, A, _) => (∀ x ∈ c.exceptionTable.toList, False) ∧ ∃ Qc, Q = vx_MQ below Qc (XCx D A xpost) args s mc ms A
theorem w_mono {p : Program} {l : Launch} {e : Env} {R : Room} {s : State} {m : MethodId} {args : Array Value} {below : List Frame} {meth : Method} {c : Code} {H : Heap} {locs : List Loc} {n1 n2 : Nat} {Q Q' : State → Prop} {g : JFrame} (hq : ∀ t, Q t → Q' t) (k : W p l e R s m args below meth c H locs n1 n2 Q g) : W p l e R s m args below meth c H locs n1 n2 Q' g := fun T hT X => (k T hT X).elim fun t ht => ⟨t, ht.1, hq t ht.2⟩
theorem MX.of {l : Launch} {D : va_G} {A : Nat → Prop} {y : MethodName} {ws ws' : List Cond} {rm : Room} {av : List Value} {h : vh} {post : Option Value → vh → Prop} {cc : ByteArray} {maxL : Nat} {ret : Option FieldType} (ls : List (Nat × Value)) (hy : plainName y.cls = true) (hw : ws = Cond.code y cc maxL ret :: ws') (hls : lv_args 0 av = ls) (hln : (lg_sl av).length ≤ maxL)
    (body : ∀ κ : KX, CX κ y.cls y.name cc ws rm D A maxL → kl κ = l → CR κ ret post rm.cells rm.slots → X κ 0 0 h ls 0 []) : MX l D A y ws rm av h post := by
  refine Met.ofW hy hw ?_
  intro p e s m args below meth c s₁ B hml hv
  obtain ⟨rfl, hP, hE⟩ := hv
  have K := body (p, l, e, rm, s, m, av.toArray, below, meth, c, MQ below (MQx D A post) av.toArray s rm.cells rm.slots A, D, A, maxL) ⟨B.exec, B.bytes, hml, findClass_of_methodNamed B.named, atoms_spec (ws := ws) B.pre, B.notSynchronized, (name_of_methodNamed B.named B.method).1, hE, rfl, rfl, rfl, rfl⟩ rfl ⟨B.returns, fun t h => h⟩
  rw [lg_entry_eq]
  exact K s.heap [] _ va_S.rf hP (hls ▸ lv_entry av hln)
theorem TX.of {l : Launch} {D : va_G} {A : Nat → Prop} {y : MethodName} {ws ws' : List Cond} {rm : Room} {av : List Value} {h : vh} {post : Option Value → vh → Prop} {xpost : String → vh → Prop} {cc : ByteArray} {maxL : Nat} {ret : Option FieldType} (ls : List (Nat × Value)) (hy : plainName y.cls = true) (hw : ws = Cond.code y cc maxL ret :: ws') (hls : lv_args 0 av = ls) (hln : (lg_sl av).length ≤ maxL)
    (body : ∀ κ : KX, CX κ y.cls y.name cc ws rm D A maxL → kl κ = l → CR κ ret post rm.cells rm.slots → CT κ xpost rm.cells rm.slots → X κ 0 0 h ls 0 []) : TX l D A y ws rm av h post xpost := by
  refine vx_ofW hy hw ?_
  intro p e s m args below meth c s₁ B hml ht hv
  obtain ⟨rfl, hP, hE⟩ := hv
  have K := body (p, l, e, rm, s, m, av.toArray, below, meth, c, vx_MQ below (MQx D A post) (XCx D A xpost) av.toArray s rm.cells rm.slots A, D, A, maxL) ⟨B.exec, B.bytes, hml, findClass_of_methodNamed B.named, atoms_spec (ws := ws) B.pre, B.notSynchronized, (name_of_methodNamed B.named B.method).1, hE, rfl, rfl, rfl, rfl⟩ rfl ⟨B.returns, fun t h => by
    obtain ⟨o, b1, b2, b3, b4⟩ := h
    exact ⟨o, b1, b2, Or.inl ⟨b3, b4⟩⟩⟩ ⟨ht, _, rfl⟩
  rw [lg_entry_eq]
  exact K s.heap [] _ va_S.rf hP (hls ▸ lv_entry av hln)

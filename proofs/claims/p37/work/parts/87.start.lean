theorem st_K {s : State} {B : Array Value} (hts : ∀ w ∈ lw_tbl, w.before B s = true) : ∃ D : va_G, va_K D vwCl (tyL D) s := by
  have F : ∀ c : Nat, ∃ x : ClassId × (Nat → Nat), ∀ q, vwCl[c]? = some q → u_Kn s q.1 q.2.1 q.2.2 x.1 x.2 := fun c => by
    match c with
    | 0 => obtain ⟨a, i, h⟩ := u_known hts inX0 (hts _ (st_lk 6 rfl)); exact ⟨(a, i), fun q hq => by cases hq; exact h⟩
    | 1 => obtain ⟨a, i, h⟩ := u_known hts inX1 (hts _ (st_lk 7 rfl)); exact ⟨(a, i), fun q hq => by cases hq; exact h⟩
    | 2 => obtain ⟨a, i, h⟩ := u_known hts inX2 (hts _ (st_lk 8 rfl)); exact ⟨(a, i), fun q hq => by cases hq; exact h⟩
    | 3 => obtain ⟨a, i, h⟩ := u_known hts inX3 (hts _ (st_lk 9 rfl)); exact ⟨(a, i), fun q hq => by cases hq; exact h⟩
    | 4 => obtain ⟨a, i, h⟩ := u_known hts inX4 (hts _ (st_lk 10 rfl)); exact ⟨(a, i), fun q hq => by cases hq; exact h⟩
    | 5 => obtain ⟨a, i, h⟩ := u_known hts inX5 (hts _ (st_lk 11 rfl)); exact ⟨(a, i), fun q hq => by cases hq; exact h⟩
    | 6 => obtain ⟨a, i, h⟩ := u_known hts inX6 (hts _ (st_lk 12 rfl)); exact ⟨(a, i), fun q hq => by cases hq; exact h⟩
    | 7 => obtain ⟨a, i, h⟩ := u_known hts inX7 (hts _ (st_lk 13 rfl)); exact ⟨(a, i), fun q hq => by cases hq; exact h⟩
    | c + 8 => exact ⟨(0, fun _ => 0), fun q hq => by simp at hq⟩
  have hf : ∀ c q, vwCl[c]? = some q → u_Kn s q.1 q.2.1 q.2.2 (Classical.choose (F c)).1 (Classical.choose (F c)).2 := fun c => Classical.choose_spec (F c)
  obtain ⟨a0, p0, q0⟩ := st_arr (ty := .int) (fun C e => by cases e) (hts _ (st_lk 0 rfl))
  obtain ⟨a1, p1, q1⟩ := st_arr (ty := .boolean) (fun C e => by cases e) (hts _ (st_lk 1 rfl))
  obtain ⟨a5, p5, q5⟩ := st_arr (ty := .long) (fun C e => by cases e) (hts _ (st_lk 2 rfl))
  obtain ⟨a2, p2, q2⟩ := st_arrO (C := RX3) (hts _ (st_lk 3 rfl))
  obtain ⟨a3, p3, q3⟩ := st_arrO (C := RX4) (hts _ (st_lk 4 rfl))
  obtain ⟨a4, p4, q4⟩ := st_arrO (C := RX6) (hts _ (st_lk 5 rfl))
  refine ⟨(fun k => if k < 20 then (Classical.choose (F k)).1 else if k = 20 then a0 else if k = 21 then a1 else if k = 22 then a2 else if k = 23 then a3 else if k = 24 then a4 else a5, fun k => (Classical.choose (F k)).2), fun c q hc => ?_, fun k q hk => ?_⟩
  · have hlt : c < 8 := (List.getElem?_eq_some_iff.mp hc).1
    have h9 := hf c q hc
    show u_Kn s q.1 q.2.1 q.2.2 (if c < 20 then _ else _) _
    rw [if_pos (by omega)]
    exact h9
  · match k, hk with
    | 0, hk => cases hk; exact ⟨p0, q0⟩
    | 1, hk => cases hk; exact ⟨p1, q1⟩
    | 2, hk => cases hk; exact ⟨p2, q2⟩
    | 3, hk => cases hk; exact ⟨p3, q3⟩
    | 4, hk => cases hk; exact ⟨p4, q4⟩
    | 5, hk => cases hk; exact ⟨p5, q5⟩
    | k + 6, hk => simp [tyL] at hk

theorem dL_law_1001 : decode cL_law 1001 = .ok (.iconst 1, 1) := by decide +kernel
theorem dL_law_1002 : decode cL_law 1002 = .ok (.ireturn, 1) := by decide +kernel

/-! THE CLAIM OUT OF ONE WALK OF THE LAW'S BODY. Your part is whole_start (and what it stands on); all else here is the same for every law, but numbers. -/
def R_law : String := "LedgeLevelsLaw"
def lw_P (b : Addr) (xs : List Int32) (args : Array Value) (s : State) : Prop := args = #[.ref b] ∧ s.IntsAt b xs ∧ xs.length ≤ 260 ∧ (Jvm.Cond.and given_1 narrow_1).before args s = true
def lw_Q (_ : Array Value) (s : State) (o : Outcome) (t : State) : Prop := o = .returned (some (.int 1)) ∧ Framed s o t [] 600130 7301080
def lw_Z (below : List Frame) (a : Array Value) (s : State) : State → Prop := fun t => ∃ o, t.status = .running ∧ Ended t below o ∧ lw_Q a s o t
/-- the law's own end, with 1 on the stack, nothing written that was there before, its room as the claim has it -/
theorem lw_ret {p : Program} {l : Launch} {e : Env} {s : State} {m : MethodId} {below : List Frame} {meth : Method} {c : Code} {b : Nat} (hx : p.tables.exec = Jvm.exec) (hb : c.code = code) (hr : meth.sig.returnType = ret) (hlocks : meth.locks = false) {pc : Nat} {H : Heap} {ls : Array Slot} (hdg : decode code pc = .ok (.ireturn, 1)) : W p l e room_1 s m #[Value.ref b] below meth c H [] 600130 7301080 (lw_Z below #[Value.ref b] s) (F0 m pc ls [.int 1]) := by
  intro T hT X
  obtain ⟨fs, hret, hrun, hended, hW, hframe⟩ := X.leave (v := some (.int 1)) (hlocks := hlocks) (fun h => by rw [hr] at h; cases h)
  have hmeth' : T.vm.method? m = some meth := X.method'
  refine ⟨T.setFrames fs, ?_, .returned (some (.int 1)), hrun, hended, rfl, ⟨_, rfl⟩, hW, hframe⟩
  jvm_step X.here [X.here.top, hx, hb, hdg, hmeth', hr, ret, narrow_b1]
  (try refine ⟨rfl, ?_⟩); (try refine ⟨rfl, ?_⟩)
  first | (intro acts; rw [hret _ acts rfl rfl rfl]) | rw [hret _ _ rfl rfl rfl]
  exact Steps.refl _
/-- what holds at the law's entry: the machine, the code, the tables' words (any of lw_tbl by 'hts w (by decide +kernel)'), the script of L ints xs at the cell b, what the Statement gives of the start (any of its parts by flat_of_before) -/
def lw_At (p : Program) (s : State) (m : MethodId) (meth : Method) (c : Code) (b L : Nat) (xs : Nat → Int32) : Prop :=
  p.tables.exec = Jvm.exec ∧ c.code = code ∧ meth.sig.returnType = ret ∧ c.maxLocals = 28 ∧ s.vm.findClass R_law = some m.cls ∧ (∀ w ∈ lw_tbl, w.before #[Value.ref b] s = true) ∧ va_X b L xs s s.heap ∧ b < s.heap.size ∧ meth.locks = false ∧ (Jvm.Cond.and given_1 narrow_1).before #[Value.ref b] s = true
set_option maxRecDepth 20000 in
set_option maxHeartbeats 4000000 in
theorem whole_start {p : Program} {e : Env} {s : State} {m : MethodId} {below : List Frame} {meth : Method} {c : Code} (l : Launch) (hflags : l.flags = flags0) {b L : Nat} {xs : Nat → Int32} (hL : L ≤ 260) (C0 : lw_At p s m meth c b L xs) : W p l e room_1 s m #[Value.ref b] below meth c s.heap [] 0 0 (lw_Z below #[Value.ref b] s) (entryFrame m ([Value.ref b] : List Value).toArray 28) := by
  obtain ⟨hx, hcb, hret, hml, hown, hts, hX, hbl, hlk, hgv⟩ := C0
  obtain ⟨D, hK⟩ := st_K hts
  have hfl := flat_of_before _ hgv
  obtain ⟨A, hA⟩ : ∃ A : Nat → Prop, A = fun q => s.heap.size ≤ q := ⟨_, rfl⟩
  have nA : ∀ a : Nat, a < s.heap.size → ¬ A a := fun a ha => by rw [hA]; exact Nat.not_le.mpr ha
  have yA : ∀ q, s.heap.size ≤ q → A q := fun q hq => by rw [hA]; exact hq
  have hNC : NC s := ⟨va_Nc.of (hfl _ (st_gk 0 rfl)), va_Nc.of (hfl _ (st_gk 1 rfl))⟩
  have hc7 : s.vm.findClass "LedgeLevels" = some (D.1 7) := (hK.1 7 _ rfl).2.1
  have hE : EV l D A s s.heap := by
    refine ⟨?_, hK, fun w hw => nw_of (nw_all w hw) (hts w (nw_in w hw)), fun q hq => ?_, vx_Zqof (hts _ (st_lk 14 rfl)) (hts _ (st_lk 16 rfl)) (hfl _ (st_gk 2 rfl)) nA, vx_Zqof (hts _ (st_lk 15 rfl)) (hts _ (st_lk 16 rfl)) (hfl _ (st_gk 3 rfl)) nA, yA⟩
    · show (!l.flags.contains noTraceFlag) = false
      rw [hflags]; decide +kernel
    · have hw := hts _ (sw_in q hq)
      obtain ⟨k, cf, i, a, -, -, -, -, -, hev⟩ := Cond.stringRef_spec (cur := D.1 7) (by rw [sw_cls q hq]; exact hc7) hw
      exact ⟨a, vk_R.of hw hev⟩
  obtain ⟨κ, hκ⟩ : ∃ κ : KX, κ = (p, l, e, room_1, s, m, #[Value.ref b], below, meth, c, lw_Z below #[Value.ref b] s, D, A, 28) := ⟨_, rfl⟩
  have C : CX κ "LedgeLevelsLaw" meth.name cL_law wsL_law { frames := 12, cells := 600130, slots := 7301080, locals := 472 } D A 28 := by
    subst hκ
    exact ⟨hx, hcb, hml, hown, fun w hw => hts w (wsL_law_in w hw), hlk, rfl, hE, rfl, rfl, rfl, rfl⟩
  have kn : KN κ := by subst hκ; exact hNC
  have xs0 : XS κ b L (fun j => (xs j).toInt) := by subst hκ; exact ⟨xs, hX, hbl, nA b hbl, fun j => (Int32.ofInt_toInt (xs j)).symm⟩
  have hEnd : ∀ (h : vh) (n1 n2 : Nat) (ls : List (Nat × Value)), n1 ≤ 600130 → n2 ≤ 7301080 → X κ n1 n2 h ls 1001 [] := fun h n1 n2 ls h1 h2 => by
    refine x_iconst C dL_law_1001 1 (by decide) ?_
    refine x_st (st' := [.int 1]) (congrArg (fun q => [Value.int q]) (show iI 1 = (1 : Int32) from by decide)) ?_
    subst hκ
    exact fun H locs la hS hP hl => va_forget (fun q hq => (by have := hS.2.2 q hq; rw [hA] at this; exact this)) (W.widen h1 h2 (lw_ret hx hcb hret hlk dL_law_1002))
  subst hκ
  rw [lg_entry_eq]
  exact (lt_go C kn xs0 hL hEnd) s.heap [] _ va_S.rf (fun a e9 h9 => by simp at h9) (lv_entry [Value.ref b] (Nat.le_of_ble_eq_true rfl))
-- ===== YOUR PART ENDS =====
set_option maxHeartbeats 4000000 in
theorem lw_walk (l : Launch) (hflags : l.flags = flags0) (b : Addr) (xs : List Int32) : MetFree l x (headSpec (Jvm.Cond.code x code maxLocals ret :: tables_1) room_1) (lw_P b xs) (fun _ _ _ _ _ => True) lw_Q := by
  refine MetFree.of_bodyS (code := code) (maxLocals := maxLocals) (ret := ret) (by decide) ?_ ?_
  · intro args s m h hn
    obtain ⟨meth, c, h1, h2, h3, h4, h5, h6, -, -⟩ := Cond.code_spec hn (atoms_spec (ws := Jvm.Cond.code x code maxLocals ret :: tables_1) h _ List.mem_cons_self)
    exact ⟨meth, c, h1, h2, h3, h4, h5, h6⟩
  · intro p e s m args below meth c s₁ B hml0 hP _
    obtain ⟨rfl, hx, hbd, hgv⟩ := hP
    obtain ⟨scr, harrAt, hlist, hof, hsmall⟩ := hx
    obtain ⟨hcb, hkn, -, -⟩ := State.arrayAt?_spec harrAt
    have hown : s.vm.findClass R_law = some m.cls := findClass_of_methodNamed B.named
    have hts0 : ∀ c ∈ (Jvm.Cond.code x code maxLocals ret :: tables_1), c.before #[Value.ref b] s = true := atoms_spec (ws := Jvm.Cond.code x code maxLocals ret :: tables_1) B.pre
    have hts : ∀ w ∈ lw_tbl, w.before #[Value.ref b] s = true := k2_hts_sels lw_privs (fun w hw => hts0 w (List.mem_cons_of_mem _ hw)) lw_privs_ok
    have hml : c.maxLocals = 28 := B.maxLocals_eq (hts0 _ List.mem_cons_self)
    have X₀ : Stand p l e room_1 s m #[Value.ref b] below meth c s₁ [] 0 0 := Stand.of_body B
    have hh0 : s₁.heap = s.heap := by rw [B.state]; rfl
    have hsz : scr.slots.size = xs.length := by rw [← Array.length_toList, hlist, List.length_map]
    have hval : ∀ j : Nat, j < xs.length → scr.slots[j]? = some (.int (xs.getD j 0)) := fun j hj => by
      rw [← Array.getElem?_toList, hlist]
      simp [hj]
    have hbl : b < s.heap.size := (Array.getElem?_eq_some_iff.mp hcb).1
    have hX : va_X b xs.length (fun j => xs.getD j 0) s s.heap := ⟨scr, hcb, hof, hkn, hsz, hval⟩
    have K : W p l e room_1 s m #[Value.ref b] below meth c s₁.heap [] 0 0 (lw_Z below #[Value.ref b] s) (entryFrame m ([Value.ref b] : List Value).toArray 28) := by
      rw [hh0]
      exact whole_start l hflags hbd ⟨B.exec, B.bytes, B.returns, hml, hown, hts, hX, hbl, B.notSynchronized, hgv⟩
    obtain ⟨t, a1, o, b1, b2, b3⟩ := K s₁ rfl X₀
    exact ⟨t, o, a1, b1, b2, b3⟩
theorem lw_pre_spec {args : Array Value} {s : State} (h : (Jvm.Cond.and given_1 narrow_1).before args s = true) (hr : rest_1_c.before args s = true) : ∃ (b : Addr) (xs : List Int32), lw_P b xs args s := by
  have hs := flat_of_before _ h
  have hq := flat_of_before _ hr
  have hc : (Cond.count 1).before args s = true := hs _ (by decide +kernel)
  have harr : (Cond.arrayOf (.arg 0) .int).before args s = true := hs _ (by decide +kernel)
  have hle : (Cond.le (.length (.arg 0)) (.int 260)).before args s = true := hs _ (by decide +kernel)
  have hlen : (Cond.isInt (.length (.arg 0))).before args s = true := hq _ (by decide +kernel)
  have hall : (Cond.all (.arg 0) (.isInt (.elem (.arg 0) (.index 0)))).before args s = true := hq _ (by decide +kernel)
  obtain ⟨b, xs, hb, hx⟩ := State.ints_of_pre rfl harr hlen hall
  have hsm : xs.length < 2 ^ 31 := hx.choose_spec.2.2.2
  have hev : (Term.length (.arg 0)).eval args s none [] s = some (.int xs.length.toInt32) := hx.length_eval hb
  have hv := Cond.le_ints hev (show (Term.int 260).eval args s none [] s = some (.int 260) from rfl)
  have hd : xs.length.toInt32 ≤ 260 := by
    simpa [Cond.before, Cond.holds, hv] using hle
  have hN : xs.length ≤ 260 := (Int32.ofNat_le_ofNat hsm (by decide)).mp (show Int32.ofNat xs.length ≤ Int32.ofNat 260 from hd)
  exact ⟨b, xs, Cond.one_arg hc (show args[0]? = some (.ref b) from hb), hx, hN, h⟩
theorem lw_comes (l : Launch) (hflags : l.flags = flags0) : Comes l x (Jvm.Cond.code x code maxLocals ret :: tables_1) room_1 (fun tb e args s => Calls_1 tb e args s ∧ rest_1 tb e args s ∧ Pre_1 tb e args s)
    (fun _ _ args s o t => lw_Q args s o t) := by
  intro p e ha hc hk s m args below hf hfit hheap happ hpre
  obtain ⟨b, xs, hP⟩ := lw_pre_spec hpre.2.2 hpre.2.1
  obtain ⟨k, o, h1, h2, h3, hQ⟩ := lw_walk l hflags b xs p e ha hc hk s m args below hf ((Spec.applies_iff_loose hf).mp happ).1 hP trivial
  exact ⟨k, o, h1, h2, h3, hQ⟩
theorem lw_frame {s t : State} {o : Outcome} {args : Array Value} (h : Framed s o t [] 600130 7301080) :
    Framed s o t (fieldLocs frame_1_writes args s ++ arrayLocs frame_1_arrays args s ++ staticLocs frame_1_statics s) 600130 7301080 := h
theorem lw_limb (L : Cond) (hL : ∀ (args : Array Value) (s t : State), L.after args s (.returned (some (.int 1))) t = true) :
    ArmFor flags0 classFile x code maxLocals ret World_1 tables_1 room_1 Calls_1 rest_1 Pre_1
      (fun tb e a s o t => postC L tb e a s o t ∧ Framed s o t (fieldLocs frame_1_writes a s ++ arrayLocs frame_1_arrays a s ++ staticLocs frame_1_statics s) 600130 7301080) := by
  intro l hflags _ _ p e ha hc hk s m args below hf hfit hheap happ hpre
  obtain ⟨k, o, h1, h2, h3, rfl, hF⟩ := lw_comes l hflags p e ha hc hk s m args below hf hfit hheap happ hpre
  exact ⟨k, _, h1, h2, h3, hL args s _, lw_frame hF⟩
theorem i_vc : Claimed_1_1 ∧ Claimed_1_2 := ⟨lw_limb limb_1_1 (fun args s t => by simp [limb_1_1, Cond.after, Cond.holds, Cond.value]), lw_limb limb_1_2 (fun args s t => Cond.after_iff.mpr (by
  first | (rw [show limb_1_2 = Cond.eq .result (.int 1) from rfl, Cond.eq_ints (x := 1) (y := 1) rfl rfl]; simp; done) | (simp [limb_1_2, Cond.value, Term.eval]; done)))⟩


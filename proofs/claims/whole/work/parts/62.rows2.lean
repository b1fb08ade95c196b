/-! ===== two rows more: a switch, a comparison of longs ===== -/
section R2
variable {p : Program} {l : Launch} {e : Env} {R : Room} {s : State} {m : MethodId} {args : Array Value} {below : List Frame} {meth : Method} {c : Code} {H : Heap} {locs : List Loc} {cells slots : Nat} {Q : State → Prop} {cc : ByteArray} {pc : Nat} {ls : Array Slot} {rest : List Value}
theorem w_tsw (hexec : p.tables.exec = Jvm.exec) (hb : c.code = cc) {k : Int32} {default low high : Int} {offsets : Array Int} {len : Nat} (hdg : decode cc pc = .ok (.tableswitch default low high offsets, len))
    (hd : 0 ≤ (pc : Int) + default) (ho : ∀ off ∈ offsets.toList, 0 ≤ (pc : Int) + off) (hsz : ∀ j : Int, low ≤ j → j ≤ high → (j - low).toNat < offsets.size)
    (k1 : (k.toInt < low ∨ k.toInt > high) → W p l e R s m args below meth c H locs cells slots Q (F0 m ((pc : Int) + default).toNat ls rest))
    (k2 : ¬ (k.toInt < low ∨ k.toInt > high) → ∀ off, offsets[(k.toInt - low).toNat]? = some off → W p l e R s m args below meth c H locs cells slots Q (F0 m ((pc : Int) + off).toNat ls rest)) : W p l e R s m args below meth c H locs cells slots Q (F0 m pc ls (.int k :: rest)) := by
  intro T hT X
  by_cases hin : k.toInt < low ∨ k.toInt > high
  · obtain ⟨t, a, b⟩ := k1 hin T hT X
    refine ⟨t, ?_, b⟩
    jvm_step X.here [X.here.top, hexec, hb, hdg, tableswitch.wp_sem, hin]
    intro acts
    rw [afterInstr_branch e len (F0 m pc ls rest) acts default X.here.top hd]; exact a
  · have hj := hsz k.toInt (by omega) (by omega)
    obtain ⟨off, hoff⟩ : ∃ off, offsets[(k.toInt - low).toNat]? = some off := ⟨_, Array.getElem?_eq_getElem hj⟩
    obtain ⟨t, a, b⟩ := k2 hin off hoff T hT X
    refine ⟨t, ?_, b⟩
    jvm_step X.here [X.here.top, hexec, hb, hdg, tableswitch.wp_sem, hin, hoff]
    intro acts
    rw [afterInstr_branch e len (F0 m pc ls rest) acts off X.here.top (ho off (by
      have := Array.mem_of_getElem? hoff
      exact Array.mem_def.mp this))]; exact a
theorem w_lcmp (hexec : p.tables.exec = Jvm.exec) (hb : c.code = cc) {x y : Int64} (hdg : decode cc pc = .ok (.lcmp, 1)) (hxy : x = y) (k : W p l e R s m args below meth c H locs cells slots Q (F0 m (pc + 1) ls (.int 0 :: rest))) : W p l e R s m args below meth c H locs cells slots Q (F0 m pc ls (.long y :: .long x :: rest)) := by
  subst hxy
  intro T hT X
  obtain ⟨t, a, b⟩ := k T hT X
  refine ⟨t, ?_, b⟩
  jvm_step X.here [X.here.top, hexec, hb, hdg, lcmp.wp_sem]
  exact a
end R2
section X2
variable {κ : KX} {own nm : String} {cc : ByteArray} {Ts : List Cond} {R' : Room} {D : va_G} {A : Nat → Prop} {nL n1 n2 : Nat} {h : vh} {ls : List (Nat × Value)} {pc : Nat} {st : List Value}
theorem x_lcmp (C : CX κ own nm cc Ts R' D A nL) {x y : Int64} (d : decode cc pc = .ok (.lcmp, 1)) (hxy : x = y) (kk : X κ n1 n2 h ls (pc + 1) (vI 0 :: st)) : X κ n1 n2 h ls pc (.long y :: .long x :: st) := by
  obtain ⟨p, l, e, R, s, m, args, below, meth, c, Q, D0, A0, nL0⟩ := κ
  obtain ⟨hx, hb, hml, ho, hts, hlk, hnm, hE, rfl, rfl, rfl, rfl⟩ := C
  exact fun H locs la hS hP hl => w_lcmp hx hb d hxy (kk H locs la hS hP hl)
theorem x_tsw (C : CX κ own nm cc Ts R' D A nL) {k : Int} {default low high : Int} {offsets : Array Int} {len : Nat} (d : decode cc pc = .ok (.tableswitch default low high offsets, len)) (hk : -2147483648 ≤ k ∧ k ≤ 2147483647)
    (hd : 0 ≤ (pc : Int) + default) (ho : ∀ off ∈ offsets.toList, 0 ≤ (pc : Int) + off) (hsz : ∀ j : Int, low ≤ j → j ≤ high → (j - low).toNat < offsets.size)
    (k1 : (k < low ∨ k > high) → X κ n1 n2 h ls ((pc : Int) + default).toNat st) (k2 : ¬ (k < low ∨ k > high) → ∀ off, offsets[(k - low).toNat]? = some off → X κ n1 n2 h ls ((pc : Int) + off).toNat st) : X κ n1 n2 h ls pc (vI k :: st) := by
  obtain ⟨p, l, e, R, s, m, args, below, meth, c, Q, D0, A0, nL0⟩ := κ
  obtain ⟨hx, hb, hml, hown, hts, hlk, hnm, hE, rfl, rfl, rfl, rfl⟩ := C
  have e1 := iI_toInt hk.1 hk.2
  exact fun H locs la hS hP hl => w_tsw hx hb d hd ho hsz (fun q => k1 (by rw [e1] at q; exact q) H locs la hS hP hl) (fun q off h9 => k2 (by rw [e1] at q; exact q) off (by rw [e1] at h9; exact h9) H locs la hS hP hl)
end X2

/-- two addresses are apart (kept out of the sight of arithmetic) -/
def nq (a b : Nat) : Prop := a ≠ b
section XM
variable {κ : KX} {own nm : String} {cc : ByteArray} {Ts : List Cond} {R' : Room} {D : va_G} {A : Nat → Prop} {nL n1 n2 : Nat} {h : vh} {ls : List (Nat × Value)} {pc : Nat} {st : List Value}
theorem x_hn (kk : ∀ h1 : vh, h1 = h → X κ n1 n2 h1 ls pc st) : X κ n1 n2 h ls pc st := kk h rfl
theorem x_topi {z : Int} (kk : ∀ y : Int, y = z → X κ n1 n2 h ls pc (vI y :: st)) : X κ n1 n2 h ls pc (vI z :: st) := kk z rfl
theorem x_iorv (C : CX κ own nm cc Ts R' D A nL) {x y : Int32} (z : Int) (hz : x ||| y = iI z) (d : decode cc pc = .ok (.ior, 1)) (kk : X κ n1 n2 h ls (pc + 1) (vI z :: st)) : X κ n1 n2 h ls pc (.int y :: .int x :: st) := by
  obtain ⟨p, l, e, R, s, m, args, below, meth, c, Q, D0, A0, nL0⟩ := κ
  obtain ⟨hx, hb, hml, ho, hts, hlk, hnm, hE, rfl, rfl, rfl, rfl⟩ := C
  exact fun H locs la hS hP hl => lv_ior hx hb d (by rw [hz]; exact kk H locs la hS hP hl)
theorem x_ixorv (C : CX κ own nm cc Ts R' D A nL) {x y : Int32} (z : Int) (hz : x ^^^ y = iI z) (d : decode cc pc = .ok (.ixor, 1)) (kk : X κ n1 n2 h ls (pc + 1) (vI z :: st)) : X κ n1 n2 h ls pc (.int y :: .int x :: st) := by
  obtain ⟨p, l, e, R, s, m, args, below, meth, c, Q, D0, A0, nL0⟩ := κ
  obtain ⟨hx, hb, hml, ho, hts, hlk, hnm, hE, rfl, rfl, rfl, rfl⟩ := C
  exact fun H locs la hS hP hl => lv_ixor hx hb d (by rw [hz]; exact kk H locs la hS hP hl)
theorem x_iandv (C : CX κ own nm cc Ts R' D A nL) {x y : Int32} (z : Int) (hz : x &&& y = iI z) (d : decode cc pc = .ok (.iand, 1)) (kk : X κ n1 n2 h ls (pc + 1) (vI z :: st)) : X κ n1 n2 h ls pc (.int y :: .int x :: st) := by
  obtain ⟨p, l, e, R, s, m, args, below, meth, c, Q, D0, A0, nL0⟩ := κ
  obtain ⟨hx, hb, hml, ho, hts, hlk, hnm, hE, rfl, rfl, rfl, rfl⟩ := C
  exact fun H locs la hS hP hl => lv_iand hx hb d (by rw [hz]; exact kk H locs la hS hP hl)
theorem x_ishlv (C : CX κ own nm cc Ts R' D A nL) {x y : Int32} (z : Int) (hz : x <<< (y &&& 31) = iI z) (d : decode cc pc = .ok (.ishl, 1)) (kk : X κ n1 n2 h ls (pc + 1) (vI z :: st)) : X κ n1 n2 h ls pc (.int y :: .int x :: st) := by
  obtain ⟨p, l, e, R, s, m, args, below, meth, c, Q, D0, A0, nL0⟩ := κ
  obtain ⟨hx, hb, hml, ho, hts, hlk, hnm, hE, rfl, rfl, rfl, rfl⟩ := C
  exact fun H locs la hS hP hl => lv_ishl hx hb d (by rw [hz]; exact kk H locs la hS hP hl)
theorem x_ishrv (C : CX κ own nm cc Ts R' D A nL) {x y : Int32} (z : Int) (hz : x >>> (y &&& 31) = iI z) (d : decode cc pc = .ok (.ishr, 1)) (kk : X κ n1 n2 h ls (pc + 1) (vI z :: st)) : X κ n1 n2 h ls pc (.int y :: .int x :: st) := by
  obtain ⟨p, l, e, R, s, m, args, below, meth, c, Q, D0, A0, nL0⟩ := κ
  obtain ⟨hx, hb, hml, ho, hts, hlk, hnm, hE, rfl, rfl, rfl, rfl⟩ := C
  exact fun H locs la hS hP hl => lv_ishr hx hb d (by rw [hz]; exact kk H locs la hS hP hl)
end XM
noncomputable def bI (p : Prop) : Int := @ite Int p (Classical.propDecidable p) 1 0
theorem bI_t {p : Prop} (h : p) : bI p = 1 := if_pos h
theorem bI_f {p : Prop} (h : ¬ p) : bI p = 0 := if_neg h
theorem bI_01 (p : Prop) : bI p = 0 ∨ bI p = 1 := by
  by_cases h : p
  · exact Or.inr (bI_t h)
  · exact Or.inl (bI_f h)
theorem bI_ne {p : Prop} : bI p ≠ 0 ↔ p := by
  by_cases h : p
  · rw [bI_t h]; exact ⟨fun _ => h, fun _ => by decide⟩
  · rw [bI_f h]; exact ⟨fun z => absurd rfl z, fun z => absurd z h⟩
theorem bI_r (p : Prop) : -2147483648 ≤ bI p ∧ bI p ≤ 2147483647 := by rcases bI_01 p with h | h <;> rw [h] <;> decide
theorem bI_z (p : Prop) : iI (bI p) = iI 0 ∨ iI (bI p) = iI 1 := by rcases bI_01 p with h | h <;> rw [h] <;> simp
/-- what kind of thing a cell holds, how long it is -/
def vtag : va_E → Nat × Nat
  | .inl (_, n, .inl _) => (0, n)
  | .inl (_, n, .inr (.inl _)) => (1, n)
  | .inl (_, n, .inr (.inr _)) => (2, n)
  | .inr (ci, _) => (3, ci)
theorem vnt {h : vh} {a b : Nat} {x y : va_E} {p q : Nat × Nat} (ha : h a = some x) (hb : h b = some y) (tx : vtag x = p) (ty : vtag y = q) (n : p ≠ q) : a ≠ b := vne ha hb (fun e => n (by rw [← tx, ← ty, e]))
theorem viz {h : vh} {D : va_G} {a b n k : Nat} {f g : Nat → Int} (ha : h a = some (eI D n f)) (hb : h b = some (eZ D k g)) (hiz : D.1 20 ≠ D.1 21) : a ≠ b := vne ha hb (fun e => hiz (by injection e with e; injection e))
theorem cx_iz {κ : KX} {own nm : String} {cc : ByteArray} {Ts : List Cond} {R' : Room} {D : va_G} {A : Nat → Prop} {nL : Nat} (C : CX κ own nm cc Ts R' D A nL) : D.1 20 ≠ D.1 21 := by
  obtain ⟨p, l, e, R, s, m, args, below, meth, c, Q, D0, A0, nL0⟩ := κ
  obtain ⟨hx, hb, hml, ho, hts, hlk, hnm, hE, rfl, rfl, rfl, rfl⟩ := C
  intro hq
  have h1 := (hE.2.1.2 0 _ rfl).1 0 (fun _ => .int 0)
  have h2 := (hE.2.1.2 1 _ rfl).1 0 (fun _ => .int 0)
  obtain ⟨-, k1, g1, c1, t1⟩ := h1
  obtain ⟨-, k2, g2, c2, t2⟩ := h2
  have g3 : s.vm.classes[D0.1 20]? = some k1 := g1
  have g4 : s.vm.classes[D0.1 21]? = some k2 := g2
  rw [← hq, g3] at g4
  cases g4
  rw [t1] at t2
  cases t2

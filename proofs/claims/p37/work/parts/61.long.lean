/-! ===== longs: rows; words of 64 bits by their bits ===== -/
def lsl (x : Int64) (k : Int) : Int64 := x <<< ((iI k).toInt64 &&& 63)
def lsr (x : Int64) (k : Int) : Int64 := x >>> ((iI k).toInt64 &&& 63)
section XL
variable {κ : KX} {own nm : String} {cc : ByteArray} {Ts : List Cond} {R' : Room} {D : va_G} {A : Nat → Prop} {nL n1 n2 : Nat} {h : vh} {ls : List (Nat × Value)} {pc : Nat} {st : List Value}
theorem x_lconst (C : CX κ own nm cc Ts R' D A nL) {n : Fin 2} {v : Int64} (d : decode cc pc = .ok (.lconst n, 1)) (hv : Int64.ofNat (n : Nat) = v) (kk : X κ n1 n2 h ls (pc + 1) (.long v :: st)) : X κ n1 n2 h ls pc st := by
  obtain ⟨p, l, e, R, s, m, args, below, meth, c, Q, D0, A0, nL0⟩ := κ
  obtain ⟨hx, hb, hml, ho, hts, hlk, hnm, hE, rfl, rfl, rfl, rfl⟩ := C
  exact fun H locs la hS hP hl => lv_lconst hx hb d hv (kk H locs la hS hP hl)
theorem x_ldc2 (C : CX κ own nm cc Ts R' D A nL) {index : Nat} {v : Int64} (hk : Cond.constantLong own index v ∈ Ts) (d : decode cc pc = .ok (.ldc2_w index, 3)) (kk : X κ n1 n2 h ls (pc + 3) (.long v :: st)) : X κ n1 n2 h ls pc st := by
  obtain ⟨p, l, e, R, s, m, args, below, meth, c, Q, D0, A0, nL0⟩ := κ
  obtain ⟨hx, hb, hml, ho, hts, hlk, hnm, hE, rfl, rfl, rfl, rfl⟩ := C
  exact fun H locs la hS hP hl => lv_ldc2 hx hb ho (hts _ hk) d (kk H locs la hS hP hl)
theorem x_ldcI (C : CX κ own nm cc Ts R' D A nL) {index : Nat} {v : Int32} {z : Int} (hv : v = iI z) (hk : Cond.constant own index v ∈ Ts) (d : decode cc pc = .ok (.ldc index, 2)) (kk : X κ n1 n2 h ls (pc + 2) (vI z :: st)) : X κ n1 n2 h ls pc st := by
  subst hv
  obtain ⟨p, l, e, R, s, m, args, below, meth, c, Q, D0, A0, nL0⟩ := κ
  obtain ⟨hx, hb, hml, ho, hts, hlk, hnm, hE, rfl, rfl, rfl, rfl⟩ := C
  exact fun H locs la hS hP hl => lv_ldc hx hb ho (hts _ hk) d (kk H locs la hS hP hl)
theorem x_land (C : CX κ own nm cc Ts R' D A nL) {x y : Int64} (d : decode cc pc = .ok (.land, 1)) (kk : X κ n1 n2 h ls (pc + 1) (.long (x &&& y) :: st)) : X κ n1 n2 h ls pc (.long y :: .long x :: st) := by
  obtain ⟨p, l, e, R, s, m, args, below, meth, c, Q, D0, A0, nL0⟩ := κ
  obtain ⟨hx, hb, hml, ho, hts, hlk, hnm, hE, rfl, rfl, rfl, rfl⟩ := C
  exact fun H locs la hS hP hl => lv_land hx hb d (kk H locs la hS hP hl)
theorem x_lor (C : CX κ own nm cc Ts R' D A nL) {x y : Int64} (d : decode cc pc = .ok (.lor, 1)) (kk : X κ n1 n2 h ls (pc + 1) (.long (x ||| y) :: st)) : X κ n1 n2 h ls pc (.long y :: .long x :: st) := by
  obtain ⟨p, l, e, R, s, m, args, below, meth, c, Q, D0, A0, nL0⟩ := κ
  obtain ⟨hx, hb, hml, ho, hts, hlk, hnm, hE, rfl, rfl, rfl, rfl⟩ := C
  exact fun H locs la hS hP hl => lv_lor hx hb d (kk H locs la hS hP hl)
theorem x_lxor (C : CX κ own nm cc Ts R' D A nL) {x y : Int64} (d : decode cc pc = .ok (.lxor, 1)) (kk : X κ n1 n2 h ls (pc + 1) (.long (x ^^^ y) :: st)) : X κ n1 n2 h ls pc (.long y :: .long x :: st) := by
  obtain ⟨p, l, e, R, s, m, args, below, meth, c, Q, D0, A0, nL0⟩ := κ
  obtain ⟨hx, hb, hml, ho, hts, hlk, hnm, hE, rfl, rfl, rfl, rfl⟩ := C
  exact fun H locs la hS hP hl => lv_lxor hx hb d (kk H locs la hS hP hl)
theorem x_lshl (C : CX κ own nm cc Ts R' D A nL) {x : Int64} {k : Int} (d : decode cc pc = .ok (.lshl, 1)) (kk : X κ n1 n2 h ls (pc + 1) (.long (lsl x k) :: st)) : X κ n1 n2 h ls pc (vI k :: .long x :: st) := by
  obtain ⟨p, l, e, R, s, m, args, below, meth, c, Q, D0, A0, nL0⟩ := κ
  obtain ⟨hx, hb, hml, ho, hts, hlk, hnm, hE, rfl, rfl, rfl, rfl⟩ := C
  exact fun H locs la hS hP hl => lv_lshl hx hb d rfl (kk H locs la hS hP hl)
theorem x_lshr (C : CX κ own nm cc Ts R' D A nL) {x : Int64} {k : Int} (d : decode cc pc = .ok (.lshr, 1)) (kk : X κ n1 n2 h ls (pc + 1) (.long (lsr x k) :: st)) : X κ n1 n2 h ls pc (vI k :: .long x :: st) := by
  obtain ⟨p, l, e, R, s, m, args, below, meth, c, Q, D0, A0, nL0⟩ := κ
  obtain ⟨hx, hb, hml, ho, hts, hlk, hnm, hE, rfl, rfl, rfl, rfl⟩ := C
  exact fun H locs la hS hP hl => lv_lshr hx hb d rfl (kk H locs la hS hP hl)
theorem x_l2i (C : CX κ own nm cc Ts R' D A nL) {x : Int64} (z : Int) (hz : x.toInt32 = iI z) (d : decode cc pc = .ok (.l2i, 1)) (kk : X κ n1 n2 h ls (pc + 1) (vI z :: st)) : X κ n1 n2 h ls pc (.long x :: st) := by
  obtain ⟨p, l, e, R, s, m, args, below, meth, c, Q, D0, A0, nL0⟩ := κ
  obtain ⟨hx, hb, hml, ho, hts, hlk, hnm, hE, rfl, rfl, rfl, rfl⟩ := C
  exact fun H locs la hS hP hl => lv_l2i hx hb d hz (kk H locs la hS hP hl)
theorem x_lcmp_ne (C : CX κ own nm cc Ts R' D A nL) {x y : Int64} {off : Int} {tgt : Nat} (d : decode cc pc = .ok (.lcmp, 1)) (d2 : decode cc (pc + 1) = .ok (.ifCond .ne off, 3)) (ht : ((pc + 1 : Nat) : Int) + off = (tgt : Int)) (kt : ¬ x = y → X κ n1 n2 h ls tgt st) (kf : x = y → X κ n1 n2 h ls (pc + 1 + 3) st) : X κ n1 n2 h ls pc (.long y :: .long x :: st) := by
  obtain ⟨p, l, e, R, s, m, args, below, meth, c, Q, D0, A0, nL0⟩ := κ
  obtain ⟨hx, hb, hml, ho, hts, hlk, hnm, hE, rfl, rfl, rfl, rfl⟩ := C
  exact fun H locs la hS hP hl => W.lcmp hx hb d (lv_if_ne hx hb d2 ht (fun q => kt (fun z => q ((lg_cmp_eq x y).mpr z)) H locs la hS hP hl) (fun q => kf ((lg_cmp_eq x y).mp q) H locs la hS hP hl))
theorem x_lcmp_eq (C : CX κ own nm cc Ts R' D A nL) {x y : Int64} {off : Int} {tgt : Nat} (d : decode cc pc = .ok (.lcmp, 1)) (d2 : decode cc (pc + 1) = .ok (.ifCond .eq off, 3)) (ht : ((pc + 1 : Nat) : Int) + off = (tgt : Int)) (kt : x = y → X κ n1 n2 h ls tgt st) (kf : ¬ x = y → X κ n1 n2 h ls (pc + 1 + 3) st) : X κ n1 n2 h ls pc (.long y :: .long x :: st) := by
  obtain ⟨p, l, e, R, s, m, args, below, meth, c, Q, D0, A0, nL0⟩ := κ
  obtain ⟨hx, hb, hml, ho, hts, hlk, hnm, hE, rfl, rfl, rfl, rfl⟩ := C
  exact fun H locs la hS hP hl => W.lcmp hx hb d (lv_if_eq hx hb d2 ht (fun q => kt ((lg_cmp_eq x y).mp q) H locs la hS hP hl) (fun q => kf (fun z => q ((lg_cmp_eq x y).mpr z)) H locs la hS hP hl))
theorem x_lload (C : CX κ own nm cc Ts R' D A nL) {k : Nat} {x : Int64} (d : decode cc pc = .ok (.lload k, 2)) (j : Nat) (hj : ls[j]? = some (k, .long x)) (kk : X κ n1 n2 h ls (pc + 2) (.long x :: st)) : X κ n1 n2 h ls pc (st) := by
  obtain ⟨p, l, e, R, s, m, args, below, meth, c, Q, D0, A0, nL0⟩ := κ
  obtain ⟨hx, hb, hml, ho, hts, hlk, hnm, hE, rfl, rfl, rfl, rfl⟩ := C
  exact fun H locs la hS hP hl => lv_lload hx hb d (lv_at hl j hj) (kk H locs la hS hP hl)
theorem x_lstore (C : CX κ own nm cc Ts R' D A nL) {k : Nat} {x : Int64} {ls' : List (Nat × Value)} (d : decode cc pc = .ok (.lstore k, 2)) (hn : k + 1 < nL) (hl' : (k, Value.long x) :: ls.filter (fun q => !(q.1 == k) && (!(q.1 == k + 1) && !(q.1 + 1 == k && q.2.category == 2))) = ls') (kk : X κ n1 n2 h ls' (pc + 2) st) : X κ n1 n2 h ls pc (.long x :: st) := by
  obtain ⟨p, l, e, R, s, m, args, below, meth, c, Q, D0, A0, nL0⟩ := κ
  obtain ⟨hx, hb, hml, ho, hts, hlk, hnm, hE, rfl, rfl, rfl, rfl⟩ := C
  exact fun H locs la hS hP hl => lv_lstore hx hb d hl hn hl' (fun la' hl2 => kk H locs la' hS hP hl2)
theorem x_topl {x : Int64} (kk : ∀ y : Int64, y = x → X κ n1 n2 h ls pc (.long y :: st)) : X κ n1 n2 h ls pc (.long x :: st) := kk x rfl
end XL
/-! bits of a word -/
def lb (x : Int64) (i : Nat) : Bool := x.toBitVec.getLsbD i
theorem lb_ext {x y : Int64} (h : ∀ i, i < 64 → lb x i = lb y i) : x = y := by
  apply Int64.toBitVec_inj.mp
  exact BitVec.eq_of_getLsbD_eq h
theorem lb_and {x y : Int64} {i : Nat} : lb (x &&& y) i = (lb x i && lb y i) := by
  unfold lb; rw [Int64.toBitVec_and, BitVec.getLsbD_and]
theorem lb_or {x y : Int64} {i : Nat} : lb (x ||| y) i = (lb x i || lb y i) := by
  unfold lb; rw [Int64.toBitVec_or, BitVec.getLsbD_or]
theorem lb_m1 {i : Nat} (h : i < 64) : lb (-1) i = true := by
  unfold lb
  rw [show (-1 : Int64).toBitVec = BitVec.allOnes 64 from by decide, BitVec.getLsbD_allOnes]
  exact decide_eq_true h
theorem lb_not {x : Int64} {i : Nat} (h : i < 64) : lb (x ^^^ (-1)) i = !lb x i := by
  have h1 := lb_m1 h
  unfold lb at h1 ⊢
  rw [Int64.toBitVec_xor, BitVec.getLsbD_xor, h1, Bool.xor_true]
theorem lb_0 {i : Nat} : lb 0 i = false := by
  unfold lb
  rw [show (0 : Int64).toBitVec = 0#64 from rfl, BitVec.getLsbD_zero]
theorem lb_ge {x : Int64} {i : Nat} (h : 64 ≤ i) : lb x i = false := BitVec.getLsbD_of_ge _ _ h
theorem sh_e (k : Nat) (h : k < 64) : (((iI (k : Int)).toInt64 &&& 63).toBitVec.smod 64).toNat = k := by
  have e : ∀ k : Fin 64, (((iI ((k : Nat) : Int)).toInt64 &&& 63).toBitVec.smod 64).toNat = k := by decide
  exact e ⟨k, h⟩
theorem lb_lsl {x : Int64} {k i : Nat} (hk : k < 64) : lb (lsl x (k : Int)) i = (decide (i < 64) && !decide (i < k) && lb x (i - k)) := by
  unfold lb lsl
  rw [Int64.toBitVec_shiftLeft, BitVec.shiftLeft_eq', sh_e k hk, BitVec.getLsbD_shiftLeft]
theorem lb_lsr {x : Int64} {k i : Nat} (hk : i + k < 64) : lb (lsr x (k : Int)) i = lb x (i + k) := by
  unfold lb lsr
  rw [Int64.toBitVec_shiftRight, BitVec.sshiftRight_eq', sh_e k (by omega), BitVec.getLsbD_sshiftRight]
  rw [if_pos (by omega), Nat.add_comm]
  simp [show ¬ 64 ≤ i by omega]
theorem lb_1 {i : Nat} : lb 1 i = decide (i = 0) := by
  unfold lb
  rw [show (1 : Int64).toBitVec = 1#64 from rfl, BitVec.getLsbD_one]
  simp
theorem lb_bit {k i : Nat} (hk : k < 64) : lb (lsl 1 (k : Int)) i = decide (i = k) := by
  rw [lb_lsl hk, lb_1]
  by_cases q : i = k
  · subst q; simp [hk]
  · by_cases r : i < k
    · simp [q, r]
    · simp [q, show ¬ i - k = 0 by omega]
theorem lb_set {x : Int64} {k i : Nat} (hk : k < 64) : lb (x ||| lsl 1 (k : Int)) i = true ↔ lb x i = true ∨ i = k := by
  rw [lb_or, lb_bit hk, Bool.or_eq_true, decide_eq_true_eq]
/-- a bit out of a word -/
theorem lb_get {x : Int64} {k : Nat} (hk : k < 64) : lsr x (k : Int) &&& 1 = if lb x k = true then 1 else 0 := by
  apply lb_ext
  intro i hi
  rw [lb_and, lb_1]
  by_cases q : i = 0
  · subst q
    rw [lb_lsr (by omega), Nat.zero_add]
    cases hx : lb x k <;> simp [lb_1, lb_0]
  · simp only [q, decide_false, Bool.and_false]
    split
    · rw [lb_1]; simp [q]
    · rw [lb_0]
/-! sixteen cells in a word -/
def nb (x : Int64) (j : Nat) : Nat := x.toBitVec.toNat / 2 ^ (4 * j) % 16
theorem nb_lt {x : Int64} {j : Nat} : nb x j < 16 := Nat.mod_lt _ (by decide)
theorem nb_tb {x : Int64} {j i : Nat} (hi : i < 4) : (nb x j).testBit i = lb x (4 * j + i) := by
  unfold nb lb
  rw [show (16 : Nat) = 2 ^ 4 from rfl, Nat.testBit_mod_two_pow, Nat.testBit_div_two_pow, decide_eq_true hi, Bool.true_and, Nat.add_comm]
  rfl
theorem nb_ext {a b : Nat} (ha : a < 16) (hb : b < 16) (h : ∀ i, i < 4 → a.testBit i = b.testBit i) : a = b := by
  apply Nat.eq_of_testBit_eq
  intro i
  by_cases q : i < 4
  · exact h i q
  · have e : ∀ n : Nat, n < 16 → n.testBit i = false := fun n hn => Nat.testBit_lt_two_pow (Nat.lt_of_lt_of_le hn (show 2 ^ 4 ≤ 2 ^ i from Nat.pow_le_pow_right (by decide) (by omega)))
    rw [e a ha, e b hb]
theorem nb_get {x : Int64} {j : Nat} (hj : j < 16) : (lsr x ((4 * j : Nat) : Int) &&& 15).toInt32 = iI ((nb x j : Nat) : Int) := by
  apply Int32.toBitVec_inj.mp
  apply BitVec.eq_of_getLsbD_eq
  intro i hi
  rw [Int64.toBitVec_toInt32, BitVec.getLsbD_signExtend, iI_tB, BitVec.getLsbD_ofNat, decide_eq_true hi, Bool.true_and, Bool.true_and, if_pos (show i < 64 by omega)]
  have e := lb_and (x := lsr x ((4 * j : Nat) : Int)) (y := 15) (i := i)
  unfold lb at e
  rw [e]
  by_cases q : i < 4
  · have h15 : (15 : Int64).toBitVec.getLsbD i = true := by
      have : ∀ i : Fin 4, (15 : Int64).toBitVec.getLsbD i = true := by decide
      exact this ⟨i, q⟩
    have h2 := lb_lsr (x := x) (k := 4 * j) (i := i) (by omega)
    unfold lb at h2
    rw [h15, h2, nb_tb q, Nat.add_comm]
    simp [lb, hi]
  · have h15 : (15 : Int64).toBitVec.getLsbD i = false := by
      have : ∀ i : Fin 32, 4 ≤ (i : Nat) → (15 : Int64).toBitVec.getLsbD i = false := by decide
      exact this ⟨i, hi⟩ (Nat.le_of_not_lt q)
    have h3 : (nb x j).testBit i = false := Nat.testBit_lt_two_pow (Nat.lt_of_lt_of_le nb_lt (show 2 ^ 4 ≤ 2 ^ i from Nat.pow_le_pow_right (by decide) (by omega)))
    rw [h15, h3]
    simp
theorem lb_nat {k i : Nat} (hk : k < 16) : lb (iI ((k : Nat) : Int)).toInt64 i = k.testBit i := by
  have e : (iI ((k : Nat) : Int)).toInt64 = Int64.ofNat k := by
    have : ∀ k : Fin 16, (iI (((k : Nat) : Nat) : Int)).toInt64 = Int64.ofNat (k : Nat) := by decide
    exact this ⟨k, hk⟩
  rw [e]
  unfold lb
  rw [show (Int64.ofNat k).toBitVec = BitVec.ofNat 64 k from rfl, BitVec.getLsbD_ofNat]
  by_cases q : i < 64
  · simp [q]
  · rw [Nat.testBit_lt_two_pow (Nat.lt_of_lt_of_le hk (show 2 ^ 4 ≤ 2 ^ i from Nat.pow_le_pow_right (by decide) (by omega)))]
    simp
def putL (x : Int64) (j k : Nat) : Int64 := x &&& (lsl 15 ((4 * j : Nat) : Int) ^^^ (-1)) ||| lsl (iI ((k : Nat) : Int)).toInt64 ((4 * j : Nat) : Int)
theorem nb_put {x : Int64} {j k j' : Nat} (hj : j < 16) (hj' : j' < 16) (hk : k < 16) : nb (putL x j k) j' = if j' = j then k else nb x j' := by
  have h15 : ∀ i, lb 15 i = decide (i < 4) := fun i => by
    by_cases q : i < 64
    · have : ∀ i : Fin 64, lb 15 (i : Nat) = decide ((i : Nat) < 4) := by decide
      exact this ⟨i, q⟩
    · rw [lb_ge (by omega), decide_eq_false (by omega)]
  apply nb_ext nb_lt (by split; exact hk; exact nb_lt)
  intro i hi
  rw [nb_tb hi]
  unfold putL
  rw [lb_or, lb_and, lb_not (by omega), lb_lsl (by omega), lb_lsl (by omega), h15, lb_nat hk]
  by_cases q : j' = j
  · subst q
    rw [if_pos rfl, show 4 * j' + i - 4 * j' = i by omega]
    simp [hi, show 4 * j' + i < 64 by omega, show ¬ 4 * j' + i < 4 * j' by omega]
  · rw [if_neg q, nb_tb hi]
    by_cases r : 4 * j' + i < 4 * j
    · simp [r]
    · have hb : k.testBit (4 * j' + i - 4 * j) = false := Nat.testBit_lt_two_pow (Nat.lt_of_lt_of_le hk (show 2 ^ 4 ≤ 2 ^ (4 * j' + i - 4 * j) from Nat.pow_le_pow_right (by decide) (by omega)))
      simp [r, hb, show ¬ 4 * j' + i - 4 * j < 4 by omega]
/-- the kind of the cell z of the grid that begins at the place o -/
def gk (g : Nat → Int64) (o : Nat) : Nat → Int := fun z => if z < 96 then ((nb (g (o + z / 16)) (z % 16) : Nat) : Int) else 0

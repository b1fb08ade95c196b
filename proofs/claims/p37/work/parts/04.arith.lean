/-! ===== whole numbers in 32 bits by the integer that they stand for ===== -/
def iI (z : Int) : Int32 := Int32.ofInt z
abbrev vI (z : Int) : Value := .int (iI z)
theorem iI_add (a b : Int) : iI a + iI b = iI (a + b) := (Int32.ofInt_add a b).symm
theorem iI_sub (a b : Int) : iI a - iI b = iI (a - b) := by
  unfold iI
  rw [Int.sub_eq_add_neg, Int32.ofInt_add, Int32.ofInt_neg, Int32.sub_eq_add_neg]
theorem iI_neg (a : Int) : - iI a = iI (-a) := (Int32.ofInt_neg a).symm
theorem iI_mul (a b : Int) : iI a * iI b = iI (a * b) := (Int32.ofInt_mul a b).symm
theorem iI_toInt {z : Int} (h1 : -2147483648 ≤ z) (h2 : z ≤ 2147483647) : (iI z).toInt = z := Int32.toInt_ofInt_of_le (by omega) (by omega)
theorem iI_nat (n : Nat) : iI (n : Int) = nI n := Int32.ofInt_eq_ofNat
theorem iI_of (x : Int32) : ∃ z : Int, -2147483648 ≤ z ∧ z ≤ 2147483647 ∧ x = iI z := by
  refine ⟨x.toInt, ?_, ?_, ?_⟩
  · have := Int32.le_toInt x; omega
  · have := Int32.toInt_lt x; omega
  · exact (Int32.ofInt_toInt x).symm
theorem iI_lt {a b : Int} (h1 : -2147483648 ≤ a ∧ a ≤ 2147483647) (h2 : -2147483648 ≤ b ∧ b ≤ 2147483647) : iI a < iI b ↔ a < b := by
  rw [Int32.lt_iff_toInt_lt, iI_toInt h1.1 h1.2, iI_toInt h2.1 h2.2]
theorem iI_le {a b : Int} (h1 : -2147483648 ≤ a ∧ a ≤ 2147483647) (h2 : -2147483648 ≤ b ∧ b ≤ 2147483647) : iI a ≤ iI b ↔ a ≤ b := by
  rw [Int32.le_iff_toInt_le, iI_toInt h1.1 h1.2, iI_toInt h2.1 h2.2]
theorem iI_eq {a b : Int} (h1 : -2147483648 ≤ a ∧ a ≤ 2147483647) (h2 : -2147483648 ≤ b ∧ b ≤ 2147483647) : iI a = iI b ↔ a = b := by
  rw [← Int32.toInt_inj, iI_toInt h1.1 h1.2, iI_toInt h2.1 h2.2]
theorem iI_0 : (0 : Int32) = iI 0 := rfl
theorem iI_clamp {z : Int} (h0 : 0 ≤ z) (h2 : z ≤ 2147483647) : (iI z).toNatClampNeg = z.toNat := by
  rw [← Int32.toNat_toInt, iI_toInt (by omega) h2]
theorem iI_in {z : Int} {n : Nat} (h0 : 0 ≤ z) (h1 : z < n) (hn : n ≤ 2147483647) : vp_in (iI z) n := by
  refine vp_in_iff.mpr ?_
  rw [iI_toInt (by omega) (by omega)]
  exact ⟨h0, h1⟩
theorem iI_div {a d : Int} (h0 : 0 ≤ a) (h1 : a ≤ 2147483647) (hd : 0 < d) (hd2 : d ≤ 2147483647) : iI a / iI d = iI (a / d) := by
  obtain ⟨n, rfl⟩ := Int.eq_ofNat_of_zero_le h0
  obtain ⟨k, rfl⟩ := Int.eq_ofNat_of_zero_le (Int.le_of_lt hd)
  rw [iI_nat, iI_nat, pk_div (by omega) (by omega) (by omega), ← iI_nat]
  rfl
theorem iI_rem {a d : Int} (h0 : 0 ≤ a) (h1 : a ≤ 2147483647) (hd : 0 < d) (hd2 : d ≤ 2147483647) : iI a - iI a / iI d * iI d = iI (a % d) := by
  rw [iI_div h0 h1 hd hd2, iI_mul, iI_sub]
  congr 1
  rw [Int.emod_def, Int.mul_comm]
theorem iI_ne {d : Int} (h0 : 0 < d) (h1 : d ≤ 2147483647) : ¬ iI d = 0 := by
  rw [iI_0, iI_eq (by omega) (by omega)]
  omega
theorem iI_tB (n : Nat) : (iI (n : Int)).toBitVec = BitVec.ofNat 32 n := by rw [iI_nat]; rfl
theorem iI_or (a b : Nat) : iI (a : Int) ||| iI (b : Int) = iI ((a ||| b : Nat) : Int) := by
  apply Int32.toBitVec_inj.mp
  rw [Int32.toBitVec_or, iI_tB, iI_tB, iI_tB, BitVec.ofNat_or]
theorem iI_xor (a b : Nat) : iI (a : Int) ^^^ iI (b : Int) = iI ((a ^^^ b : Nat) : Int) := by
  apply Int32.toBitVec_inj.mp
  rw [Int32.toBitVec_xor, iI_tB, iI_tB, iI_tB, BitVec.ofNat_xor]
theorem iI_and (a b : Nat) : iI (a : Int) &&& iI (b : Int) = iI ((a &&& b : Nat) : Int) := by
  apply Int32.toBitVec_inj.mp
  rw [Int32.toBitVec_and, iI_tB, iI_tB, iI_tB, BitVec.ofNat_and]

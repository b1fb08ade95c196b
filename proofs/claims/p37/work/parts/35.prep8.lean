/-! ===== the reference's cells: the object am 0 0, its rows am k 0 by the field's number; m k 0 are their numbers, m 0 0 those of the object ===== -/
def lm (k i : Nat) : Prop := k < 38 ∧ i = 0 ∧ k ≠ 2 ∧ k ≠ 14 ∧ ¬ (30 ≤ k ∧ k ≤ 34)
theorem lm0 {k : Nat} (h : k < 38 ∧ k ≠ 2 ∧ k ≠ 14 ∧ ¬ (30 ≤ k ∧ k ≤ 34)) : lm k 0 := ⟨h.1, rfl, h.2.1, h.2.2.1, h.2.2.2⟩
def entM (D : va_G) (am : AD) (f : Nat → Int) (k : Nat) : va_E := match k with
  | 0 => eO 8 [vI (f 0), .ref (am 1 0), vI (f 2), .ref (am 3 0), .ref (am 4 0), .ref (am 5 0), .ref (am 6 0), .ref (am 7 0), .ref (am 8 0), .ref (am 9 0), .ref (am 10 0), .ref (am 11 0), .ref (am 12 0), .ref (am 13 0), vI (f 14), .ref (am 15 0), .ref (am 16 0), .ref (am 17 0), .ref (am 18 0), .ref (am 19 0), .ref (am 20 0), .ref (am 21 0), .ref (am 22 0), .ref (am 23 0), .ref (am 24 0), .ref (am 25 0), .ref (am 26 0), .ref (am 27 0), .ref (am 28 0), .ref (am 29 0), vI (((f 30).toNat : Nat) : Int), vI (f 31), vI (f 32), vI (((f 33).toNat : Nat) : Int), vI (f 34), .ref (am 35 0), .ref (am 36 0), .ref (am 37 0)]
  | 1 => eI D 3 f
  | 3 => eI D 12 f
  | 4 => eI D 1152 f
  | 5 => eI D 12 f
  | 6 => eI D 12 f
  | 7 => eI D 12 f
  | 8 => eI D 12 f
  | 9 => eI D 480 f
  | 10 => eI D 480 f
  | 11 => eI D 12 f
  | 12 => eI D 480 f
  | 13 => eI D 480 f
  | 15 => eI D 20 f
  | 16 => eI D 1920 f
  | 17 => eI D 20 f
  | 18 => eI D 20 f
  | 19 => eI D 20 f
  | 20 => eI D 20 f
  | 21 => eI D 120 f
  | 22 => eI D 6 f
  | 23 => eI D 6 f
  | 24 => eI D 6 f
  | 25 => eI D 6 f
  | 26 => eI D 6 f
  | 27 => eI D 6 f
  | 28 => eI D 96 f
  | 29 => eI D 96 f
  | 35 => eI D 6144 f
  | 36 => eI D 6144 f
  | _ => eZ D 96 f
def FRk (am : AD) (h h' : vh) : Prop := ∀ b, h b ≠ none → (∀ k i, lm k i → b ≠ am k i) → h' b = h b

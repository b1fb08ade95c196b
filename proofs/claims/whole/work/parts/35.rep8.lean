/-! ===== the reference's cells: the object am 0 0, its rows am k 0 by the field's number; m k 0 are their numbers, m 0 0 those of the object ===== -/
def lm (k i : Nat) : Prop := k < 38 ∧ i = 0 ∧ k ≠ 2 ∧ k ≠ 14 ∧ ¬ (30 ≤ k ∧ k ≤ 34)
theorem lm0 {k : Nat} (h : k < 38 ∧ k ≠ 2 ∧ k ≠ 14 ∧ ¬ (30 ≤ k ∧ k ≤ 34)) : lm k 0 := ⟨h.1, rfl, h.2.1, h.2.2.1, h.2.2.2⟩
def entM (D : va_G) (am : AD) (f : Nat → Int) (k : Nat) : va_E := match k with
  | 0 => eO 8 [vI (f 0), .ref (am 1 0), vI (f 2), .ref (am 3 0), .ref (am 4 0), .ref (am 5 0), .ref (am 6 0), .ref (am 7 0), .ref (am 8 0), .ref (am 9 0), .ref (am 10 0), .ref (am 11 0), .ref (am 12 0), .ref (am 13 0), vI (f 14), .ref (am 15 0), .ref (am 16 0), .ref (am 17 0), .ref (am 18 0), .ref (am 19 0), .ref (am 20 0), .ref (am 21 0), .ref (am 22 0), .ref (am 23 0), .ref (am 24 0), .ref (am 25 0), .ref (am 26 0), .ref (am 27 0), .ref (am 28 0), .ref (am 29 0), vI (((f 30).toNat : Nat) : Int), vI (f 31), vI (f 32), vI (((f 33).toNat : Nat) : Int), vI (f 34), .ref (am 35 0), .ref (am 36 0), .ref (am 37 0)]
  | 1 => eI D 3 f
  | 3 => eI D 12 f
  | 4 => eI D 1152 f
  | 5 => eI D 12 f
  | 6 => eI D 12 f
  | 7 => eI D 12 f
  | 8 => eI D 12 f
  | 9 => eI D 480 f
  | 10 => eI D 480 f
  | 11 => eI D 12 f
  | 12 => eI D 480 f
  | 13 => eI D 480 f
  | 15 => eI D 20 f
  | 16 => eI D 1920 f
  | 17 => eI D 20 f
  | 18 => eI D 20 f
  | 19 => eI D 20 f
  | 20 => eI D 20 f
  | 21 => eI D 120 f
  | 22 => eI D 6 f
  | 23 => eI D 6 f
  | 24 => eI D 6 f
  | 25 => eI D 6 f
  | 26 => eI D 6 f
  | 27 => eI D 6 f
  | 28 => eI D 96 f
  | 29 => eI D 96 f
  | 35 => eI D 6144 f
  | 36 => eI D 6144 f
  | _ => eZ D 96 f
def RepM (D : va_G) (am : AD) (m : CS) (h : vh) : Prop := (∀ k i, lm k i → h (am k i) = some (entM D am (m k i) k)) ∧ ∀ k i k' i', lm k i → lm k' i' → am k i = am k' i' → k = k' ∧ i = i'
theorem RepM.ne {D : va_G} {am : AD} {m : CS} {h : vh} (hR : RepM D am m h) {k i k' i' : Nat} (l1 : lm k i) (l2 : lm k' i') (n : ¬ (k = k' ∧ i = i')) : nq (am k i) (am k' i') := fun e => n (hR.2 k i k' i' l1 l2 e)
theorem RepM.up {D : va_G} {am : AD} {m : CS} {h : vh} (hR : RepM D am m h) {k i : Nat} (l1 : lm k i) (f : Nat → Int) {e : va_E} (he : e = entM D am f k) : RepM D am (cu m k i f) (hu h (am k i) e) := by
  refine ⟨fun k' i' l2 => ?_, hR.2⟩
  by_cases q : k' = k ∧ i' = i
  · obtain ⟨rfl, rfl⟩ := q
    rw [hu_s, he, cu_s]
  · rw [hu_n (fun z => q (hR.2 _ _ _ _ l2 l1 z)), cu_n q]
    exact hR.1 k' i' l2
def FRk (am : AD) (h h' : vh) : Prop := ∀ b, h b ≠ none → (∀ k i, lm k i → b ≠ am k i) → h' b = h b
def MP (D : va_G) (am : AD) (h : vh) (m' : CS) (h' : vh) : Prop := RepM D am m' h' ∧ FRk am h h'
theorem MP.rf {D : va_G} {am : AD} {m : CS} {h : vh} (hR : RepM D am m h) : MP D am h m h := ⟨hR, fun _ _ _ => rfl⟩
theorem MP.up {D : va_G} {am : AD} {m : CS} {h0 h : vh} (hC : MP D am h0 m h) {k i : Nat} (l1 : lm k i) (f : Nat → Int) {e : va_E} (he : e = entM D am f k) : MP D am h0 (cu m k i f) (hu h (am k i) e) :=
  ⟨hC.1.up l1 f he, fun b h1 h2 => (hu_n (h2 k i l1)).trans (hC.2 b h1 h2)⟩
theorem MP.trans {D : va_G} {am : AD} {c1 c2 : CS} {h0 h1 h2 : vh} (hC : MP D am h0 c1 h1) (hC2 : MP D am h1 c2 h2) : MP D am h0 c2 h2 :=
  ⟨hC2.1, fun b g1 g2 => (hC2.2 b (by rw [hC.2 b g1 g2]; exact g1) g2).trans (hC.2 b g1 g2)⟩


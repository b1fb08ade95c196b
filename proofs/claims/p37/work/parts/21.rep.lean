/-! ===== the whole of the class's cells: by a kind and a number each; what they hold is numbers (c), where they lie is ad ===== -/
abbrev CS : Type := Nat → Nat → Nat → Int
abbrev AD : Type := Nat → Nat → Nat
def cu (c : CS) (k i : Nat) (f : Nat → Int) : CS := fun k' i' => if k' = k ∧ i' = i then f else c k' i'
theorem cu_s {c : CS} {k i : Nat} {f : Nat → Int} : cu c k i f k i = f := if_pos ⟨rfl, rfl⟩
theorem cu_n {c : CS} {k i k' i' : Nat} {f : Nat → Int} (n : ¬ (k' = k ∧ i' = i)) : cu c k i f k' i' = c k' i' := if_neg n
theorem cu_u {c : CS} {k i : Nat} {f g : Nat → Int} : cu (cu c k i f) k i g = cu c k i g := by
  funext k' i'
  by_cases q : k' = k ∧ i' = i
  · simp only [cu, if_pos q]
  · simp only [cu, if_neg q]
/-- the work that a number tells: one more than its place, or 0 for none -/
def prf (ad : AD) (z : Int) : Option Nat := match z with
  | .ofNat (w + 1) => some (ad 18 w)
  | _ => none
/-- the numbers of an object's fields -/
def oF (v : List Int) : Nat → Int := fun j => v.getD j 0
def entK (D : va_G) (ad : AD) (f : Nat → Int) (k i : Nat) : va_E := match k with
  | 0 => eO 7 [.ref (ad 1 0), .ref (ad 2 0), .ref (ad 3 0), .ref (ad 4 0), .ref (ad 5 0), vI (f 5), vI (f 6)]
  | 1 => eI D 3 f
  | 2 => eR D 22 12 (fun j => if j < (f 0).toNat then some (ad 10 j) else none)
  | 3 => eR D 24 20 (fun j => if j < (f 0).toNat then some (ad 18 j) else none)
  | 4 => eR D 23 6 (fun j => if j < (f 0).toNat then some (ad 23 j) else none)
  | 5 => eO 5 [.ref (ad 6 0), .ref (ad 7 0), .ref (ad 8 0), .ref (ad 9 0), vI (f 4), vI (((f 5).toNat : Nat) : Int), vI (f 6)]
  | 6 => eO 0 [.ref (ad 1 0), vI (f 1), vI (f 2), vI (((f 3).toNat : Nat) : Int), vI (f 4)]
  | 7 => eI D 6144 f
  | 8 => eI D 6144 f
  | 9 => eZ D 96 f
  | 10 => eO 3 [vI (f 0), va_rf (prf ad (f 1)), .ref (ad 11 i), .ref (ad 14 i), vI (f 4), vI (f 5)]
  | 11 => eO 1 [.ref (ad 12 i), .ref (ad 13 i), vI (((f 2).toNat : Nat) : Int)]
  | 12 => eI D 96 f
  | 13 => eI D 3 f
  | 14 => eO 2 [.ref (ad 15 i), .ref (ad 16 i), .ref (ad 17 i), vI (((f 3).toNat : Nat) : Int), vI (((f 4).toNat : Nat) : Int)]
  | 15 => eI D 40 f
  | 16 => eI D 40 f
  | 17 => eI D 40 f
  | 18 => eO 6 [vI (f 0), vI (f 1), va_rf (prf ad (f 2)), .ref (ad 19 i), vI (f 4), .ref (ad 22 i), vI (f 6), vI (f 7)]
  | 19 => eO 1 [.ref (ad 20 i), .ref (ad 21 i), vI (((f 2).toNat : Nat) : Int)]
  | 20 => eI D 96 f
  | 21 => eI D 3 f
  | 22 => eI D 6 f
  | 23 => eO 4 [.ref (ad 24 i), va_rf (prf ad (f 1)), vI (f 2), vI (f 3)]
  | _ => eO 0 [.ref (ad 1 0), vI (f 1), vI (f 2), vI (((f 3).toNat : Nat) : Int), vI (f 4)]
def cnt (L W k : Nat) : Nat := if k < 10 then 1 else if k < 18 then L else if k < 23 then W else 6
def lv (L W k i : Nat) : Prop := k < 25 ∧ i < cnt L W k
theorem lv0 {L W k : Nat} (h : k < 10) : lv L W k 0 := ⟨by omega, by unfold cnt; rw [if_pos h]; exact Nat.zero_lt_one⟩
theorem lvL {L W k i : Nat} (h1 : 10 ≤ k ∧ k < 18) (h : i < L) : lv L W k i := ⟨by omega, by unfold cnt; rw [if_neg (by omega), if_pos h1.2]; exact h⟩
theorem lvW {L W k i : Nat} (h1 : 18 ≤ k ∧ k < 23) (h : i < W) : lv L W k i := ⟨by omega, by unfold cnt; rw [if_neg (by omega), if_neg (by omega), if_pos h1.2]; exact h⟩
theorem lvR {L W k i : Nat} (h1 : 23 ≤ k ∧ k < 25) (h : i < 6) : lv L W k i := ⟨by omega, by unfold cnt; rw [if_neg (by omega), if_neg (by omega), if_neg (by omega)]; exact h⟩
theorem lv_or {L W k i : Nat} (h : lv L W k i) : (k < 10 ∧ i = 0) ∨ ((10 ≤ k ∧ k < 18) ∧ i < L) ∨ ((18 ≤ k ∧ k < 23) ∧ i < W) ∨ ((23 ≤ k ∧ k < 25) ∧ i < 6) := by
  obtain ⟨h1, h2⟩ := h
  unfold cnt at h2
  split at h2
  · exact Or.inl (by omega)
  · split at h2
    · exact Or.inr (Or.inl (by omega))
    · split at h2
      · exact Or.inr (Or.inr (Or.inl (by omega)))
      · exact Or.inr (Or.inr (Or.inr (by omega)))
def RepC (D : va_G) (ad : AD) (c : CS) (L W : Nat) (h : vh) : Prop := (∀ k i, lv L W k i → h (ad k i) = some (entK D ad (c k i) k i)) ∧ ∀ k i k' i', lv L W k i → lv L W k' i' → ad k i = ad k' i' → k = k' ∧ i = i'
theorem RepC.ne {D : va_G} {ad : AD} {c : CS} {L W : Nat} {h : vh} (hR : RepC D ad c L W h) {k i k' i' : Nat} (l1 : lv L W k i) (l2 : lv L W k' i') (n : ¬ (k = k' ∧ i = i')) : nq (ad k i) (ad k' i') := fun e => n (hR.2 k i k' i' l1 l2 e)
theorem RepC.up {D : va_G} {ad : AD} {c : CS} {L W : Nat} {h : vh} (hR : RepC D ad c L W h) {k i : Nat} (l1 : lv L W k i) (f : Nat → Int) {e : va_E} (he : e = entK D ad f k i) : RepC D ad (cu c k i f) L W (hu h (ad k i) e) := by
  refine ⟨fun k' i' l2 => ?_, hR.2⟩
  by_cases q : k' = k ∧ i' = i
  · obtain ⟨rfl, rfl⟩ := q
    rw [hu_s, he, cu_s]
  · rw [hu_n (fun z => q (hR.2 _ _ _ _ l2 l1 z)), cu_n q]
    exact hR.1 k' i' l2
/-- the others' cells stay -/
def FRm (ad : AD) (L W : Nat) (h h' : vh) : Prop := ∀ b, h b ≠ none → (∀ k i, lv L W k i → b ≠ ad k i) → h' b = h b
def CP (D : va_G) (ad : AD) (L W : Nat) (h : vh) (c' : CS) (h' : vh) : Prop := RepC D ad c' L W h' ∧ FRm ad L W h h'
theorem CP.rf {D : va_G} {ad : AD} {c : CS} {L W : Nat} {h : vh} (hR : RepC D ad c L W h) : CP D ad L W h c h := ⟨hR, fun _ _ _ => rfl⟩
theorem CP.up {D : va_G} {ad : AD} {c : CS} {L W : Nat} {h0 h : vh} (hC : CP D ad L W h0 c h) {k i : Nat} (l1 : lv L W k i) (f : Nat → Int) {e : va_E} (he : e = entK D ad f k i) : CP D ad L W h0 (cu c k i f) (hu h (ad k i) e) :=
  ⟨hC.1.up l1 f he, fun b h1 h2 => (hu_n (h2 k i l1)).trans (hC.2 b h1 h2)⟩
theorem CP.trans {D : va_G} {ad : AD} {c1 c2 : CS} {L W : Nat} {h0 h1 h2 : vh} (hC : CP D ad L W h0 c1 h1) (hC2 : CP D ad L W h1 c2 h2) : CP D ad L W h0 c2 h2 :=
  ⟨hC2.1, fun b g1 g2 => (hC2.2 b (by rw [hC.2 b g1 g2]; exact g1) g2).trans (hC.2 b g1 g2)⟩
/-- how a method of the class ends with an exception: nothing has changed -/
def XP (P1 P2 P3 : Prop) (h : vh) : String → vh → Prop := fun E h' => h' = h ∧ ((E = "java/lang/IndexOutOfBoundsException" ∧ P1) ∨ (E = "java/lang/IllegalArgumentException" ∧ P2) ∨ (E = "java/lang/IllegalStateException" ∧ P3))
theorem XP.imp {P1 P2 P3 Q1 Q2 Q3 : Prop} {h : vh} {E : String} {h' : vh} (hx : XP P1 P2 P3 h E h') (i1 : P1 → Q1) (i2 : P2 → Q2) (i3 : P3 → Q3) : XP Q1 Q2 Q3 h E h' := ⟨hx.1, hx.2.imp (fun z => ⟨z.1, i1 z.2⟩) (Or.imp (fun z => ⟨z.1, i2 z.2⟩) (fun z => ⟨z.1, i3 z.2⟩))⟩

/-- n cells of f are laid from b on -/
def rowG (g : Nat → Int) (b : Nat) (f : Nat → Int) (n : Nat) : Nat → Int := fun j => if b ≤ j ∧ j < b + n then f (j - b) else g j
theorem rowG_0 {g f : Nat → Int} {b : Nat} : rowG g b f 0 = g := by funext j; exact if_neg (by omega)
theorem rowG_s {g f : Nat → Int} {b n : Nat} : fu (rowG g b f n) (b + n) (f n) = rowG g b f (n + 1) := by
  funext j
  unfold fu rowG
  by_cases q : j = b + n
  · rw [if_pos q, if_pos (by omega), q, show b + n - b = n by omega]
  · rw [if_neg q]
    by_cases r : b ≤ j ∧ j < b + n
    · rw [if_pos r, if_pos (by omega)]
    · rw [if_neg r, if_neg (by omega)]
/-- a level is opened -/
def opN (m : CS) (p z o : Int) : CS := cu (cu (cu (cu (cu m 3 0 (fu (m 3 0) (m 0 0 2).toNat p)) 5 0 (fu (m 5 0) (m 0 0 2).toNat z)) 6 0 (fu (m 6 0) (m 0 0 2).toNat (-2))) 7 0 (fu (m 7 0) (m 0 0 2).toNat o)) 0 0 (fu (m 0 0) 2 (m 0 0 2 + 1))
theorem SM.up9 {a b : CS} {k i : Nat} {f g : Nat → Int} (hk : 1 ≤ k ∧ k < 28) (e : f = g) (h : SM a b) : SM (cu a k i f) (cu b k i g) := e ▸ SM.up hk h
theorem SM.o29 {a b : CS} {f g : Nat → Int} (h : SM a b) (h2 : g 2 = f 2) (h14 : g 14 = f 14) : SM (cu a 0 0 f) (cu b 0 0 g) := by
  refine ⟨fun k i h1 h3 => ?_, h2, h14, fun z => (GK.cu (by omega) (by omega)).mpr (h.2.2.2 ((GK.cu (by omega) (by omega)).mp z))⟩
  rw [cu_n (fun z => by omega), cu_n (fun z => by omega)]; exact h.1 k i h1 h3
theorem SM.op {a b : CS} {p z o : Int} (h : SM a b) : SM (opN a p z o) (opN b p z o) := by
  obtain ⟨h1, h2, h3, _⟩ := id h
  unfold opN
  refine SM.o29 (SM.up9 (by decide) ?_ (SM.up9 (by decide) ?_ (SM.up9 (by decide) ?_ (SM.up9 (by decide) ?_ h)))) ?_ h3
  · rw [h1 7 0 (by decide) (by decide), h2]
  · rw [h1 6 0 (by decide) (by decide), h2]
  · rw [h1 5 0 (by decide) (by decide), h2]
  · rw [h1 3 0 (by decide) (by decide), h2]
  · show b 0 0 2 + 1 = a 0 0 2 + 1
    rw [h2]

/-- a work is offered -/
def ofN (m : CS) (u : Nat) : CS := cu (cu (cu (cu (cu (cu (cu m 16 0 (rowG (m 16 0) (96 * (m 0 0 14).toNat) (fun j => m 4 0 (96 * u + j)) 96)) 15 0 (fu (m 15 0) (m 0 0 14).toNat (m 3 0 u))) 17 0 (fu (m 17 0) (m 0 0 14).toNat (m 5 0 u))) 18 0 (fu (m 18 0) (m 0 0 14).toNat (m 6 0 u))) 19 0 (fu (m 19 0) (m 0 0 14).toNat (m 7 0 u))) 20 0 (fu (m 20 0) (m 0 0 14).toNat (-1))) 0 0 (fu (m 0 0) 14 (m 0 0 14 + 1))


def cnK (g : Nat → Int) : Nat → Nat
  | 0 => 0
  | n + 1 => cnK g n + (if g n = 2 then 1 else 0)
theorem cnK_t {g : Nat → Int} {n : Nat} (h : g n = 2) : cnK g (n + 1) = cnK g n + 1 := by show cnK g n + _ = _; rw [if_pos h]
theorem cnK_f {g : Nat → Int} {n : Nat} (h : ¬ g n = 2) : cnK g (n + 1) = cnK g n := by show cnK g n + _ = _; rw [if_neg h]; rfl
theorem cnK_le (g : Nat → Int) : ∀ n, cnK g n ≤ n
  | 0 => Nat.le_refl _
  | n + 1 => by have := cnK_le g n; unfold cnK; split <;> omega
def shG (F : Nat → Int) (b n : Nat) : Nat → Int := fun j => if b ≤ j ∧ j < b + n then F (j + 1) else F j
theorem shG_0 {F : Nat → Int} {b : Nat} : shG F b 0 = F := by funext j; exact if_neg (by omega)
theorem shG_v {F : Nat → Int} {b n : Nat} : shG F b n (b + n + 1) = F (b + n + 1) := if_neg (by omega)
theorem shG_s {F : Nat → Int} {b n : Nat} : fu (shG F b n) (b + n) (shG F b n (b + n + 1)) = shG F b (n + 1) := by
  rw [shG_v]
  funext j
  unfold fu shG
  by_cases q : j = b + n
  · rw [if_pos q, if_pos (by omega), q]
  · rw [if_neg q]
    by_cases r : b ≤ j ∧ j < b + n
    · rw [if_pos r, if_pos (by omega)]
    · rw [if_neg r, if_neg (by omega)]
def rmF (F : Nat → Int) (b d : Nat) (x : Int) : Nat → Int := fu (if d < 40 then F else shG F b 39) (b + hd40 d) x
/-- an edit is remembered -/
def remM (m : CS) (u : Nat) (z k : Int) : CS := cu (cu (cu m 9 0 (rmF (m 9 0) (40 * u) (m 8 0 u).toNat z)) 10 0 (rmF (m 10 0) (40 * u) (m 8 0 u).toNat k)) 8 0 (fu (m 8 0) u ((hd40 (m 8 0 u).toNat + 1 : Nat) : Int))
theorem cu_44 {m : CS} {a b : Nat} {A B A' B' : Nat → Int} (n : ¬ a = b) : cu (cu (cu (cu m a 0 A) b 0 B) a 0 A') b 0 B' = cu (cu m a 0 A') b 0 B' := by
  rw [cu_sw (m := cu m a 0 A) (a := b) (fun z => n z.symm), cu_u, cu_u]
theorem rem_lo {m : CS} {u : Nat} {z k : Int} {i : Nat} {v : Int} (hd : (m 8 0 u).toNat < 40) (hi : i = 40 * u + (m 8 0 u).toNat) (hv : v = (((m 8 0 u).toNat + 1 : Nat) : Int)) : remM m u z k = cu (cu (cu m 9 0 (fu (m 9 0) i z)) 10 0 (fu (m 10 0) i k)) 8 0 (fu (m 8 0) u v) := by
  unfold remM rmF hd40
  rw [if_pos hd, if_pos hd, if_pos hd, hi, hv]
theorem rem_hi {m : CS} {u : Nat} {z k : Int} {i : Nat} {v : Int} (hd : ¬ (m 8 0 u).toNat < 40) (hi : i = 40 * u + 39) (hv : v = 40) : remM m u z k = cu (cu (cu m 9 0 (fu (shG (m 9 0) (40 * u) 39) i z)) 10 0 (fu (shG (m 10 0) (40 * u) 39) i k)) 8 0 (fu (m 8 0) u v) := by
  unfold remM rmF hd40
  rw [if_neg hd, if_neg hd, if_neg hd, hi, hv]
  rfl
theorem SM.rem {a b : CS} {u : Nat} {z k : Int} (h : SM a b) : SM (remM a u z k) (remM b u z k) := by
  obtain ⟨h1, h2, h3, _⟩ := id h
  unfold remM
  refine SM.up9 (by decide) ?_ (SM.up9 (by decide) ?_ (SM.up9 (by decide) ?_ h))
  · rw [h1 8 0 (by decide) (by decide)]
  · rw [h1 8 0 (by decide) (by decide), h1 10 0 (by decide) (by decide)]
  · rw [h1 8 0 (by decide) (by decide), h1 9 0 (by decide) (by decide)]


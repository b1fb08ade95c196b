theorem cu3k {m : CS} {a b c : Nat} {x y z x' y' z' : Nat → Int} : cu (cu (cu (cu (cu (cu m a 0 x) b 0 y) c 0 z) a 0 x') b 0 y') c 0 z' = cu (cu (cu m a 0 x') b 0 y') c 0 z' := by
  funext k i
  by_cases h1 : k = c ∧ i = 0
  · simp only [cu, if_pos h1]
  · by_cases h2 : k = b ∧ i = 0
    · simp only [cu, if_neg h1, if_pos h2]
    · by_cases h3 : k = a ∧ i = 0
      · simp only [cu, if_neg h1, if_neg h2, if_pos h3]
      · simp only [cu, if_neg h1, if_neg h2, if_neg h3]
theorem fu_u {f : Nat → Int} {k : Nat} {x y : Int} : fu (fu f k x) k y = fu f k y := by
  funext j
  by_cases h : j = k
  · simp only [fu, if_pos h]
  · simp only [fu, if_neg h]
/-- the ground is laid: n cells of src so far -/
def lyG (src g : Nat → Int) (n : Nat) : Nat → Int := fun j => if j < n then src j else g j
def lyA (src : Nat → Int) : Nat → Nat
  | 0 => 0
  | n + 1 => lyA src n + (if src n = 2 then lyA src n + 1 else 0)
def lyB (src b : Nat → Int) (n : Nat) : Nat → Int := fun j => if j < n then (if src j = 2 then ((lyA src j + 1 : Nat) : Int) else 0) else b j
theorem lyA_m {src : Nat → Int} : ∀ {n k : Nat}, n ≤ k → lyA src n ≤ lyA src k := by
  intro n k h
  induction k with
  | zero => have : n = 0 := by omega
            subst this; exact Nat.le_refl _
  | succ k ih =>
    by_cases q : n = k + 1
    · subst q; exact Nat.le_refl _
    · have h1 := ih (by omega)
      show _ ≤ lyA src k + _
      omega
theorem lyG_0 {src g : Nat → Int} : lyG src g 0 = g := by funext j; exact if_neg (Nat.not_lt_zero _)
theorem lyB_0 {src g : Nat → Int} : lyB src g 0 = g := by funext j; exact if_neg (Nat.not_lt_zero _)
theorem lyG_s {src g : Nat → Int} {n : Nat} : fu (lyG src g n) n (src n) = lyG src g (n + 1) := by
  funext j
  unfold fu lyG
  by_cases q : j = n
  · rw [if_pos q, if_pos (by omega), q]
  · rw [if_neg q]
    by_cases r : j < n
    · rw [if_pos r, if_pos (by omega)]
    · rw [if_neg r, if_neg (by omega)]
theorem lyB_s {src b : Nat → Int} {n : Nat} {z : Int} (hz : z = if src n = 2 then ((lyA src n + 1 : Nat) : Int) else 0) : fu (lyB src b n) n z = lyB src b (n + 1) := by
  funext j
  unfold fu lyB
  by_cases q : j = n
  · rw [if_pos q, if_pos (by omega), q, hz]
  · rw [if_neg q]
    by_cases r : j < n
    · rw [if_pos r, if_pos (show j < n + 1 by omega)]
    · rw [if_neg r, if_neg (show ¬ j < n + 1 by omega)]
def layN (m : CS) (src : Nat → Int) (n : Nat) : CS := cu (cu (cu m 28 0 (lyG src (m 28 0) n)) 29 0 (lyB src (m 29 0) n)) 0 0 (fu (m 0 0) 30 ((lyA src n : Nat) : Int))
theorem layN_0 {m : CS} {src : Nat → Int} : layN m src 0 = cu m 0 0 (fu (m 0 0) 30 0) := by
  unfold layN
  rw [lyG_0, lyB_0]
  funext k i
  by_cases h1 : k = 0 ∧ i = 0
  · simp only [cu, if_pos h1]; rfl
  · by_cases h2 : k = 29 ∧ i = 0
    · simp only [cu, if_neg h1, if_pos h2]; rw [h2.1, h2.2]
    · by_cases h3 : k = 28 ∧ i = 0
      · simp only [cu, if_neg h1, if_neg h2, if_pos h3]; rw [h3.1, h3.2]
      · simp only [cu, if_neg h1, if_neg h2, if_neg h3]
theorem layN_s {m : CS} {src : Nat → Int} {n : Nat} {z : Int} (hz : z = if src n = 2 then ((lyA src n + 1 : Nat) : Int) else 0) : cu (cu (cu (layN m src n) 28 0 (fu (lyG src (m 28 0) n) n (src n))) 29 0 (fu (lyB src (m 29 0) n) n z)) 0 0 (fu (layN m src n 0 0) 30 ((lyA src (n + 1) : Nat) : Int)) = layN m src (n + 1) := by
  rw [lyG_s, lyB_s hz, show layN m src n 0 0 = fu (m 0 0) 30 ((lyA src n : Nat) : Int) from cu_s, fu_u]
  unfold layN
  rw [cu3k]


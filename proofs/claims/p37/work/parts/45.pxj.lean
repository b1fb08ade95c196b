def rwM (f : Nat → Int) (b : Nat) : Nat → Int := fun j => if j < 96 then f (b + j) else 0
def kbr (src b : Nat → Int) : Int → Nat := fun p => (lyB src b 96 p.toNat).toNat
def FdR (m : CS) (src : Nat → Int) (z r : Int) : Prop := Found (TTr (lyG src (m 28 0) 96) (kbr src (m 29 0)) (lyA src 96) (m 1 0)) (X0r (lyG src (m 28 0) 96) (kbr src (m 29 0)) z) r
def SnR (m : CS) (src : Nat → Int) (z : Int) (x : Int) : Prop := Seen (TTr (lyG src (m 28 0) 96) (kbr src (m 29 0)) (lyA src 96) (m 1 0)) (X0r (lyG src (m 28 0) 96) (kbr src (m 29 0)) z) x
theorem rwM_r {f : Nat → Int} {b : Nat} (h : ∀ j, j < 96 → 0 ≤ f (b + j) ∧ f (b + j) ≤ 8) : ∀ j, 0 ≤ rwM f b j ∧ rwM f b j ≤ 8 := fun j => by
  unfold rwM; split
  · exact h j (by assumption)
  · decide
def frN (R : Nat → Int) (n : Nat) (r : Int) : Prop := (r = -1 ∧ ∀ c : Nat, c < n → R c = 0) ∨ ∃ c : Nat, c < n ∧ r = c ∧ R c ≠ 0 ∧ ∀ c' : Nat, c' < n → R c' ≠ 0 → c' % 12 < c % 12 ∨ (c' % 12 = c % 12 ∧ c ≤ c')
theorem frN_r {R : Nat → Int} {n : Nat} {y : Int} (h : frN R n y) : -1 ≤ y ∧ y < n := by
  rcases h with ⟨h1, _⟩ | ⟨c, h1, h2, _⟩ <;> omega
theorem frN_set {R : Nat → Int} {n : Nat} {y : Int} (h : frN R n y) (hn : ¬ R n = 0) (hc : y = -1 ∨ (n : Int) % 12 > y % 12) : frN R (n + 1) n := by
  refine Or.inr ⟨n, by omega, rfl, hn, fun c' h1 h2 => ?_⟩
  by_cases q : c' = n
  · subst q; exact Or.inr ⟨rfl, Nat.le_refl _⟩
  · rcases h with ⟨_, g⟩ | ⟨c, g1, g2, g3, g4⟩
    · exact absurd (g c' (by omega)) h2
    · have := g4 c' (by omega) h2
      omega
theorem frN_keep {R : Nat → Int} {n : Nat} {y : Int} (h : frN R n y) (hc : R n = 0 ∨ (¬ y = -1 ∧ (n : Int) % 12 ≤ y % 12)) : frN R (n + 1) y := by
  rcases h with ⟨g1, g⟩ | ⟨c, g1, g2, g3, g4⟩
  · refine Or.inl ⟨g1, fun c h1 => ?_⟩
    by_cases q : c = n
    · subst q; rcases hc with z | z
      · exact z
      · exact absurd g1 z.1
    · exact g c (by omega)
  · refine Or.inr ⟨c, by omega, g2, g3, fun c' h1 h2 => ?_⟩
    by_cases q : c' = n
    · subst q
      rcases hc with z | z
      · exact absurd z h2
      · omega
    · exact g4 c' (by omega) h2
/-- the run of a person is laid down -/
def kpX (m : CS) (p w : Nat) (x : Int × Int × Nat × Int) : CS := cu (cu (cu (cu (cu m 24 0 (fu (m 24 0) p x.1)) 25 0 (fu (m 25 0) p x.2.1)) 26 0 (fu (m 26 0) p ((x.2.2.1 : Nat) : Int))) 22 0 (fu (m 22 0) p x.2.2.2)) 20 0 (if x.2.2.2 = 2 ∧ (m 20 0 w = -1 ∨ m 27 0 p < m 20 0 w) then fu (m 20 0) w (m 27 0 p) else m 20 0)
def kpR (x : Int × Int × Nat × Int) : Int := if x.2.2.2 = 3 then -1 else if x.2.2.2 = 2 then -2 else x.1
theorem SM.kp {a b : CS} {p w : Nat} {x : Int × Int × Nat × Int} (h : SM a b) : SM (kpX a p w x) (kpX b p w x) := by
  obtain ⟨h1, h2, h3, _⟩ := id h
  unfold kpX
  refine SM.up9 (by decide) ?_ (SM.up9 (by decide) ?_ (SM.up9 (by decide) ?_ (SM.up9 (by decide) ?_ (SM.up9 (by decide) ?_ h))))
  · rw [h1 20 0 (by decide) (by decide), h1 27 0 (by decide) (by decide)]
  · rw [h1 22 0 (by decide) (by decide)]
  · rw [h1 26 0 (by decide) (by decide)]
  · rw [h1 25 0 (by decide) (by decide)]
  · rw [h1 24 0 (by decide) (by decide)]
theorem kp_id {m : CS} {k : Nat} {f : Nat → Int} {P : Prop} [Decidable P] (hP : ¬ P) : cu m k 0 (if P then f else m k 0) = m := by
  rw [if_neg hP]; exact cu_id rfl


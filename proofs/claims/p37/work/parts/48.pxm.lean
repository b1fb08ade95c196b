def PWn : List (Nat × va_E) → Prop
  | [] => True
  | x :: xs => (∀ p ∈ xs, x.1 ≠ p.1) ∧ PWn xs
/-- cells made so far, the newest first -/
def Bl (h0 : vh) (o : Nat) (l : List (Nat × va_E)) (h : vh) : Prop := (∀ p ∈ l, h p.1 = some p.2 ∧ h0 p.1 = none ∧ p.1 ≠ o) ∧ PWn l ∧ ∀ (b : Nat) (e : va_E), b ≠ o → h0 b = some e → h b = some e
theorem Bl.z {h0 : vh} {o : Nat} : Bl h0 o [] h0 := ⟨fun p hp => (by cases hp), trivial, fun _ _ _ h => h⟩
theorem Bl.s {h0 h : vh} {o q : Nat} {l : List (Nat × va_E)} {E e e' : va_E} (hB : Bl h0 o l h) (fr : h q = none) (ho : h o = some e) : Bl h0 o ((q, E) :: l) (hu (hu h q E) o e') := by
  have hqo : q ≠ o := fun z => by rw [z, ho] at fr; cases fr
  have hql : ∀ p ∈ l, q ≠ p.1 := fun p hp z => by rw [z, (hB.1 p hp).1] at fr; cases fr
  refine ⟨fun p hp => ?_, ⟨hql, hB.2.1⟩, fun b e9 h1 h2 => ?_⟩
  · rcases List.mem_cons.mp hp with rfl | hp
    · refine ⟨by rw [hu_n hqo]; exact hu_s, ?_, hqo⟩
      cases hh : h0 q with
      | none => rfl
      | some e9 => have := hB.2.2 q e9 hqo hh; rw [fr] at this; cases this
    · have h3 := hB.1 p hp
      exact ⟨by rw [hu_n h3.2.2, hu_n (fun z => hql p hp z.symm)]; exact h3.1, h3.2.1, h3.2.2⟩
  · have h3 := hB.2.2 b e9 h1 h2
    rw [hu_n h1, hu_n (fun z => by rw [z, fr] at h3; cases h3)]
    exact h3
def adl (l : List (Nat × va_E)) (j : Nat) : Nat := (l.map Prod.fst).getD j 0
theorem adl_m : ∀ {l : List (Nat × va_E)} {j : Nat}, j < l.length → ∃ p ∈ l, adl l j = p.1
  | [], j, h => absurd h (Nat.not_lt_zero _)
  | x :: xs, 0, h => ⟨x, List.Mem.head _, rfl⟩
  | x :: xs, j + 1, h => by
    obtain ⟨p, h1, h2⟩ := adl_m (l := xs) (j := j) (Nat.lt_of_succ_lt_succ h)
    exact ⟨p, List.Mem.tail _ h1, h2⟩
theorem adl_ne : ∀ {l : List (Nat × va_E)}, PWn l → ∀ {i j : Nat}, i < j → j < l.length → adl l i ≠ adl l j
  | [], _, i, j, _, h => absurd h (Nat.not_lt_zero _)
  | x :: xs, hp, 0, 0, h1, _ => absurd h1 (Nat.lt_irrefl _)
  | x :: xs, hp, 0, j + 1, _, h => by
    obtain ⟨p, h1, h2⟩ := adl_m (l := xs) (j := j) (Nat.lt_of_succ_lt_succ h)
    have e : adl (x :: xs) (j + 1) = adl xs j := rfl
    rw [e, h2]
    exact hp.1 p h1
  | x :: xs, hp, i + 1, 0, h1, _ => absurd h1 (Nat.not_lt_zero _)
  | x :: xs, hp, i + 1, j + 1, h1, h => adl_ne (l := xs) hp.2 (Nat.lt_of_succ_lt_succ h1) (Nat.lt_of_succ_lt_succ h)
/-- the place of a field's row among the made ones, counted from the oldest -/
def posM (k : Nat) : Nat := if k ≤ 1 then k else if k < 14 then k - 1 else if k < 30 then k - 2 else k - 7
def amL (o : Nat) (l : List (Nat × va_E)) : AD := fun k _ => if k = 0 then o else adl l (30 - posM k)
theorem posM_e {k : Nat} (h : lm k 0) : (k ≤ 1 ∧ posM k = k) ∨ (3 ≤ k ∧ k < 14 ∧ posM k = k - 1) ∨ (15 ≤ k ∧ k < 30 ∧ posM k = k - 2) ∨ (35 ≤ k ∧ k < 38 ∧ posM k = k - 7) := by
  unfold lm at h
  by_cases h1 : k ≤ 1
  · exact Or.inl ⟨h1, if_pos h1⟩
  · by_cases h2 : k < 14
    · exact Or.inr (Or.inl ⟨by omega, h2, (if_neg h1).trans (if_pos h2)⟩)
    · by_cases h3 : k < 30
      · exact Or.inr (Or.inr (Or.inl ⟨by omega, h3, (if_neg h1).trans ((if_neg h2).trans (if_pos h3))⟩))
      · exact Or.inr (Or.inr (Or.inr ⟨by omega, by omega, (if_neg h1).trans ((if_neg h2).trans (if_neg h3))⟩))
theorem posM_r {k : Nat} (h : lm k 0) : (k = 0 ∧ posM k = 0) ∨ (1 ≤ posM k ∧ posM k ≤ 30) := by
  have := posM_e h; omega
theorem posM_i {k k' : Nat} (h : lm k 0) (h' : lm k' 0) (e : posM k = posM k') : k = k' := by
  have := posM_e h; have := posM_e h'; omega
theorem amL_i {h0 h : vh} {o : Nat} {l : List (Nat × va_E)} (hB : Bl h0 o l h) (hl : l.length = 30) {k i k' i' : Nat} (l1 : lm k i) (l2 : lm k' i') (e : amL o l k i = amL o l k' i') : k = k' ∧ i = i' := by
  obtain rfl : i = 0 := l1.2.1
  obtain rfl : i' = 0 := l2.2.1
  refine ⟨?_, rfl⟩
  have p1 := posM_r l1
  have p2 := posM_r l2
  have ho : ∀ {a : Nat}, a < 30 → adl l a ≠ o := fun ha => by
    obtain ⟨p, h1, h2⟩ := adl_m (l := l) (j := _) (by rw [hl]; exact ha)
    rw [h2]; exact (hB.1 p h1).2.2
  unfold amL at e
  by_cases q : k = 0
  · by_cases q' : k' = 0
    · omega
    · rw [if_pos q, if_neg q'] at e
      exact absurd e.symm (ho (by omega))
  · by_cases q' : k' = 0
    · rw [if_neg q, if_pos q'] at e
      exact absurd e (ho (by omega))
    · rw [if_neg q, if_neg q'] at e
      refine posM_i l1 l2 ?_
      rcases Nat.lt_trichotomy (30 - posM k) (30 - posM k') with z | z | z
      · exact absurd e (adl_ne hB.2.1 z (by omega))
      · omega
      · exact absurd e.symm (adl_ne hB.2.1 z (by omega))
def mI0 : CS := fun _ _ _ => 0
def S0n : Nat → Nat → Int
  | 0 => fun _ => 0
  | n + 1 => fu (S0n n) n ((n : Int) + 2)
def mI : CS := cu mI0 1 0 S0
theorem S0n_3 : S0n 3 = S0 := rfl


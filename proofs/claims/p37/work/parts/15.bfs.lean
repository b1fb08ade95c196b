/-! ===== what a body can do: a step T, a start x0; steps are counted ===== -/
abbrev B4 : Type := Int × Int × Nat × Int
def cd (x : B4) : Nat := pkc x.1 x.2.1 x.2.2.1
def Rch (T : Nat → Nat → B4) (x0 : B4) : Nat → Nat → Prop
  | 0, n => x0.2.2.2 = 1 ∧ n = cd x0
  | d + 1, n => ∃ p, Rch T x0 d p ∧ ∃ i, i < 6 ∧ (T p i).2.2.2 = 1 ∧ n = cd (T p i)
def Win (T : Nat → Nat → B4) (x0 : B4) : Nat → Prop
  | 0 => x0.2.2.2 = 2
  | d + 1 => ∃ p, Rch T x0 d p ∧ ∃ i, i < 6 ∧ (T p i).2.2.2 = 2
def Found (T : Nat → Nat → B4) (x0 : B4) (r : Int) : Prop := (r = -1 ∧ ∀ d, ¬ Win T x0 d) ∨ ∃ d : Nat, r = d ∧ Win T x0 d ∧ ∀ e, e < d → ¬ Win T x0 e
def Seen (T : Nat → Nat → B4) (x0 : B4) (c : Int) : Prop := (x0.2.2.2 ≠ 3 ∧ c = x0.1) ∨ ∃ d p i, Rch T x0 d p ∧ i < 6 ∧ (T p i).2.2.2 ≠ 3 ∧ c = (T p i).1
theorem Found.uniq {T : Nat → Nat → B4} {x0 : B4} {r s : Int} (h : Found T x0 r) (g : Found T x0 s) : r = s := by
  rcases h with ⟨h1, h2⟩ | ⟨d, h1, h2, h3⟩ <;> rcases g with ⟨g1, g2⟩ | ⟨e, g1, g2, g3⟩
  · rw [h1, g1]
  · exact absurd g2 (h2 e)
  · exact absurd h2 (g2 d)
  · rcases Nat.lt_trichotomy d e with q | q | q
    · exact absurd h2 (g3 d q)
    · rw [h1, g1, q]
    · exact absurd g2 (h3 e q)
/-- what holds of a pair that was tried -/
def stOK (T : Nat → Nat → B4) (far R : Nat → Int) (w : Int) (n i : Nat) : Prop :=
  ((T n i).2.2.2 = 1 → far (cd (T n i)) ≠ -1 ∧ far (cd (T n i)) ≤ far n + 1) ∧ ((T n i).2.2.2 ≠ 3 → R (T n i).1.toNat = 1) ∧ ((T n i).2.2.2 = 2 → w ≠ -1 ∧ w ≤ far n + 1)
/-- the search is at the place k, with i inputs tried -/
def BI (T : Nat → Nat → B4) (x0 : B4) (m : Nat) (Q far R : Nat → Int) (w : Int) (k i : Nat) : Prop :=
  (∀ j, j < m → 0 ≤ Q j ∧ Q j < 6144 ∧ 0 ≤ far (Q j).toNat ∧ Rch T x0 (far (Q j).toNat).toNat (Q j).toNat) ∧
  (∀ n, n < 6144 → far n ≠ -1 → ∃ j, j < m ∧ Q j = n) ∧
  (∀ j j', j < j' → j' < m → Q j ≠ Q j' ∧ far (Q j).toNat ≤ far (Q j').toNat) ∧
  (∀ j, j < m → k < m → far (Q j).toNat ≤ far (Q k).toNat + 1) ∧
  (∀ j i', j < m → i' < 6 → (j < k ∨ (j = k ∧ i' < i)) → stOK T far R w (Q j).toNat i') ∧
  (∀ c : Nat, c < 96 → R c = 1 → Seen T x0 c) ∧
  (x0.2.2.2 = 1 → far (cd x0) = 0 ∧ 0 < m ∧ Q 0 = cd x0) ∧
  (x0.2.2.2 ≠ 3 → R x0.1.toNat = 1) ∧ (x0.2.2.2 = 2 → w = 0) ∧
  (w = -1 ∨ (0 ≤ w ∧ Win T x0 w.toNat)) ∧
  (w ≠ -1 → ∀ j, j < m → k ≤ j → w ≤ far (Q j).toNat + 1)
theorem pigeon : ∀ (N m : Nat) (Q : Nat → Nat), (∀ j, j < m → Q j < N) → (∀ j j', j < j' → j' < m → Q j ≠ Q j') → m ≤ N
  | 0, m, Q, h, _ => by
    rcases Nat.eq_zero_or_pos m with q | q
    · omega
    · exact absurd (h 0 q) (Nat.not_lt_zero _)
  | N + 1, m, Q, h, hi => by
    by_cases hN : ∃ j, j < m ∧ Q j = N
    · obtain ⟨a, ha, hq⟩ := hN
      have := pigeon N (m - 1) (fun j => if j < a then Q j else Q (j + 1)) (fun j hj => by
        try dsimp only
        split
        · have h1 := h j (by omega)
          have h2 := hi j a (by omega) ha
          omega
        · have h1 := h (j + 1) (by omega)
          have h2 := hi a (j + 1) (by omega) (by omega)
          omega) (fun j j' h1 h2 => by
        try dsimp only
        split <;> split
        · exact hi j j' h1 (by omega)
        · exact hi j (j' + 1) (by omega) (by omega)
        · omega
        · exact hi (j + 1) (j' + 1) (by omega) (by omega))
      omega
    · have := pigeon N m Q (fun j hj => by
        have h1 := h j hj
        rcases Nat.lt_or_ge (Q j) N with q | q
        · exact q
        · exact absurd ⟨j, hj, by omega⟩ hN) hi
      omega
theorem BI.le {T : Nat → Nat → B4} {x0 : B4} {m : Nat} {Q far R : Nat → Int} {w : Int} {k i : Nat} (h : BI T x0 m Q far R w k i) : m ≤ 6144 :=
  pigeon 6144 m (fun j => (Q j).toNat) (fun j hj => by have := h.1 j hj; omega) (fun j j' h1 h2 => by
    have a1 := (h.2.2.1 j j' h1 h2).1
    have a2 := h.1 j (by omega)
    have a3 := h.1 j' h2
    try dsimp only
    omega)
/-- there is room for a code that isn't there -/
theorem BI.lt {T : Nat → Nat → B4} {x0 : B4} {m : Nat} {Q far R : Nat → Int} {w : Int} {k i : Nat} (h : BI T x0 m Q far R w k i) {n : Nat} (hn : n < 6144) (hf : far n = -1) : m < 6144 := by
  have := pigeon 6144 (m + 1) (fun j => if j < m then (Q j).toNat else n) (fun j hj => by
    try dsimp only
    split
    · have := h.1 j (by omega); omega
    · exact hn) (fun j j' h1 h2 => by
    try dsimp only
    rw [if_pos (by omega)]
    have a2 := h.1 j (by omega)
    split
    · have a1 := (h.2.2.1 j j' h1 (by omega)).1
      have a3 := h.1 j' (by omega)
      omega
    · intro e
      rw [e, hf] at a2
      omega)
  omega
theorem BI.next {T : Nat → Nat → B4} {x0 : B4} {m : Nat} {Q far R : Nat → Int} {w : Int} {k : Nat} (h : BI T x0 m Q far R w k 6) : BI T x0 m Q far R w (k + 1) 0 := by
  obtain ⟨hA, hB, hC, hD, hE, hF, hG1, hG2, hG3, hH, hK⟩ := h
  refine ⟨hA, hB, hC, fun j hj hk => ?_, fun j i' hj hi' hp => hE j i' hj hi' (by omega), hF, hG1, hG2, hG3, hH, fun hw j hj hk => hK hw j hj (by omega)⟩
  have h1 := hD j hj (by omega)
  have h2 := (hC k (k + 1) (by omega) hk).2
  omega
theorem BI.skip {T : Nat → Nat → B4} {x0 : B4} {m : Nat} {Q far R : Nat → Int} {w : Int} {k : Nat} (hs : ∀ i, i < 3 → T (Q k).toNat (i + 3) = T (Q k).toNat i) (h : BI T x0 m Q far R w k 3) : BI T x0 m Q far R w k 6 := by
  obtain ⟨hA, hB, hC, hD, hE, hF, hG1, hG2, hG3, hH, hK⟩ := h
  refine ⟨hA, hB, hC, hD, fun j i' hj hi' hp => ?_, hF, hG1, hG2, hG3, hH, hK⟩
  by_cases h3 : j < k ∨ (j = k ∧ i' < 3)
  · exact hE j i' hj hi' h3
  · have e1 : j = k := by omega
    have e2 := hE j (i' - 3) hj (by omega) (by omega)
    have e3 := hs (i' - 3) (by omega)
    rw [show i' - 3 + 3 = i' by omega] at e3
    rw [e1] at e2 ⊢
    unfold stOK at e2 ⊢
    rw [e3]
    exact e2
/-- a cell is marked -/
theorem BI.mark {T : Nat → Nat → B4} {x0 : B4} {m : Nat} {Q far R : Nat → Int} {w : Int} {k i : Nat} (h : BI T x0 m Q far R w k i) {c : Int} (hc0 : 0 ≤ c) (hc : Seen T x0 c) : BI T x0 m Q far (fu R c.toNat 1) w k i := by
  obtain ⟨hA, hB, hC, hD, hE, hF, hG1, hG2, hG3, hH, hK⟩ := h
  refine ⟨hA, hB, hC, hD, fun j i' hj hi' hp => ?_, fun a ha0 ha => ?_, hG1, fun hx => ?_, hG3, hH, hK⟩
  · obtain ⟨e1, e2, e3⟩ := hE j i' hj hi' hp
    refine ⟨e1, fun hx => ?_, e3⟩
    unfold fu; split
    · rfl
    · exact e2 hx
  · unfold fu at ha
    split at ha
    · rename_i q
      rw [q, show ((c.toNat : Nat) : Int) = c by omega]
      exact hc
    · exact hF a ha0 ha
  · unfold fu; split
    · rfl
    · exact hG2 hx
/-- the pair (k, i) is tried: what is known of it comes to what is known of the others -/
theorem BI.pair {T : Nat → Nat → B4} {x0 : B4} {m : Nat} {Q far R : Nat → Int} {w : Int} {k i : Nat} (h : BI T x0 m Q far R w k i) (hp : stOK T far R w (Q k).toNat i) : BI T x0 m Q far R w k (i + 1) := by
  obtain ⟨hA, hB, hC, hD, hE, hF, hG1, hG2, hG3, hH, hK⟩ := h
  refine ⟨hA, hB, hC, hD, fun j i' hj hi' hq => ?_, hF, hG1, hG2, hG3, hH, hK⟩
  by_cases h3 : j < k ∨ (j = k ∧ i' < i)
  · exact hE j i' hj hi' h3
  · obtain rfl : j = k := by omega
    obtain rfl : i' = i := by omega
    exact hp
/-- a new code goes to the end -/
theorem BI.push {T : Nat → Nat → B4} {x0 : B4} {m : Nat} {Q far R : Nat → Int} {w : Int} {k i : Nat} (h : BI T x0 m Q far R w k i) (hk : k < m) (hi : i < 6) (hx : (T (Q k).toNat i).2.2.2 = 1) (hn : cd (T (Q k).toNat i) < 6144) (hf : far (cd (T (Q k).toNat i)) = -1) :
    BI T x0 (m + 1) (fu Q m (cd (T (Q k).toNat i))) (fu far (cd (T (Q k).toNat i)) (far (Q k).toNat + 1)) R w k i := by
  obtain ⟨hA, hB, hC, hD, hE, hF, hG1, hG2, hG3, hH, hK⟩ := h
  generalize hn0 : cd (T (Q k).toNat i) = n0 at hn hf
  have hQ : ∀ j, j < m → fu Q m n0 j = Q j := fun j hj => fu_n (by omega)
  have hQm : fu Q m n0 m = n0 := fu_s
  have hne : ∀ j, j < m → (Q j).toNat ≠ n0 := fun j hj e => by have := hA j hj; rw [e, hf] at this; omega
  have hfo : ∀ j, j < m → fu far n0 (far (Q k).toNat + 1) (Q j).toNat = far (Q j).toNat := fun j hj => fu_n (hne j hj)
  have hfn : fu far n0 (far (Q k).toNat + 1) ((n0 : Nat) : Int).toNat = far (Q k).toNat + 1 := fu_s
  have hfn' : fu far n0 (far (Q k).toNat + 1) n0 = far (Q k).toNat + 1 := fu_s
  have hAk := hA k hk
  refine ⟨fun j hj => ?_, fun n h1 h2 => ?_, fun j j' h1 h2 => ?_, fun j hj _ => ?_, fun j i' hj hi' hp => ?_, hF, fun hx0 => ?_, hG2, hG3, hH, fun hw j hj hkj => ?_⟩
  · by_cases q : j = m
    · subst q
      rw [hQm, hfn]
      refine ⟨by omega, by omega, by omega, ?_⟩
      rw [show (far (Q k).toNat + 1).toNat = (far (Q k).toNat).toNat + 1 by omega, show ((n0 : Nat) : Int).toNat = n0 from rfl]
      exact ⟨_, hAk.2.2.2, i, hi, hx, hn0.symm⟩
    · rw [hQ j (by omega), hfo j (by omega)]
      exact hA j (by omega)
  · by_cases q : n = n0
    · exact ⟨m, by omega, by rw [hQm, q]⟩
    · rw [fu_n q] at h2
      obtain ⟨j, g1, g2⟩ := hB n h1 h2
      exact ⟨j, by omega, by rw [hQ j g1]; exact g2⟩
  · by_cases q : j' = m
    · subst q
      have a1 := hne j h1
      have a2 := hA j h1
      rw [hQm, hQ j h1, hfo j h1, hfn]
      exact ⟨by omega, hD j h1 hk⟩
    · rw [hQ j' (by omega), hQ j (by omega), hfo j (by omega), hfo j' (by omega)]
      exact hC j j' h1 (by omega)
  · rw [hQ k hk, hfo k hk]
    by_cases q : j = m
    · subst q
      rw [hQm, hfn]
      omega
    · rw [hQ j (by omega), hfo j (by omega)]
      exact hD j (by omega) hk
  · have hjm : j < m := by omega
    obtain ⟨e1, e2, e3⟩ := hE j i' hjm hi' hp
    rw [hQ j hjm]
    refine ⟨fun hx1 => ?_, e2, fun hx2 => ?_⟩
    · have := e1 hx1
      rw [fu_n (fun e => by rw [e, hf] at this; omega), hfo j hjm]
      exact this
    · rw [hfo j hjm]
      exact e3 hx2
  · obtain ⟨g1, g2, g3⟩ := hG1 hx0
    refine ⟨?_, by omega, by rw [hQ 0 g2]; exact g3⟩
    rw [fu_n (fun e => by rw [e, hf] at g1; omega)]
    exact g1
  · by_cases q : j = m
    · subst q
      rw [hQm, hfn]
      have := hK hw k hk (Nat.le_refl k)
      omega
    · rw [hQ j (by omega), hfo j (by omega)]
      exact hK hw j (by omega) hkj
/-- the first win -/
theorem BI.win {T : Nat → Nat → B4} {x0 : B4} {m : Nat} {Q far R : Nat → Int} {k i : Nat} (h : BI T x0 m Q far R (-1) k i) (hk : k < m) (hi : i < 6) (hx : (T (Q k).toNat i).2.2.2 = 2) : BI T x0 m Q far R (far (Q k).toNat + 1) k i := by
  obtain ⟨hA, hB, hC, hD, hE, hF, hG1, hG2, hG3, hH, hK⟩ := h
  have hAk := hA k hk
  refine ⟨hA, hB, hC, hD, fun j i' hj hi' hp => ?_, hF, hG1, hG2, fun hx0 => by have := hG3 hx0; omega, Or.inr ⟨by omega, ?_⟩, fun _ j hj hkj => ?_⟩
  · obtain ⟨e1, e2, e3⟩ := hE j i' hj hi' hp
    exact ⟨e1, e2, fun hx2 => absurd rfl (e3 hx2).1⟩
  · rw [show (far (Q k).toNat + 1).toNat = (far (Q k).toNat).toNat + 1 by omega]
    exact ⟨_, hAk.2.2.2, i, hi, hx⟩
  · by_cases q : k = j
    · subst q; omega
    · have := (hC k j (by omega) hj).2
      omega
theorem BI.found {T : Nat → Nat → B4} {x0 : B4} (hT : ∀ n, n < 6144 → ∀ i, i < 6 → cd (T n i) < 6144) (h0 : cd x0 < 6144) {m : Nat} {Q far R : Nat → Int} {w : Int} {k : Nat} (h : BI T x0 m Q far R w k 0) (hw : w ≠ -1) : Found T x0 w := by
  obtain ⟨hA, hB, hC, hD, hE, hF, hG1, hG2, hG3, hH, hK⟩ := h
  have hle : ∀ a b, a ≤ b → b < m → far (Q a).toNat ≤ far (Q b).toNat := fun a b h1 h2 => by
    rcases Nat.lt_or_ge a b with q | q
    · exact (hC a b q h2).2
    · obtain rfl : a = b := by omega
      exact Int.le_refl _
  have key : ∀ d n, Rch T x0 d n → n < 6144 ∧ ((∃ j, j < k ∧ j < m ∧ Q j = n ∧ far n ≤ d) ∨ (k < m ∧ far (Q k).toNat ≤ d)) := by
    intro d
    induction d with
    | zero =>
      intro n hn
      obtain ⟨g1, g2⟩ := hn
      obtain ⟨g3, g4, g5⟩ := hG1 g1
      rw [g2]
      refine ⟨h0, ?_⟩
      rcases Nat.eq_zero_or_pos k with q | q
      · right
        rw [q, g5, show ((cd x0 : Nat) : Int).toNat = cd x0 from rfl, g3]
        exact ⟨g4, Int.le_refl _⟩
      · exact Or.inl ⟨0, q, g4, g5, by rw [g3]; exact Int.le_refl _⟩
    | succ d ih =>
      intro n hn
      obtain ⟨p, hp, i, hi, hx, rfl⟩ := hn
      obtain ⟨hp1, hp2⟩ := ih p hp
      have hc := hT p hp1 i hi
      refine ⟨hc, ?_⟩
      rcases hp2 with ⟨j, j1, j2, j3, j4⟩ | ⟨q1, q2⟩
      · have he := hE j i j2 hi (Or.inl j1)
        rw [j3, show ((p : Nat) : Int).toNat = p from rfl] at he
        obtain ⟨e1, e2⟩ := he.1 hx
        obtain ⟨j', a1, a2⟩ := hB _ hc e1
        rcases Nat.lt_or_ge j' k with q | q
        · exact Or.inl ⟨j', q, a1, a2, by omega⟩
        · right
          have := hle k j' q a1
          rw [a2, show ((cd (T p i) : Nat) : Int).toNat = cd (T p i) from rfl] at this
          exact ⟨by omega, by omega⟩
      · exact Or.inr ⟨q1, by omega⟩
  rcases hH with hH | ⟨hH1, hH2⟩
  · exact absurd hH hw
  · refine Or.inr ⟨w.toNat, by omega, hH2, fun e he hwin => ?_⟩
    cases e with
    | zero => have := hG3 hwin; omega
    | succ d =>
      obtain ⟨p, hp, i, hi, hx⟩ := hwin
      rcases (key d p hp).2 with ⟨j, j1, j2, j3, j4⟩ | ⟨q1, q2⟩
      · have h2 := (hE j i j2 hi (Or.inl j1)).2.2
        rw [j3, show ((p : Nat) : Int).toNat = p from rfl] at h2
        have := (h2 hx).2
        omega
      · have := hK hw k q1 (Nat.le_refl k)
        omega
theorem BI.fin {T : Nat → Nat → B4} {x0 : B4} (hT : ∀ n, n < 6144 → ∀ i, i < 6 → cd (T n i) < 6144) (h0 : cd x0 < 6144) (hT1 : ∀ n, n < 6144 → ∀ i, i < 6 → 0 ≤ (T n i).1) (h01 : 0 ≤ x0.1) {m : Nat} {Q far R : Nat → Int} {w : Int} (h : BI T x0 m Q far R w m 0) : Found T x0 w ∧ ∀ c : Nat, c < 96 → (R c = 1 ↔ Seen T x0 c) := by
  have hfound := fun hw => BI.found hT h0 h hw
  obtain ⟨hA, hB, hC, hD, hE, hF, hG1, hG2, hG3, hH, hK⟩ := h
  have key : ∀ d n, Rch T x0 d n → n < 6144 ∧ ∃ j, j < m ∧ Q j = n := by
    intro d
    induction d with
    | zero =>
      intro n hn
      obtain ⟨g1, g2⟩ := hn
      obtain ⟨g3, g4, g5⟩ := hG1 g1
      rw [g2]
      exact ⟨h0, 0, g4, g5⟩
    | succ d ih =>
      intro n hn
      obtain ⟨p, hp, i, hi, hx, rfl⟩ := hn
      obtain ⟨hp1, j, j1, j2⟩ := ih p hp
      have hc := hT p hp1 i hi
      have he := hE j i j1 hi (Or.inl j1)
      rw [j2, show ((p : Nat) : Int).toNat = p from rfl] at he
      exact ⟨hc, hB _ hc (he.1 hx).1⟩
  refine ⟨?_, fun c hc96 => ⟨hF c hc96, fun hs => ?_⟩⟩
  · by_cases hw : w = -1
    · refine Or.inl ⟨hw, fun d hwin => ?_⟩
      cases d with
      | zero => have := hG3 hwin; omega
      | succ d =>
        obtain ⟨p, hp, i, hi, hx⟩ := hwin
        obtain ⟨hp1, j, j1, j2⟩ := key d p hp
        have he := hE j i j1 hi (Or.inl j1)
        rw [j2, show ((p : Nat) : Int).toNat = p from rfl] at he
        exact (he.2.2 hx).1 hw
    · exact hfound hw
  · rcases hs with ⟨s1, s2⟩ | ⟨d, p, i, s1, s2, s3, s4⟩
    · have := hG2 s1
      rw [← s2] at this
      exact this
    · obtain ⟨hp1, j, j1, j2⟩ := key d p s1
      have he := hE j i j1 s2 (Or.inl j1)
      rw [j2, show ((p : Nat) : Int).toNat = p from rfl] at he
      have := he.2.1 s3
      rw [← s4] at this
      exact this

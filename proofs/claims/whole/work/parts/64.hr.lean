theorem hr_start {D : va_G} {ad : AD} {c : CS} {L W : Nat} {am : AD} {m : CS} {ao : Nat} {fo : Nat → Int64} {h : vh} {x0 t : Nat} {u : Int} (hO : Ot D ad L W am m ao fo h) (hx : ad 0 0 = x0) (hR : RepC D ad c L W h) (hC : Cok c L W) (hS : Sim c L W m) (hB : SB c (21 * ((t : Nat) : Int))) : ∀ rv h9, HPo D ao fo (fun rv h' => rv = some (vI (c 10 u.toNat 4)) ∧ h' = h ∧ ((0 ≤ u ∧ u < (L : Int)))) (XP (¬ (0 ≤ u ∧ u < (L : Int))) False False h) ["java/lang/IndexOutOfBoundsException"] rv h9 → Hr D am m ao x0 t (fun r m1 => (m1 0 0 0 = 1 ∧ (¬ (0 ≤ u ∧ u < m 0 0 2)) ∧ SM m m1) ∨ (m1 0 0 0 = 0 ∧ (0 ≤ u ∧ u < m 0 0 2) ∧ r = m 5 0 u.toNat ∧ SM m m1)) rv h9 := by
  intro rv h9 hp
  obtain ⟨⟨a1, a2⟩, _⟩ := id hS
  have kl : (0 ≤ u ∧ u < (L : Int)) → m 5 0 u.toNat = c 10 u.toNat 4 := fun z9 => (hS.2.2.1 u.toNat (by omega)).1.2.1
  rcases hp with ⟨v, h1, hp, rfl, rfl⟩ | ⟨E, j, hp, hj, rfl⟩
  · obtain ⟨hv, rfl, q⟩ := hp
    refine hr_ok hO hx (CP.rf hR) hv hC (hB.le (by omega)) (fun r m1 hp => ?_)
    rcases hp with ⟨e, q1, sm⟩ | ⟨e, q1, hr, sm⟩
    all_goals first | (exfalso; omega) | exact ⟨e, hS.sm sm, by omega⟩
  · obtain ⟨rfl, hp⟩ := hp
    rcases hp with ⟨rfl, q⟩ | ⟨rfl, q⟩ | ⟨rfl, q⟩
    · obtain rfl := cs_j (k := 0) hj (by decide)
      refine hr_x hO hx hR hC hS hB (by decide) (fun r m1 hp => ?_)
      rcases hp with ⟨e, q1, sm⟩ | ⟨e, q1, sm⟩
      all_goals first | exact ⟨e.trans (by decide), sm⟩ | (exfalso; omega)
    · exact q.elim
    · exact q.elim

theorem hr_proof {D : va_G} {ad : AD} {c : CS} {L W : Nat} {am : AD} {m : CS} {ao : Nat} {fo : Nat → Int64} {h : vh} {x0 t : Nat} {u : Int} (hO : Ot D ad L W am m ao fo h) (hx : ad 0 0 = x0) (hR : RepC D ad c L W h) (hC : Cok c L W) (hS : Sim c L W m) (hB : SB c (21 * ((t : Nat) : Int))) : ∀ rv h9, HPo D ao fo (fun rv h' => rv = some (vI (c 10 u.toNat 5)) ∧ h' = h ∧ ((0 ≤ u ∧ u < (L : Int)))) (XP (¬ (0 ≤ u ∧ u < (L : Int))) False False h) ["java/lang/IndexOutOfBoundsException"] rv h9 → Hr D am m ao x0 t (fun r m1 => (m1 0 0 0 = 1 ∧ (¬ (0 ≤ u ∧ u < m 0 0 2)) ∧ SM m m1) ∨ (m1 0 0 0 = 0 ∧ (0 ≤ u ∧ u < m 0 0 2) ∧ r = m 6 0 u.toNat ∧ SM m m1)) rv h9 := by
  intro rv h9 hp
  obtain ⟨⟨a1, a2⟩, _⟩ := id hS
  have kl : (0 ≤ u ∧ u < (L : Int)) → m 6 0 u.toNat = c 10 u.toNat 5 := fun z9 => (hS.2.2.1 u.toNat (by omega)).1.2.2.1
  rcases hp with ⟨v, h1, hp, rfl, rfl⟩ | ⟨E, j, hp, hj, rfl⟩
  · obtain ⟨hv, rfl, q⟩ := hp
    refine hr_ok hO hx (CP.rf hR) hv hC (hB.le (by omega)) (fun r m1 hp => ?_)
    rcases hp with ⟨e, q1, sm⟩ | ⟨e, q1, hr, sm⟩
    all_goals first | (exfalso; omega) | exact ⟨e, hS.sm sm, by omega⟩
  · obtain ⟨rfl, hp⟩ := hp
    rcases hp with ⟨rfl, q⟩ | ⟨rfl, q⟩ | ⟨rfl, q⟩
    · obtain rfl := cs_j (k := 0) hj (by decide)
      refine hr_x hO hx hR hC hS hB (by decide) (fun r m1 hp => ?_)
      rcases hp with ⟨e, q1, sm⟩ | ⟨e, q1, sm⟩
      all_goals first | exact ⟨e.trans (by decide), sm⟩ | (exfalso; omega)
    · exact q.elim
    · exact q.elim

theorem hr_at {D : va_G} {ad : AD} {c : CS} {L W : Nat} {am : AD} {m : CS} {ao : Nat} {fo : Nat → Int64} {h : vh} {x0 t : Nat} {u z : Int} (hO : Ot D ad L W am m ao fo h) (hx : ad 0 0 = x0) (hR : RepC D ad c L W h) (hC : Cok c L W) (hS : Sim c L W m) (hB : SB c (21 * ((t : Nat) : Int))) : ∀ rv h9, HPo D ao fo (fun rv h' => rv = some (vI (c 12 u.toNat z.toNat)) ∧ h' = h ∧ ((0 ≤ u ∧ u < (L : Int)) ∧ (0 ≤ z ∧ z < 96))) (XP (¬ (0 ≤ u ∧ u < (L : Int)) ∨ ¬ (0 ≤ z ∧ z < 96)) False False h) ["java/lang/IndexOutOfBoundsException"] rv h9 → Hr D am m ao x0 t (fun r m1 => (m1 0 0 0 = 1 ∧ (¬ (0 ≤ u ∧ u < m 0 0 2) ∨ ¬ (0 ≤ z ∧ z < 96)) ∧ SM m m1) ∨ (m1 0 0 0 = 0 ∧ ((0 ≤ u ∧ u < m 0 0 2) ∧ (0 ≤ z ∧ z < 96)) ∧ r = m 4 0 (96 * u + z).toNat ∧ SM m m1)) rv h9 := by
  intro rv h9 hp
  obtain ⟨⟨a1, a2⟩, _⟩ := id hS
  have kl : ((0 ≤ u ∧ u < (L : Int)) ∧ (0 ≤ z ∧ z < 96)) → m 4 0 (96 * u + z).toNat = c 12 u.toNat z.toNat := fun z9 => by
    rw [show (96 * u + z).toNat = 96 * u.toNat + z.toNat by omega]; exact (hS.2.2.1 u.toNat (by omega)).1.2.2.2.2.1 z.toNat (by omega)
  rcases hp with ⟨v, h1, hp, rfl, rfl⟩ | ⟨E, j, hp, hj, rfl⟩
  · obtain ⟨hv, rfl, q⟩ := hp
    refine hr_ok hO hx (CP.rf hR) hv hC (hB.le (by omega)) (fun r m1 hp => ?_)
    rcases hp with ⟨e, q1, sm⟩ | ⟨e, q1, hr, sm⟩
    all_goals first | (exfalso; omega) | exact ⟨e, hS.sm sm, by omega⟩
  · obtain ⟨rfl, hp⟩ := hp
    rcases hp with ⟨rfl, q⟩ | ⟨rfl, q⟩ | ⟨rfl, q⟩
    · obtain rfl := cs_j (k := 0) hj (by decide)
      refine hr_x hO hx hR hC hS hB (by decide) (fun r m1 hp => ?_)
      rcases hp with ⟨e, q1, sm⟩ | ⟨e, q1, sm⟩
      all_goals first | exact ⟨e.trans (by decide), sm⟩ | (exfalso; omega)
    · exact q.elim
    · exact q.elim

theorem hr_author {D : va_G} {ad : AD} {c : CS} {L W : Nat} {am : AD} {m : CS} {ao : Nat} {fo : Nat → Int64} {h : vh} {x0 t : Nat} {w : Int} (hO : Ot D ad L W am m ao fo h) (hx : ad 0 0 = x0) (hR : RepC D ad c L W h) (hC : Cok c L W) (hS : Sim c L W m) (hB : SB c (21 * ((t : Nat) : Int))) : ∀ rv h9, HPo D ao fo (fun rv h' => rv = some (vI (c 18 w.toNat 1)) ∧ h' = h ∧ ((0 ≤ w ∧ w < (W : Int)))) (XP (¬ (0 ≤ w ∧ w < (W : Int))) False False h) ["java/lang/IndexOutOfBoundsException"] rv h9 → Hr D am m ao x0 t (fun r m1 => (m1 0 0 0 = 1 ∧ (¬ (0 ≤ w ∧ w < m 0 0 14)) ∧ SM m m1) ∨ (m1 0 0 0 = 0 ∧ (0 ≤ w ∧ w < m 0 0 14) ∧ r = m 15 0 w.toNat ∧ SM m m1)) rv h9 := by
  intro rv h9 hp
  obtain ⟨⟨a1, a2⟩, _⟩ := id hS
  have kl : (0 ≤ w ∧ w < (W : Int)) → m 15 0 w.toNat = c 18 w.toNat 1 := fun z9 => (hS.2.2.2.1 w.toNat (by omega)).1
  rcases hp with ⟨v, h1, hp, rfl, rfl⟩ | ⟨E, j, hp, hj, rfl⟩
  · obtain ⟨hv, rfl, q⟩ := hp
    refine hr_ok hO hx (CP.rf hR) hv hC (hB.le (by omega)) (fun r m1 hp => ?_)
    rcases hp with ⟨e, q1, sm⟩ | ⟨e, q1, hr, sm⟩
    all_goals first | (exfalso; omega) | exact ⟨e, hS.sm sm, by omega⟩
  · obtain ⟨rfl, hp⟩ := hp
    rcases hp with ⟨rfl, q⟩ | ⟨rfl, q⟩ | ⟨rfl, q⟩
    · obtain rfl := cs_j (k := 0) hj (by decide)
      refine hr_x hO hx hR hC hS hB (by decide) (fun r m1 hp => ?_)
      rcases hp with ⟨e, q1, sm⟩ | ⟨e, q1, sm⟩
      all_goals first | exact ⟨e.trans (by decide), sm⟩ | (exfalso; omega)
    · exact q.elim
    · exact q.elim

theorem hr_best {D : va_G} {ad : AD} {c : CS} {L W : Nat} {am : AD} {m : CS} {ao : Nat} {fo : Nat → Int64} {h : vh} {x0 t : Nat} {w : Int} (hO : Ot D ad L W am m ao fo h) (hx : ad 0 0 = x0) (hR : RepC D ad c L W h) (hC : Cok c L W) (hS : Sim c L W m) (hB : SB c (21 * ((t : Nat) : Int))) : ∀ rv h9, HPo D ao fo (fun rv h' => rv = some (vI (c 18 w.toNat 6)) ∧ h' = h ∧ ((0 ≤ w ∧ w < (W : Int)))) (XP (¬ (0 ≤ w ∧ w < (W : Int))) False False h) ["java/lang/IndexOutOfBoundsException"] rv h9 → Hr D am m ao x0 t (fun r m1 => (m1 0 0 0 = 1 ∧ (¬ (0 ≤ w ∧ w < m 0 0 14)) ∧ SM m m1) ∨ (m1 0 0 0 = 0 ∧ (0 ≤ w ∧ w < m 0 0 14) ∧ r = m 18 0 w.toNat ∧ SM m m1)) rv h9 := by
  intro rv h9 hp
  obtain ⟨⟨a1, a2⟩, _⟩ := id hS
  have kl : (0 ≤ w ∧ w < (W : Int)) → m 18 0 w.toNat = c 18 w.toNat 6 := fun z9 => (hS.2.2.2.1 w.toNat (by omega)).2.2.1
  rcases hp with ⟨v, h1, hp, rfl, rfl⟩ | ⟨E, j, hp, hj, rfl⟩
  · obtain ⟨hv, rfl, q⟩ := hp
    refine hr_ok hO hx (CP.rf hR) hv hC (hB.le (by omega)) (fun r m1 hp => ?_)
    rcases hp with ⟨e, q1, sm⟩ | ⟨e, q1, hr, sm⟩
    all_goals first | (exfalso; omega) | exact ⟨e, hS.sm sm, by omega⟩
  · obtain ⟨rfl, hp⟩ := hp
    rcases hp with ⟨rfl, q⟩ | ⟨rfl, q⟩ | ⟨rfl, q⟩
    · obtain rfl := cs_j (k := 0) hj (by decide)
      refine hr_x hO hx hR hC hS hB (by decide) (fun r m1 hp => ?_)
      rcases hp with ⟨e, q1, sm⟩ | ⟨e, q1, sm⟩
      all_goals first | exact ⟨e.trans (by decide), sm⟩ | (exfalso; omega)
    · exact q.elim
    · exact q.elim

theorem hr_parent {D : va_G} {ad : AD} {c : CS} {L W : Nat} {am : AD} {m : CS} {ao : Nat} {fo : Nat → Int64} {h : vh} {x0 t : Nat} {w : Int} (hO : Ot D ad L W am m ao fo h) (hx : ad 0 0 = x0) (hR : RepC D ad c L W h) (hC : Cok c L W) (hS : Sim c L W m) (hB : SB c (21 * ((t : Nat) : Int))) : ∀ rv h9, HPo D ao fo (fun rv h' => rv = some (vI (c 18 w.toNat 2 - 1)) ∧ h' = h ∧ ((0 ≤ w ∧ w < (W : Int)))) (XP (¬ (0 ≤ w ∧ w < (W : Int))) False False h) ["java/lang/IndexOutOfBoundsException"] rv h9 → Hr D am m ao x0 t (fun r m1 => (m1 0 0 0 = 1 ∧ (¬ (0 ≤ w ∧ w < m 0 0 14)) ∧ SM m m1) ∨ (m1 0 0 0 = 0 ∧ (0 ≤ w ∧ w < m 0 0 14) ∧ r = m 19 0 w.toNat ∧ SM m m1)) rv h9 := by
  intro rv h9 hp
  obtain ⟨⟨a1, a2⟩, _⟩ := id hS
  have kl : (0 ≤ w ∧ w < (W : Int)) → m 19 0 w.toNat = c 18 w.toNat 2 - 1 := fun z9 => (hS.2.2.2.1 w.toNat (by omega)).2.2.2.1
  rcases hp with ⟨v, h1, hp, rfl, rfl⟩ | ⟨E, j, hp, hj, rfl⟩
  · obtain ⟨hv, rfl, q⟩ := hp
    refine hr_ok hO hx (CP.rf hR) hv hC (hB.le (by omega)) (fun r m1 hp => ?_)
    rcases hp with ⟨e, q1, sm⟩ | ⟨e, q1, hr, sm⟩
    all_goals first | (exfalso; omega) | exact ⟨e, hS.sm sm, by omega⟩
  · obtain ⟨rfl, hp⟩ := hp
    rcases hp with ⟨rfl, q⟩ | ⟨rfl, q⟩ | ⟨rfl, q⟩
    · obtain rfl := cs_j (k := 0) hj (by decide)
      refine hr_x hO hx hR hC hS hB (by decide) (fun r m1 hp => ?_)
      rcases hp with ⟨e, q1, sm⟩ | ⟨e, q1, sm⟩
      all_goals first | exact ⟨e.trans (by decide), sm⟩ | (exfalso; omega)
    · exact q.elim
    · exact q.elim

theorem hr_record {D : va_G} {ad : AD} {c : CS} {L W : Nat} {am : AD} {m : CS} {ao : Nat} {fo : Nat → Int64} {h : vh} {x0 t : Nat} {w : Int} (hO : Ot D ad L W am m ao fo h) (hx : ad 0 0 = x0) (hR : RepC D ad c L W h) (hC : Cok c L W) (hS : Sim c L W m) (hB : SB c (21 * ((t : Nat) : Int))) : ∀ rv h9, HPo D ao fo (fun rv h' => rv = some (vI (c 18 w.toNat 7)) ∧ h' = h ∧ ((0 ≤ w ∧ w < (W : Int)))) (XP (¬ (0 ≤ w ∧ w < (W : Int))) False False h) ["java/lang/IndexOutOfBoundsException"] rv h9 → Hr D am m ao x0 t (fun r m1 => (m1 0 0 0 = 1 ∧ (¬ (0 ≤ w ∧ w < m 0 0 14)) ∧ SM m m1) ∨ (m1 0 0 0 = 0 ∧ (0 ≤ w ∧ w < m 0 0 14) ∧ r = m 20 0 w.toNat ∧ SM m m1)) rv h9 := by
  intro rv h9 hp
  obtain ⟨⟨a1, a2⟩, _⟩ := id hS
  have kl : (0 ≤ w ∧ w < (W : Int)) → m 20 0 w.toNat = c 18 w.toNat 7 := fun z9 => (hS.2.2.2.1 w.toNat (by omega)).2.2.2.2.1
  rcases hp with ⟨v, h1, hp, rfl, rfl⟩ | ⟨E, j, hp, hj, rfl⟩
  · obtain ⟨hv, rfl, q⟩ := hp
    refine hr_ok hO hx (CP.rf hR) hv hC (hB.le (by omega)) (fun r m1 hp => ?_)
    rcases hp with ⟨e, q1, sm⟩ | ⟨e, q1, hr, sm⟩
    all_goals first | (exfalso; omega) | exact ⟨e, hS.sm sm, by omega⟩
  · obtain ⟨rfl, hp⟩ := hp
    rcases hp with ⟨rfl, q⟩ | ⟨rfl, q⟩ | ⟨rfl, q⟩
    · obtain rfl := cs_j (k := 0) hj (by decide)
      refine hr_x hO hx hR hC hS hB (by decide) (fun r m1 hp => ?_)
      rcases hp with ⟨e, q1, sm⟩ | ⟨e, q1, sm⟩
      all_goals first | exact ⟨e.trans (by decide), sm⟩ | (exfalso; omega)
    · exact q.elim
    · exact q.elim

theorem hr_runState {D : va_G} {ad : AD} {c : CS} {L W : Nat} {am : AD} {m : CS} {ao : Nat} {fo : Nat → Int64} {h : vh} {x0 t : Nat} {p : Int} (hO : Ot D ad L W am m ao fo h) (hx : ad 0 0 = x0) (hR : RepC D ad c L W h) (hC : Cok c L W) (hS : Sim c L W m) (hB : SB c (21 * ((t : Nat) : Int))) : ∀ rv h9, HPo D ao fo (fun rv h' => rv = some (vI (c 23 p.toNat 2)) ∧ h' = h ∧ ((0 ≤ p ∧ p < 6))) (XP (¬ (0 ≤ p ∧ p < 6)) False False h) ["java/lang/IndexOutOfBoundsException"] rv h9 → Hr D am m ao x0 t (fun r m1 => (m1 0 0 0 = 1 ∧ (¬ (0 ≤ p ∧ p < 6)) ∧ SM m m1) ∨ (m1 0 0 0 = 0 ∧ (0 ≤ p ∧ p < 6) ∧ r = m 22 0 p.toNat ∧ SM m m1)) rv h9 := by
  intro rv h9 hp
  obtain ⟨⟨a1, a2⟩, _⟩ := id hS
  have kl : (0 ≤ p ∧ p < 6) → m 22 0 p.toNat = c 23 p.toNat 2 := fun z9 => (hS.2.2.2.2.1 p.toNat (by omega)).1
  rcases hp with ⟨v, h1, hp, rfl, rfl⟩ | ⟨E, j, hp, hj, rfl⟩
  · obtain ⟨hv, rfl, q⟩ := hp
    refine hr_ok hO hx (CP.rf hR) hv hC (hB.le (by omega)) (fun r m1 hp => ?_)
    rcases hp with ⟨e, q1, sm⟩ | ⟨e, q1, hr, sm⟩
    all_goals first | (exfalso; omega) | exact ⟨e, hS.sm sm, by omega⟩
  · obtain ⟨rfl, hp⟩ := hp
    rcases hp with ⟨rfl, q⟩ | ⟨rfl, q⟩ | ⟨rfl, q⟩
    · obtain rfl := cs_j (k := 0) hj (by decide)
      refine hr_x hO hx hR hC hS hB (by decide) (fun r m1 hp => ?_)
      rcases hp with ⟨e, q1, sm⟩ | ⟨e, q1, sm⟩
      all_goals first | exact ⟨e.trans (by decide), sm⟩ | (exfalso; omega)
    · exact q.elim
    · exact q.elim

theorem hr_stepsOf {D : va_G} {ad : AD} {c : CS} {L W : Nat} {am : AD} {m : CS} {ao : Nat} {fo : Nat → Int64} {h : vh} {x0 t : Nat} {p : Int} (hO : Ot D ad L W am m ao fo h) (hx : ad 0 0 = x0) (hR : RepC D ad c L W h) (hC : Cok c L W) (hS : Sim c L W m) (hB : SB c (21 * ((t : Nat) : Int))) : ∀ rv h9, HPo D ao fo (fun rv h' => rv = some (vI (c 23 p.toNat 3)) ∧ h' = h ∧ ((0 ≤ p ∧ p < 6))) (XP (¬ (0 ≤ p ∧ p < 6)) False False h) ["java/lang/IndexOutOfBoundsException"] rv h9 → Hr D am m ao x0 t (fun r m1 => (m1 0 0 0 = 1 ∧ (¬ (0 ≤ p ∧ p < 6)) ∧ SM m m1) ∨ (m1 0 0 0 = 0 ∧ (0 ≤ p ∧ p < 6) ∧ r = m 27 0 p.toNat ∧ SM m m1)) rv h9 := by
  intro rv h9 hp
  obtain ⟨⟨a1, a2⟩, _⟩ := id hS
  have kl : (0 ≤ p ∧ p < 6) → m 27 0 p.toNat = c 23 p.toNat 3 := fun z9 => (hS.2.2.2.2.1 p.toNat (by omega)).2.1
  rcases hp with ⟨v, h1, hp, rfl, rfl⟩ | ⟨E, j, hp, hj, rfl⟩
  · obtain ⟨hv, rfl, q⟩ := hp
    refine hr_ok hO hx (CP.rf hR) hv hC (hB.le (by omega)) (fun r m1 hp => ?_)
    rcases hp with ⟨e, q1, sm⟩ | ⟨e, q1, hr, sm⟩
    all_goals first | (exfalso; omega) | exact ⟨e, hS.sm sm, by omega⟩
  · obtain ⟨rfl, hp⟩ := hp
    rcases hp with ⟨rfl, q⟩ | ⟨rfl, q⟩ | ⟨rfl, q⟩
    · obtain rfl := cs_j (k := 0) hj (by decide)
      refine hr_x hO hx hR hC hS hB (by decide) (fun r m1 hp => ?_)
      rcases hp with ⟨e, q1, sm⟩ | ⟨e, q1, sm⟩
      all_goals first | exact ⟨e.trans (by decide), sm⟩ | (exfalso; omega)
    · exact q.elim
    · exact q.elim

theorem hr_speed {D : va_G} {ad : AD} {c : CS} {L W : Nat} {am : AD} {m : CS} {ao : Nat} {fo : Nat → Int64} {h : vh} {x0 t : Nat} {p : Int} (hO : Ot D ad L W am m ao fo h) (hx : ad 0 0 = x0) (hR : RepC D ad c L W h) (hC : Cok c L W) (hS : Sim c L W m) (hB : SB c (21 * ((t : Nat) : Int))) : ∀ rv h9, HPo D ao fo (fun rv h' => rv = some (vI (c 24 p.toNat 2)) ∧ h' = h ∧ ((0 ≤ p ∧ p < 6))) (XP (¬ (0 ≤ p ∧ p < 6)) False False h) ["java/lang/IndexOutOfBoundsException"] rv h9 → Hr D am m ao x0 t (fun r m1 => (m1 0 0 0 = 1 ∧ (¬ (0 ≤ p ∧ p < 6)) ∧ SM m m1) ∨ (m1 0 0 0 = 0 ∧ (0 ≤ p ∧ p < 6) ∧ r = m 25 0 p.toNat ∧ SM m m1)) rv h9 := by
  intro rv h9 hp
  obtain ⟨⟨a1, a2⟩, _⟩ := id hS
  have kl : (0 ≤ p ∧ p < 6) → m 25 0 p.toNat = c 24 p.toNat 2 := fun z9 => (hS.2.2.2.2.1 p.toNat (by omega)).2.2.2.1
  rcases hp with ⟨v, h1, hp, rfl, rfl⟩ | ⟨E, j, hp, hj, rfl⟩
  · obtain ⟨hv, rfl, q⟩ := hp
    refine hr_ok hO hx (CP.rf hR) hv hC (hB.le (by omega)) (fun r m1 hp => ?_)
    rcases hp with ⟨e, q1, sm⟩ | ⟨e, q1, hr, sm⟩
    all_goals first | (exfalso; omega) | exact ⟨e, hS.sm sm, by omega⟩
  · obtain ⟨rfl, hp⟩ := hp
    rcases hp with ⟨rfl, q⟩ | ⟨rfl, q⟩ | ⟨rfl, q⟩
    · obtain rfl := cs_j (k := 0) hj (by decide)
      refine hr_x hO hx hR hC hS hB (by decide) (fun r m1 hp => ?_)
      rcases hp with ⟨e, q1, sm⟩ | ⟨e, q1, sm⟩
      all_goals first | exact ⟨e.trans (by decide), sm⟩ | (exfalso; omega)
    · exact q.elim
    · exact q.elim

theorem hr_strength {D : va_G} {ad : AD} {c : CS} {L W : Nat} {am : AD} {m : CS} {ao : Nat} {fo : Nat → Int64} {h : vh} {x0 t : Nat} {s : Int} (hO : Ot D ad L W am m ao fo h) (hx : ad 0 0 = x0) (hR : RepC D ad c L W h) (hC : Cok c L W) (hS : Sim c L W m) (hB : SB c (21 * ((t : Nat) : Int))) : ∀ rv h9, HPo D ao fo (fun rv h' => rv = some (vI (c 1 0 s.toNat)) ∧ h' = h ∧ (0 ≤ s ∧ s < 3)) (XP (¬ (0 ≤ s ∧ s < 3)) False False h) ["java/lang/IndexOutOfBoundsException"] rv h9 → Hr D am m ao x0 t (fun r m1 => (m1 0 0 0 = 1 ∧ (¬ (0 ≤ s ∧ s < 3)) ∧ SM m m1) ∨ (m1 0 0 0 = 0 ∧ (0 ≤ s ∧ s < 3) ∧ r = m 1 0 s.toNat ∧ SM m m1)) rv h9 := by
  intro rv h9 hp
  obtain ⟨⟨a1, a2⟩, _⟩ := id hS
  have kl : m 1 0 s.toNat = c 1 0 s.toNat := by rw [hS.2.1]
  rcases hp with ⟨v, h1, hp, rfl, rfl⟩ | ⟨E, j, hp, hj, rfl⟩
  · obtain ⟨hv, rfl, q⟩ := hp
    refine hr_ok hO hx (CP.rf hR) hv hC (hB.le (by omega)) (fun r m1 hp => ?_)
    rcases hp with ⟨e, q1, sm⟩ | ⟨e, q1, hr, sm⟩
    all_goals first | (exfalso; omega) | exact ⟨e, hS.sm sm, by omega⟩
  · obtain ⟨rfl, hp⟩ := hp
    rcases hp with ⟨rfl, q⟩ | ⟨rfl, q⟩ | ⟨rfl, q⟩
    · obtain rfl := cs_j (k := 0) hj (by decide)
      refine hr_x hO hx hR hC hS hB (by decide) (fun r m1 hp => ?_)
      rcases hp with ⟨e, q1, sm⟩ | ⟨e, q1, sm⟩
      all_goals first | exact ⟨e.trans (by decide), sm⟩ | (exfalso; omega)
    · exact q.elim
    · exact q.elim

theorem hr_edits {D : va_G} {ad : AD} {c : CS} {L W : Nat} {am : AD} {m : CS} {ao : Nat} {fo : Nat → Int64} {h : vh} {x0 t : Nat} {u b : Int} (hO : Ot D ad L W am m ao fo h) (hx : ad 0 0 = x0) (hR : RepC D ad c L W h) (hC : Cok c L W) (hS : Sim c L W m) (hB : SB c (21 * ((t : Nat) : Int))) : ∀ rv h9, HPo D ao fo (fun rv h' => rv = some (vI ((if b = 0 then (((c 14 u.toNat 4).toNat : Nat) : Int) else (((c 14 u.toNat 3).toNat : Nat) : Int)))) ∧ h' = h ∧ ((0 ≤ u ∧ u < (L : Int)))) (XP (¬ (0 ≤ u ∧ u < (L : Int))) False False h) ["java/lang/IndexOutOfBoundsException"] rv h9 → Hr D am m ao x0 t (fun r m1 => (m1 0 0 0 = 1 ∧ (¬ (0 ≤ u ∧ u < m 0 0 2)) ∧ SM m m1) ∨ (m1 0 0 0 = 0 ∧ (0 ≤ u ∧ u < m 0 0 2 ∧ b = 0) ∧ r = m 11 0 u.toNat ∧ SM m m1) ∨ (m1 0 0 0 = 0 ∧ (0 ≤ u ∧ u < m 0 0 2 ∧ ¬ b = 0) ∧ r = m 8 0 u.toNat ∧ SM m m1)) rv h9 := by
  intro rv h9 hp
  obtain ⟨⟨a1, a2⟩, _⟩ := id hS
  have kl : (0 ≤ u ∧ u < (L : Int)) → m 8 0 u.toNat = c 14 u.toNat 3 ∧ m 11 0 u.toNat = c 14 u.toNat 4 ∧ 0 ≤ c 14 u.toNat 3 ∧ 0 ≤ c 14 u.toNat 4 := fun z9 => ⟨(hS.2.2.1 u.toNat (by omega)).2.1, (hS.2.2.1 u.toNat (by omega)).2.2.1, (hC.2.2.1 u.toNat (by omega)).2.2.1.1, (hC.2.2.1 u.toNat (by omega)).2.2.1.2.1⟩
  rcases hp with ⟨v, h1, hp, rfl, rfl⟩ | ⟨E, j, hp, hj, rfl⟩
  · obtain ⟨hv, rfl, q⟩ := hp
    refine hr_ok hO hx (CP.rf hR) hv hC (hB.le (by omega)) (fun r m1 hp => ?_)
    rcases hp with ⟨e, q1, sm⟩ | ⟨e, q1, hr, sm⟩ | ⟨e, q1, hr, sm⟩
    all_goals first | (exfalso; omega) | exact ⟨e, hS.sm sm, by split <;> omega⟩
  · obtain ⟨rfl, hp⟩ := hp
    rcases hp with ⟨rfl, q⟩ | ⟨rfl, q⟩ | ⟨rfl, q⟩
    · obtain rfl := cs_j (k := 0) hj (by decide)
      refine hr_x hO hx hR hC hS hB (by decide) (fun r m1 hp => ?_)
      rcases hp with ⟨e, q1, sm⟩ | ⟨e, q1, sm⟩ | ⟨e, q1, sm⟩
      all_goals first | exact ⟨e.trans (by decide), sm⟩ | (exfalso; omega)
    · exact q.elim
    · exact q.elim

theorem hr_body {D : va_G} {ad : AD} {c : CS} {L W : Nat} {am : AD} {m : CS} {ao : Nat} {fo : Nat → Int64} {h : vh} {x0 t : Nat} {p : Int} (hO : Ot D ad L W am m ao fo h) (hx : ad 0 0 = x0) (hR : RepC D ad c L W h) (hC : Cok c L W) (hS : Sim c L W m) (hB : SB c (21 * ((t : Nat) : Int))) : ∀ rv h9, HPo D ao fo (fun rv h' => rv = some (vI (if c 23 p.toNat 2 = 0 then -1 else c 24 p.toNat 1)) ∧ h' = h ∧ ((0 ≤ p ∧ p < 6))) (XP (¬ (0 ≤ p ∧ p < 6)) False False h) ["java/lang/IndexOutOfBoundsException"] rv h9 → Hr D am m ao x0 t (fun r m1 => (m1 0 0 0 = 1 ∧ (¬ (0 ≤ p ∧ p < 6)) ∧ SM m m1) ∨ (m1 0 0 0 = 0 ∧ (0 ≤ p ∧ p < 6 ∧ m 22 0 p.toNat = 0) ∧ r = -1 ∧ SM m m1) ∨ (m1 0 0 0 = 0 ∧ (0 ≤ p ∧ p < 6 ∧ ¬ m 22 0 p.toNat = 0) ∧ r = m 24 0 p.toNat ∧ SM m m1)) rv h9 := by
  intro rv h9 hp
  obtain ⟨⟨a1, a2⟩, _⟩ := id hS
  have kl : (0 ≤ p ∧ p < 6) → m 22 0 p.toNat = c 23 p.toNat 2 ∧ m 24 0 p.toNat = c 24 p.toNat 1 := fun z9 => ⟨(hS.2.2.2.2.1 p.toNat (by omega)).1, (hS.2.2.2.2.1 p.toNat (by omega)).2.2.1⟩
  rcases hp with ⟨v, h1, hp, rfl, rfl⟩ | ⟨E, j, hp, hj, rfl⟩
  · obtain ⟨hv, rfl, q⟩ := hp
    refine hr_ok hO hx (CP.rf hR) hv hC (hB.le (by omega)) (fun r m1 hp => ?_)
    rcases hp with ⟨e, q1, sm⟩ | ⟨e, q1, hr, sm⟩ | ⟨e, q1, hr, sm⟩
    all_goals first | (exfalso; omega) | exact ⟨e, hS.sm sm, by split <;> omega⟩
  · obtain ⟨rfl, hp⟩ := hp
    rcases hp with ⟨rfl, q⟩ | ⟨rfl, q⟩ | ⟨rfl, q⟩
    · obtain rfl := cs_j (k := 0) hj (by decide)
      refine hr_x hO hx hR hC hS hB (by decide) (fun r m1 hp => ?_)
      rcases hp with ⟨e, q1, sm⟩ | ⟨e, q1, sm⟩ | ⟨e, q1, sm⟩
      all_goals first | exact ⟨e.trans (by decide), sm⟩ | (exfalso; omega)
    · exact q.elim
    · exact q.elim

theorem hr_keys {D : va_G} {ad : AD} {c : CS} {L W : Nat} {am : AD} {m : CS} {ao : Nat} {fo : Nat → Int64} {h : vh} {x0 t : Nat} {p : Int} (hO : Ot D ad L W am m ao fo h) (hx : ad 0 0 = x0) (hR : RepC D ad c L W h) (hC : Cok c L W) (hS : Sim c L W m) (hB : SB c (21 * ((t : Nat) : Int))) : ∀ rv h9, HPo D ao fo (fun rv h' => rv = some (vI ((pc3 (c 24 p.toNat 3).toNat : Nat) : Int)) ∧ h' = h ∧ ((0 ≤ p ∧ p < 6))) (XP (¬ (0 ≤ p ∧ p < 6)) False False h) ["java/lang/IndexOutOfBoundsException"] rv h9 → Hr D am m ao x0 t (fun r m1 => (m1 0 0 0 = 1 ∧ (¬ (0 ≤ p ∧ p < 6)) ∧ SM m m1) ∨ (m1 0 0 0 = 0 ∧ (0 ≤ p ∧ p < 6) ∧ r = ((pc3 (m 26 0 p.toNat).toNat : Nat) : Int) ∧ SM m m1)) rv h9 := by
  intro rv h9 hp
  obtain ⟨⟨a1, a2⟩, _⟩ := id hS
  rcases hp with ⟨v, h1, hp, rfl, rfl⟩ | ⟨E, j, hp, hj, rfl⟩
  · obtain ⟨hv, rfl, q⟩ := hp
    refine hr_ok hO hx (CP.rf hR) hv hC (hB.le (by omega)) (fun r m1 hp => ?_)
    rcases hp with ⟨e, q1, sm⟩ | ⟨e, q1, hr, sm⟩
    all_goals first | (exfalso; omega) | exact ⟨e, hS.sm sm, by rw [hr, ans_keys hS hC (p := p.toNat) (by omega)]⟩
  · obtain ⟨rfl, hp⟩ := hp
    rcases hp with ⟨rfl, q⟩ | ⟨rfl, q⟩ | ⟨rfl, q⟩
    · obtain rfl := cs_j (k := 0) hj (by decide)
      refine hr_x hO hx hR hC hS hB (by decide) (fun r m1 hp => ?_)
      rcases hp with ⟨e, q1, sm⟩ | ⟨e, q1, sm⟩
      all_goals first | exact ⟨e.trans (by decide), sm⟩ | (exfalso; omega)
    · exact q.elim
    · exact q.elim

theorem hr_stars {D : va_G} {ad : AD} {c : CS} {L W : Nat} {am : AD} {m : CS} {ao : Nat} {fo : Nat → Int64} {h : vh} {x0 t : Nat} {w : Int} (hO : Ot D ad L W am m ao fo h) (hx : ad 0 0 = x0) (hR : RepC D ad c L W h) (hC : Cok c L W) (hS : Sim c L W m) (hB : SB c (21 * ((t : Nat) : Int))) : ∀ rv h9, HPo D ao fo (fun rv h' => rv = some (vI (sumN (c 22 w.toNat) 6)) ∧ h' = h ∧ ((0 ≤ w ∧ w < (W : Int)))) (XP (¬ (0 ≤ w ∧ w < (W : Int))) False False h) ["java/lang/IndexOutOfBoundsException"] rv h9 → Hr D am m ao x0 t (fun r m1 => (m1 0 0 0 = 1 ∧ (¬ (0 ≤ w ∧ w < m 0 0 14)) ∧ SM m m1) ∨ (m1 0 0 0 = 0 ∧ (0 ≤ w ∧ w < m 0 0 14) ∧ r = sumN (fun j => m 21 0 (6 * w.toNat + j)) 6 ∧ SM m m1)) rv h9 := by
  intro rv h9 hp
  obtain ⟨⟨a1, a2⟩, _⟩ := id hS
  rcases hp with ⟨v, h1, hp, rfl, rfl⟩ | ⟨E, j, hp, hj, rfl⟩
  · obtain ⟨hv, rfl, q⟩ := hp
    refine hr_ok hO hx (CP.rf hR) hv hC (hB.le (by omega)) (fun r m1 hp => ?_)
    rcases hp with ⟨e, q1, sm⟩ | ⟨e, q1, hr, sm⟩
    all_goals first | (exfalso; omega) | exact ⟨e, hS.sm sm, by rw [hr, ans_stars hS (w := w.toNat) (by omega)]⟩
  · obtain ⟨rfl, hp⟩ := hp
    rcases hp with ⟨rfl, q⟩ | ⟨rfl, q⟩ | ⟨rfl, q⟩
    · obtain rfl := cs_j (k := 0) hj (by decide)
      refine hr_x hO hx hR hC hS hB (by decide) (fun r m1 hp => ?_)
      rcases hp with ⟨e, q1, sm⟩ | ⟨e, q1, sm⟩
      all_goals first | exact ⟨e.trans (by decide), sm⟩ | (exfalso; omega)
    · exact q.elim
    · exact q.elim

theorem hr_line {D : va_G} {ad : AD} {c : CS} {L W : Nat} {am : AD} {m : CS} {ao : Nat} {fo : Nat → Int64} {h : vh} {x0 t : Nat} {w : Int} (hO : Ot D ad L W am m ao fo h) (hx : ad 0 0 = x0) (hR : RepC D ad c L W h) (hC : Cok c L W) (hS : Sim c L W m) (hB : SB c (21 * ((t : Nat) : Int))) : ∀ rv h9, HPo D ao fo (fun rv h' => rv = some (vI (sumN (lnB c w.toNat) W)) ∧ h' = h ∧ ((0 ≤ w ∧ w < (W : Int)))) (XP (¬ (0 ≤ w ∧ w < (W : Int))) False False h) ["java/lang/IndexOutOfBoundsException"] rv h9 → Hr D am m ao x0 t (fun r m1 => (m1 0 0 0 = 1 ∧ (¬ (0 ≤ w ∧ w < m 0 0 14)) ∧ SM m m1) ∨ (m1 0 0 0 = 0 ∧ (0 ≤ w ∧ w < m 0 0 14) ∧ r = sumN (lnM m w.toNat) (m 0 0 14).toNat ∧ SM m m1)) rv h9 := by
  intro rv h9 hp
  obtain ⟨⟨a1, a2⟩, _⟩ := id hS
  rcases hp with ⟨v, h1, hp, rfl, rfl⟩ | ⟨E, j, hp, hj, rfl⟩
  · obtain ⟨hv, rfl, q⟩ := hp
    refine hr_ok hO hx (CP.rf hR) hv hC (hB.le (by omega)) (fun r m1 hp => ?_)
    rcases hp with ⟨e, q1, sm⟩ | ⟨e, q1, hr, sm⟩
    all_goals first | (exfalso; omega) | exact ⟨e, hS.sm sm, by rw [hr, ans_line hS hC (w := w.toNat)]⟩
  · obtain ⟨rfl, hp⟩ := hp
    rcases hp with ⟨rfl, q⟩ | ⟨rfl, q⟩ | ⟨rfl, q⟩
    · obtain rfl := cs_j (k := 0) hj (by decide)
      refine hr_x hO hx hR hC hS hB (by decide) (fun r m1 hp => ?_)
      rcases hp with ⟨e, q1, sm⟩ | ⟨e, q1, sm⟩
      all_goals first | exact ⟨e.trans (by decide), sm⟩ | (exfalso; omega)
    · exact q.elim
    · exact q.elim

theorem hr_credit {D : va_G} {ad : AD} {c : CS} {L W : Nat} {am : AD} {m : CS} {ao : Nat} {fo : Nat → Int64} {h : vh} {x0 t : Nat} {p : Int} (hO : Ot D ad L W am m ao fo h) (hx : ad 0 0 = x0) (hR : RepC D ad c L W h) (hC : Cok c L W) (hS : Sim c L W m) (hB : SB c (21 * ((t : Nat) : Int))) : ∀ rv h9, HPo D ao fo (fun rv h' => rv = some (vI (sumN (crB c p) W)) ∧ h' = h ∧ ((0 ≤ p ∧ p < 6))) (XP (¬ (0 ≤ p ∧ p < 6)) False False h) ["java/lang/IndexOutOfBoundsException"] rv h9 → Hr D am m ao x0 t (fun r m1 => (m1 0 0 0 = 1 ∧ (¬ (0 ≤ p ∧ p < 6)) ∧ SM m m1) ∨ (m1 0 0 0 = 0 ∧ (0 ≤ p ∧ p < 6) ∧ r = sumN (crM m p) (m 0 0 14).toNat ∧ SM m m1)) rv h9 := by
  intro rv h9 hp
  obtain ⟨⟨a1, a2⟩, _⟩ := id hS
  rcases hp with ⟨v, h1, hp, rfl, rfl⟩ | ⟨E, j, hp, hj, rfl⟩
  · obtain ⟨hv, rfl, q⟩ := hp
    refine hr_ok hO hx (CP.rf hR) hv hC (hB.le (by omega)) (fun r m1 hp => ?_)
    rcases hp with ⟨e, q1, sm⟩ | ⟨e, q1, hr, sm⟩
    all_goals first | (exfalso; omega) | exact ⟨e, hS.sm sm, by rw [hr, ans_credit hS hC (p := p)]⟩
  · obtain ⟨rfl, hp⟩ := hp
    rcases hp with ⟨rfl, q⟩ | ⟨rfl, q⟩ | ⟨rfl, q⟩
    · obtain rfl := cs_j (k := 0) hj (by decide)
      refine hr_x hO hx hR hC hS hB (by decide) (fun r m1 hp => ?_)
      rcases hp with ⟨e, q1, sm⟩ | ⟨e, q1, sm⟩
      all_goals first | exact ⟨e.trans (by decide), sm⟩ | (exfalso; omega)
    · exact q.elim
    · exact q.elim


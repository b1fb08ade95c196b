section HR2
variable {D : va_G} {ad : AD} {c : CS} {L W : Nat} {am : AD} {m : CS} {ao : Nat} {fo : Nat → Int64} {h h1 : vh} {x t : Nat} {PR : Int → CS → Prop}
theorem hr_ok2 {c' : CS} {v w : Int} (hO : Ot D ad L W am m ao fo h) (hx : ad 0 0 = x) (hcp : CP D ad L W h c' h1) (hv : some (vI v) = some (vI w)) (hB : SB c' (21 * ((t + 1 : Nat) : Int))) (hA : ∀ r m1, PR r m1 → m1 0 0 0 = 0 ∧ Sim c' L W m1 ∧ r = w ∧ Cok c' L W) :
    Hr D am m ao x t PR (some (vI 0)) (hu h1 ao (eJ D 1 (vp_updL fo 0 (iI v).toInt64))) := by
  obtain ⟨r1, r2⟩ := (hO.fr hcp.2).out hcp.1 (vp_updL fo 0 (iI v).toInt64)
  refine ⟨0, ad, c', L, W, _, rfl, ⟨by decide, by decide⟩, r1, r2, hx, hB, fun r m1 hp => ?_⟩
  obtain ⟨a1, a2, a3, a4⟩ := hA r m1 hp
  refine ⟨a1, a2, fun _ => ?_, a4⟩
  show (if 0 = 0 then (iI v).toInt64 else fo 0) = _
  rw [if_pos rfl, vI_inj hv, a3]
end HR2
theorem CLo.sb {c c' : CS} {u : Nat} {b : Int} (h : SB c b) (hc : CLo c c' u) : SB c' b := h.ke (fun k x y => hc k 0 (by omega))
theorem rnM_s {m : CS} {p w : Nat} {x : B4} {n : Int} (h : m 23 0 p = ((w : Nat) : Int)) : rnM m p w x n = kpX (cu m 27 0 (fu (m 27 0) p n)) p w x := by
  unfold rnM
  rw [← h, fu_self, cu_id rfl]

theorem hr_setStart {D : va_G} {ad : AD} {c : CS} {L W : Nat} {am : AD} {m : CS} {ao : Nat} {fo : Nat → Int64} {h : vh} {x0 t : Nat} {u z : Int} (hO : Ot D ad L W am m ao fo h) (hx : ad 0 0 = x0) (hR : RepC D ad c L W h) (hC : Cok c L W) (hS : Sim c L W m) (hB : SB c (21 * ((t : Nat) : Int))) : ∀ rv h9, HPo D ao fo (fun rv h' => rv = some (vI (c 10 u.toNat 4)) ∧ CP D ad L W h ((cu c 10 u.toNat (oF [c 10 u.toNat 0, c 10 u.toNat 1, 0, 0, z, (-2)]))) h' ∧ ((0 ≤ u ∧ u < (L : Int)) ∧ (0 ≤ z ∧ z < 96))) (XP (¬ (0 ≤ u ∧ u < (L : Int)) ∨ ¬ (0 ≤ z ∧ z < 96)) False False h) ["java/lang/IndexOutOfBoundsException"] rv h9 → Hr D am m ao x0 t (fun r m1 => (m1 0 0 0 = 1 ∧ (¬ (0 ≤ u ∧ u < m 0 0 2) ∨ ¬ (0 ≤ z ∧ z < 96)) ∧ SM m m1) ∨ (m1 0 0 0 = 0 ∧ (0 ≤ u ∧ u < m 0 0 2 ∧ (0 ≤ z ∧ z < 96)) ∧ r = m 5 0 u.toNat ∧ SM (cu (cu m 5 0 (fu (m 5 0) u.toNat z)) 6 0 (fu (m 6 0) u.toNat (-2))) m1)) rv h9 := by
  intro rv h9 hp
  obtain ⟨⟨a1, a2⟩, _⟩ := id hS
  have kl : (0 ≤ u ∧ u < (L : Int)) → m 5 0 u.toNat = c 10 u.toNat 4 := fun z9 => (hS.2.2.1 u.toNat (by omega)).1.2.1
  rcases hp with ⟨v, h1, hp, rfl, rfl⟩ | ⟨E, j, hp, hj, rfl⟩
  · obtain ⟨hv, hcp, q⟩ := hp
    obtain ⟨s1, s2⟩ := sim_start hS hC (u := u.toNat) (by omega) (z := z) (by omega)
    refine hr_ok hO hx hcp hv s1 ((CLo.sb hB (CLo.rf.cu (by decide))).le (by omega)) (fun r m1 hp => ?_)
    rcases hp with ⟨e, q1, sm⟩ | ⟨e, q1, hr, sm⟩
    · exfalso; omega
    · exact ⟨e, s2.sm sm, by omega⟩
  · obtain ⟨rfl, hp⟩ := hp
    rcases hp with ⟨rfl, q⟩ | ⟨rfl, q⟩ | ⟨rfl, q⟩
    · obtain rfl := cs_j (k := 0) hj (by decide)
      refine hr_x hO hx hR hC hS hB (by decide) (fun r m1 hp => ?_)
      rcases hp with ⟨e, q1, sm⟩ | ⟨e, q1, sm⟩
      all_goals first | exact ⟨e.trans (by decide), sm⟩ | (exfalso; omega)
    · exact q.elim
    · exact q.elim

theorem hr_star {D : va_G} {ad : AD} {c : CS} {L W : Nat} {am : AD} {m : CS} {ao : Nat} {fo : Nat → Int64} {h : vh} {x0 t : Nat} {w p n : Int} (hO : Ot D ad L W am m ao fo h) (hx : ad 0 0 = x0) (hR : RepC D ad c L W h) (hC : Cok c L W) (hS : Sim c L W m) (hB : SB c (21 * ((t : Nat) : Int))) : ∀ rv h9, HPo D ao fo (fun rv h' => rv = some (vI (c 22 w.toNat p.toNat)) ∧ CP D ad L W h ((cu c 22 w.toNat (fu (c 22 w.toNat) (Int.toNat p) n))) h' ∧ ((0 ≤ w ∧ w < (W : Int)) ∧ (0 ≤ p ∧ p < 6) ∧ (1 ≤ n ∧ n ≤ 5) ∧ 0 ≤ c 18 w.toNat 6 ∧ c 18 w.toNat 1 ≠ p)) (XP (¬ (0 ≤ w ∧ w < (W : Int)) ∨ ¬ (0 ≤ p ∧ p < 6)) ((0 ≤ w ∧ w < (W : Int)) ∧ (0 ≤ p ∧ p < 6) ∧ ¬ (1 ≤ n ∧ n ≤ 5)) ((0 ≤ w ∧ w < (W : Int)) ∧ (0 ≤ p ∧ p < 6) ∧ (1 ≤ n ∧ n ≤ 5) ∧ (c 18 w.toNat 6 < 0 ∨ c 18 w.toNat 1 = p)) h) ["java/lang/IndexOutOfBoundsException", "java/lang/IllegalArgumentException", "java/lang/IllegalStateException"] rv h9 → Hr D am m ao x0 t (fun r m1 => (m1 0 0 0 = 1 ∧ (¬ (0 ≤ w ∧ w < m 0 0 14) ∨ ¬ (0 ≤ p ∧ p < 6)) ∧ SM m m1) ∨ (m1 0 0 0 = 2 ∧ ((0 ≤ w ∧ w < m 0 0 14) ∧ (0 ≤ p ∧ p < 6) ∧ ¬ (1 ≤ n ∧ n ≤ 5)) ∧ SM m m1) ∨ (m1 0 0 0 = 3 ∧ ((0 ≤ w ∧ w < m 0 0 14) ∧ (0 ≤ p ∧ p < 6) ∧ (1 ≤ n ∧ n ≤ 5) ∧ (m 18 0 w.toNat = -1 ∨ m 15 0 w.toNat = p)) ∧ SM m m1) ∨ (m1 0 0 0 = 0 ∧ ((0 ≤ w ∧ w < m 0 0 14) ∧ (0 ≤ p ∧ p < 6) ∧ (1 ≤ n ∧ n ≤ 5) ∧ m 18 0 w.toNat ≠ -1 ∧ m 15 0 w.toNat ≠ p) ∧ r = m 21 0 (6 * w + p).toNat ∧ SM (cu m 21 0 (fu (m 21 0) (6 * w + p).toNat n)) m1)) rv h9 := by
  intro rv h9 hp
  obtain ⟨⟨a1, a2⟩, _⟩ := id hS
  have kl : (0 ≤ w ∧ w < (W : Int)) → (m 18 0 w.toNat = c 18 w.toNat 6 ∧ m 15 0 w.toNat = c 18 w.toNat 1 ∧ -1 ≤ c 18 w.toNat 6) := fun z9 => ⟨(hS.2.2.2.1 w.toNat (by omega)).2.2.1, (hS.2.2.2.1 w.toNat (by omega)).1, (hC.2.2.2.1 w.toNat (by omega)).2.2.2.2.2.1.1⟩
  have kr : (0 ≤ w ∧ w < (W : Int)) → (0 ≤ p ∧ p < 6) → m 21 0 (6 * w + p).toNat = c 22 w.toNat p.toNat := fun z9 y9 => by
    rw [show (6 * w + p).toNat = 6 * w.toNat + p.toNat by omega]; exact (hS.2.2.2.1 w.toNat (by omega)).2.2.2.2.2.2.1 p.toNat (by omega)
  rcases hp with ⟨v, h1, hp, rfl, rfl⟩ | ⟨E, j, hp, hj, rfl⟩
  · obtain ⟨hv, hcp, q⟩ := hp
    obtain ⟨s1, s2⟩ := sim_star hS hC (w := w.toNat) (p := p.toNat) (by omega) (by omega) (n := n) (by omega)
    refine hr_ok hO hx hcp hv s1 ((hB.ke (fun k x y => cu_n (fun z => by omega))).le (by omega)) (fun r m1 hp => ?_)
    rcases hp with ⟨e, q1, sm⟩ | ⟨e, q1, sm⟩ | ⟨e, q1, sm⟩ | ⟨e, q1, hr, sm⟩
    · exfalso; omega
    · exfalso; omega
    · exfalso; omega
    · rw [hr]
      rw [show (6 * w + p).toNat = 6 * w.toNat + p.toNat by omega] at sm
      exact ⟨e, s2.sm sm, kr (by omega) (by omega)⟩
  · obtain ⟨rfl, hp⟩ := hp
    rcases hp with ⟨rfl, q⟩ | ⟨rfl, q⟩ | ⟨rfl, q⟩
    · obtain rfl := cs_j (k := 0) hj (by decide)
      refine hr_x hO hx hR hC hS hB (by decide) (fun r m1 hp => ?_)
      rcases hp with ⟨e, q1, sm⟩ | ⟨e, q1, sm⟩ | ⟨e, q1, sm⟩ | ⟨e, q1, sm⟩
      all_goals first | exact ⟨e.trans (by decide), sm⟩ | (exfalso; omega)
    · obtain rfl := cs_j (k := 1) hj (by decide)
      refine hr_x hO hx hR hC hS hB (by decide) (fun r m1 hp => ?_)
      rcases hp with ⟨e, q1, sm⟩ | ⟨e, q1, sm⟩ | ⟨e, q1, sm⟩ | ⟨e, q1, sm⟩
      all_goals first | exact ⟨e.trans (by decide), sm⟩ | (exfalso; omega)
    · obtain rfl := cs_j (k := 2) hj (by decide)
      refine hr_x hO hx hR hC hS hB (by decide) (fun r m1 hp => ?_)
      rcases hp with ⟨e, q1, sm⟩ | ⟨e, q1, sm⟩ | ⟨e, q1, sm⟩ | ⟨e, q1, sm⟩
      all_goals first | exact ⟨e.trans (by decide), sm⟩ | (exfalso; omega)

theorem hr_set {D : va_G} {ad : AD} {c : CS} {L W : Nat} {am : AD} {m : CS} {ao : Nat} {fo : Nat → Int64} {h : vh} {x0 t : Nat} {u z k : Int} (hO : Ot D ad L W am m ao fo h) (hx : ad 0 0 = x0) (hR : RepC D ad c L W h) (hC : Cok c L W) (hS : Sim c L W m) (hB : SB c (21 * ((t : Nat) : Int))) : ∀ rv h9, HPo D ao fo (fun rv h' => rv = some (vI (c 12 u.toNat z.toNat)) ∧ CP D ad L W h ((cu (cu (cu (cu (cu (cu (cu (cu c 15 u.toNat (hrow (c 15 u.toNat) ((c 14 u.toNat 3).toNat) z)) 16 u.toNat (hrow (c 16 u.toNat) ((c 14 u.toNat 3).toNat) (c 12 u.toNat z.toNat))) 17 u.toNat (hrow (c 17 u.toNat) ((c 14 u.toNat 3).toNat) k)) 14 u.toNat (oF [0, 0, 0, ((hd40 ((c 14 u.toNat 3).toNat) + 1 : Nat) : Int), ((0 : Nat) : Int)])) 12 u.toNat (fu (c 12 u.toNat) z.toNat k)) 13 u.toNat (gpq (c 12 u.toNat) (c 13 u.toNat) z k)) 11 u.toNat (oF [0, 0, ((gpa (c 12 u.toNat) (c 13 u.toNat) ((c 11 u.toNat 2).toNat) z k : Nat) : Int)])) 10 u.toNat (oF [c 10 u.toNat 0, c 10 u.toNat 1, 0, 0, c 10 u.toNat 4, (-2)]))) h' ∧ ((0 ≤ u ∧ u < (L : Int)) ∧ (0 ≤ z ∧ z < 96) ∧ (0 ≤ k ∧ k ≤ 8) ∧ ¬ (k = 2 ∧ c 12 u.toNat z.toNat ≠ 2 ∧ 3 ≤ pc3 (c 11 u.toNat 2).toNat))) (XP (¬ (0 ≤ u ∧ u < (L : Int)) ∨ ¬ (0 ≤ z ∧ z < 96)) ((0 ≤ u ∧ u < (L : Int)) ∧ (0 ≤ z ∧ z < 96) ∧ ¬ (0 ≤ k ∧ k ≤ 8)) ((0 ≤ u ∧ u < (L : Int)) ∧ (0 ≤ z ∧ z < 96) ∧ (0 ≤ k ∧ k ≤ 8) ∧ (k = 2 ∧ c 12 u.toNat z.toNat ≠ 2 ∧ 3 ≤ pc3 (c 11 u.toNat 2).toNat)) h) ["java/lang/IndexOutOfBoundsException", "java/lang/IllegalArgumentException", "java/lang/IllegalStateException"] rv h9 → Hr D am m ao x0 t (fun r m1 => (m1 0 0 0 = 1 ∧ (¬ (0 ≤ u ∧ u < m 0 0 2) ∨ ¬ (0 ≤ z ∧ z < 96)) ∧ SM m m1) ∨ (m1 0 0 0 = 2 ∧ (0 ≤ u ∧ u < m 0 0 2 ∧ (0 ≤ z ∧ z < 96) ∧ ¬ (0 ≤ k ∧ k ≤ 8)) ∧ SM m m1) ∨ (m1 0 0 0 = 3 ∧ (0 ≤ u ∧ u < m 0 0 2 ∧ (0 ≤ z ∧ z < 96) ∧ (0 ≤ k ∧ k ≤ 8) ∧ k = 2 ∧ m 4 0 (96 * u + z).toNat ≠ 2 ∧ cnK (fun j => m 4 0 (96 * u.toNat + j)) 96 = 3) ∧ SM m m1) ∨ (m1 0 0 0 = 0 ∧ (0 ≤ u ∧ u < m 0 0 2 ∧ (0 ≤ z ∧ z < 96) ∧ (0 ≤ k ∧ k ≤ 8) ∧ ¬ (k = 2 ∧ m 4 0 (96 * u + z).toNat ≠ 2 ∧ cnK (fun j => m 4 0 (96 * u.toNat + j)) 96 = 3)) ∧ r = m 4 0 (96 * u + z).toNat ∧ SM (cu (cu (remM (cu m 4 0 (fu (m 4 0) (96 * u + z).toNat k)) u.toNat z (10 * m 4 0 (96 * u + z).toNat + k)) 11 0 (fu (m 11 0) u.toNat 0)) 6 0 (fu (m 6 0) u.toNat (-2))) m1)) rv h9 := by
  intro rv h9 hp
  obtain ⟨⟨a1, a2⟩, _⟩ := id hS
  have kr : ((0 ≤ u ∧ u < (L : Int)) ∧ (0 ≤ z ∧ z < 96)) → m 4 0 (96 * u + z).toNat = c 12 u.toNat z.toNat := fun z9 => by
    rw [show (96 * u + z).toNat = 96 * u.toNat + z.toNat by omega]; exact (hS.2.2.1 u.toNat (by omega)).1.2.2.2.2.1 z.toNat (by omega)
  have kc : (0 ≤ u ∧ u < (L : Int)) → (cnK (fun j => m 4 0 (96 * u.toNat + j)) 96 = pc3 (c 11 u.toNat 2).toNat ∧ cnK (fun j => m 4 0 (96 * u.toNat + j)) 96 ≤ 3) := fun z9 => by
    have g := (hS.2.2.1 u.toNat (by omega)).1
    have e1 : cnK (fun j => m 4 0 (96 * u.toNat + j)) 96 = cnK (c 12 u.toNat) 96 := cnK_c (fun y hy => g.2.2.2.2.1 y hy)
    rw [e1]
    exact ⟨g.2.2.2.2.2.cnt.1, cnK_3 g.2.2.2.2.2⟩
  rcases hp with ⟨v, h1, hp, rfl, rfl⟩ | ⟨E, j, hp, hj, rfl⟩
  · obtain ⟨hv, hcp, q⟩ := hp
    have kc9 := kc (by omega)
    have kr9 := kr (by omega)
    obtain ⟨s1, s2⟩ := sim_set hS hC (u := u.toNat) (by omega) (z := z) (k := k) (w := m 4 0 (96 * u.toNat + z.toNat)) (by omega) (by omega) ((hS.2.2.1 u.toNat (by omega)).1.2.2.2.2.1 z.toNat (by omega)) q.2.2.2
    refine hr_ok hO hx hcp hv s1 ((CLo.sb hB ((((((((CLo.rf.cu (by decide)).cu (by decide)).cu (by decide)).cu (by decide)).cu (by decide)).cu (by decide)).cu (by decide)).cu (by decide))).le (by omega)) (fun r m1 hp => ?_)
    rcases hp with ⟨e, q1, sm⟩ | ⟨e, q1, sm⟩ | ⟨e, q1, sm⟩ | ⟨e, q1, hr, sm⟩
    · exfalso; omega
    · exfalso; omega
    · exfalso; omega
    · rw [hr]
      rw [show (96 * u + z).toNat = 96 * u.toNat + z.toNat by omega] at sm
      exact ⟨e, s2.sm sm, kr9⟩
  · obtain ⟨rfl, hp⟩ := hp
    rcases hp with ⟨rfl, q⟩ | ⟨rfl, q⟩ | ⟨rfl, q⟩
    · obtain rfl := cs_j (k := 0) hj (by decide)
      refine hr_x hO hx hR hC hS hB (by decide) (fun r m1 hp => ?_)
      rcases hp with ⟨e, q1, sm⟩ | ⟨e, q1, sm⟩ | ⟨e, q1, sm⟩ | ⟨e, q1, sm⟩
      all_goals first | exact ⟨e.trans (by decide), sm⟩ | (exfalso; omega)
    · obtain rfl := cs_j (k := 1) hj (by decide)
      refine hr_x hO hx hR hC hS hB (by decide) (fun r m1 hp => ?_)
      rcases hp with ⟨e, q1, sm⟩ | ⟨e, q1, sm⟩ | ⟨e, q1, sm⟩ | ⟨e, q1, sm⟩
      all_goals first | exact ⟨e.trans (by decide), sm⟩ | (exfalso; omega)
    · obtain rfl := cs_j (k := 2) hj (by decide)
      refine hr_x hO hx hR hC hS hB (by decide) (fun r m1 hp => ?_)
      rcases hp with ⟨e, q1, sm⟩ | ⟨e, q1, sm⟩ | ⟨e, q1, sm⟩ | ⟨e, q1, sm⟩
      all_goals first | exact ⟨e.trans (by decide), sm⟩ | (exfalso; omega)

theorem hr_undo {D : va_G} {ad : AD} {c : CS} {L W : Nat} {am : AD} {m : CS} {ao : Nat} {fo : Nat → Int64} {h : vh} {x0 t : Nat} {u : Int} (hO : Ot D ad L W am m ao fo h) (hx : ad 0 0 = x0) (hR : RepC D ad c L W h) (hC : Cok c L W) (hS : Sim c L W m) (hB : SB c (21 * ((t : Nat) : Int))) : ∀ rv h9, HPo D ao fo (fun rv h' => rv = some (vI (c 15 u.toNat ((c 14 u.toNat 3).toNat - 1))) ∧ CP D ad L W h ((cu (cu (cu (cu (cu c 14 u.toNat (oF [0, 0, 0, ((((c 14 u.toNat 3).toNat) - 1 : Nat) : Int), ((((c 14 u.toNat 4).toNat) + 1 : Nat) : Int)])) 12 u.toNat (fu (c 12 u.toNat) ((c 15 u.toNat) (((c 14 u.toNat 3).toNat) - 1)).toNat ((c 16 u.toNat) (((c 14 u.toNat 3).toNat) - 1)))) 13 u.toNat (gpq (c 12 u.toNat) (c 13 u.toNat) ((c 15 u.toNat) (((c 14 u.toNat 3).toNat) - 1)) ((c 16 u.toNat) (((c 14 u.toNat 3).toNat) - 1)))) 11 u.toNat (oF [0, 0, ((gpa (c 12 u.toNat) (c 13 u.toNat) ((c 11 u.toNat 2).toNat) ((c 15 u.toNat) (((c 14 u.toNat 3).toNat) - 1)) ((c 16 u.toNat) (((c 14 u.toNat 3).toNat) - 1)) : Nat) : Int)])) 10 u.toNat (oF [c 10 u.toNat 0, c 10 u.toNat 1, 0, 0, c 10 u.toNat 4, (-2)]))) h' ∧ ((0 ≤ u ∧ u < (L : Int)) ∧ 1 ≤ c 14 u.toNat 3)) (XP (¬ (0 ≤ u ∧ u < (L : Int))) False ((0 ≤ u ∧ u < (L : Int)) ∧ c 14 u.toNat 3 ≤ 0) h) ["java/lang/IndexOutOfBoundsException", "java/lang/IllegalStateException"] rv h9 → Hr D am m ao x0 t (fun r m1 => (m1 0 0 0 = 1 ∧ (¬ (0 ≤ u ∧ u < m 0 0 2)) ∧ SM m m1) ∨ (m1 0 0 0 = 2 ∧ ((0 ≤ u ∧ u < m 0 0 2) ∧ m 8 0 u.toNat = 0) ∧ SM m m1) ∨ (m1 0 0 0 = 0 ∧ ((0 ≤ u ∧ u < m 0 0 2) ∧ m 8 0 u.toNat ≠ 0) ∧ r = m 9 0 (40 * u + m 8 0 u.toNat - 1).toNat ∧ SM (cu (cu (cu (cu (cu (cu m 8 0 (fu (m 8 0) u.toNat (m 8 0 u.toNat - 1))) 12 0 (fu (m 12 0) (40 * u + m 11 0 u.toNat).toNat (m 9 0 (40 * u + m 8 0 u.toNat - 1).toNat))) 13 0 (fu (m 13 0) (40 * u + m 11 0 u.toNat).toNat (m 10 0 (40 * u + m 8 0 u.toNat - 1).toNat))) 11 0 (fu (m 11 0) u.toNat (m 11 0 u.toNat + 1))) 4 0 (fu (m 4 0) (96 * u + m 9 0 (40 * u + m 8 0 u.toNat - 1).toNat).toNat (m 10 0 (40 * u + m 8 0 u.toNat - 1).toNat / 10))) 6 0 (fu (m 6 0) u.toNat (-2))) m1)) rv h9 := by
  intro rv h9 hp
  obtain ⟨⟨a1, a2⟩, _⟩ := id hS
  have kl : (0 ≤ u ∧ u < (L : Int)) → (m 8 0 u.toNat = c 14 u.toNat 3 ∧ m 11 0 u.toNat = c 14 u.toNat 4 ∧ 0 ≤ c 14 u.toNat 3 ∧ 0 ≤ c 14 u.toNat 4) := fun z9 => ⟨(hS.2.2.1 u.toNat (by omega)).2.1, (hS.2.2.1 u.toNat (by omega)).2.2.1, (hC.2.2.1 u.toNat (by omega)).2.2.1.1, (hC.2.2.1 u.toNat (by omega)).2.2.1.2.1⟩
  rcases hp with ⟨v, h1, hp, rfl, rfl⟩ | ⟨E, j, hp, hj, rfl⟩
  · obtain ⟨hv, hcp, q⟩ := hp
    have kl9 := kl (by omega)
    have hz := (hC.2.2.1 u.toNat (by omega)).2.2.2.1 ((c 14 u.toNat 3).toNat - 1)
    obtain ⟨s1, s3, s2⟩ := sim_undo hS hC (u := u.toNat) (by omega) (d := (c 14 u.toNat 3).toNat - 1) (s := (c 14 u.toNat 4).toNat) (by omega) (by omega)
    refine hr_ok hO hx hcp hv s1 ((CLo.sb hB (unC_e (c := c) (u := u.toNat)).1).le (by omega)) (fun r m1 hp => ?_)
    rcases hp with ⟨e, q1, sm⟩ | ⟨e, q1, sm⟩ | ⟨e, q1, hr, sm⟩
    · exfalso; omega
    · exfalso; omega
    · rw [show (40 * u + m 8 0 u.toNat - 1).toNat = 40 * u.toNat + ((c 14 u.toNat 3).toNat - 1) by omega] at hr
      rw [show (40 * u + m 8 0 u.toNat - 1).toNat = 40 * u.toNat + ((c 14 u.toNat 3).toNat - 1) by omega, show (40 * u + m 11 0 u.toNat).toNat = 40 * u.toNat + (c 14 u.toNat 4).toNat by omega, show (96 * u + m 9 0 (40 * u.toNat + ((c 14 u.toNat 3).toNat - 1))).toNat = 96 * u.toNat + (c 15 u.toNat ((c 14 u.toNat 3).toNat - 1)).toNat by omega] at sm
      exact ⟨e, s2.sm sm, hr.trans s3⟩
  · obtain ⟨rfl, hp⟩ := hp
    rcases hp with ⟨rfl, q⟩ | ⟨rfl, q⟩ | ⟨rfl, q⟩
    · obtain rfl := cs_j (k := 0) hj (by decide)
      refine hr_x hO hx hR hC hS hB (by decide) (fun r m1 hp => ?_)
      rcases hp with ⟨e, q1, sm⟩ | ⟨e, q1, sm⟩ | ⟨e, q1, sm⟩
      all_goals first | exact ⟨e.trans (by decide), sm⟩ | (exfalso; omega)
    · exact q.elim
    · obtain rfl := cs_j (k := 1) hj (by decide)
      refine hr_x hO hx hR hC hS hB (by decide) (fun r m1 hp => ?_)
      rcases hp with ⟨e, q1, sm⟩ | ⟨e, q1, sm⟩ | ⟨e, q1, sm⟩
      all_goals first | exact ⟨e.trans (by decide), sm⟩ | (exfalso; omega)

theorem hr_redo {D : va_G} {ad : AD} {c : CS} {L W : Nat} {am : AD} {m : CS} {ao : Nat} {fo : Nat → Int64} {h : vh} {x0 t : Nat} {u : Int} (hO : Ot D ad L W am m ao fo h) (hx : ad 0 0 = x0) (hR : RepC D ad c L W h) (hC : Cok c L W) (hS : Sim c L W m) (hB : SB c (21 * ((t : Nat) : Int))) : ∀ rv h9, HPo D ao fo (fun rv h' => rv = some (vI (c 15 u.toNat (c 14 u.toNat 3).toNat)) ∧ CP D ad L W h ((cu (cu (cu (cu (cu c 12 u.toNat (fu (c 12 u.toNat) ((c 15 u.toNat) ((c 14 u.toNat 3).toNat)).toNat ((c 17 u.toNat) ((c 14 u.toNat 3).toNat)))) 13 u.toNat (gpq (c 12 u.toNat) (c 13 u.toNat) ((c 15 u.toNat) ((c 14 u.toNat 3).toNat)) ((c 17 u.toNat) ((c 14 u.toNat 3).toNat)))) 11 u.toNat (oF [0, 0, ((gpa (c 12 u.toNat) (c 13 u.toNat) ((c 11 u.toNat 2).toNat) ((c 15 u.toNat) ((c 14 u.toNat 3).toNat)) ((c 17 u.toNat) ((c 14 u.toNat 3).toNat)) : Nat) : Int)])) 10 u.toNat (oF [c 10 u.toNat 0, c 10 u.toNat 1, 0, 0, c 10 u.toNat 4, (-2)])) 14 u.toNat (oF [0, 0, 0, ((((c 14 u.toNat 3).toNat) + 1 : Nat) : Int), ((((c 14 u.toNat 4).toNat) - 1 : Nat) : Int)]))) h' ∧ ((0 ≤ u ∧ u < (L : Int)) ∧ 1 ≤ c 14 u.toNat 4)) (XP (¬ (0 ≤ u ∧ u < (L : Int))) False ((0 ≤ u ∧ u < (L : Int)) ∧ c 14 u.toNat 4 ≤ 0) h) ["java/lang/IndexOutOfBoundsException", "java/lang/IllegalStateException"] rv h9 → Hr D am m ao x0 t (fun r m1 => (m1 0 0 0 = 1 ∧ (¬ (0 ≤ u ∧ u < m 0 0 2)) ∧ SM m m1) ∨ (m1 0 0 0 = 2 ∧ ((0 ≤ u ∧ u < m 0 0 2) ∧ m 11 0 u.toNat = 0) ∧ SM m m1) ∨ (m1 0 0 0 = 0 ∧ ((0 ≤ u ∧ u < m 0 0 2) ∧ m 11 0 u.toNat ≠ 0) ∧ r = m 12 0 (40 * u + m 11 0 u.toNat - 1).toNat ∧ SM (cu (cu (remM (cu m 11 0 (fu (m 11 0) u.toNat (m 11 0 u.toNat - 1))) u.toNat (m 12 0 (40 * u + m 11 0 u.toNat - 1).toNat) (m 13 0 (40 * u + m 11 0 u.toNat - 1).toNat)) 4 0 (fu (m 4 0) (96 * u + m 12 0 (40 * u + m 11 0 u.toNat - 1).toNat).toNat (m 13 0 (40 * u + m 11 0 u.toNat - 1).toNat % 10))) 6 0 (fu (m 6 0) u.toNat (-2))) m1)) rv h9 := by
  intro rv h9 hp
  obtain ⟨⟨a1, a2⟩, _⟩ := id hS
  have kl : (0 ≤ u ∧ u < (L : Int)) → (m 8 0 u.toNat = c 14 u.toNat 3 ∧ m 11 0 u.toNat = c 14 u.toNat 4 ∧ 0 ≤ c 14 u.toNat 3 ∧ 0 ≤ c 14 u.toNat 4) := fun z9 => ⟨(hS.2.2.1 u.toNat (by omega)).2.1, (hS.2.2.1 u.toNat (by omega)).2.2.1, (hC.2.2.1 u.toNat (by omega)).2.2.1.1, (hC.2.2.1 u.toNat (by omega)).2.2.1.2.1⟩
  rcases hp with ⟨v, h1, hp, rfl, rfl⟩ | ⟨E, j, hp, hj, rfl⟩
  · obtain ⟨hv, hcp, q⟩ := hp
    have kl9 := kl (by omega)
    have hz := (hC.2.2.1 u.toNat (by omega)).2.2.2.1 (c 14 u.toNat 3).toNat
    obtain ⟨s1, s3, s2⟩ := sim_redo hS hC (u := u.toNat) (by omega) (d := (c 14 u.toNat 3).toNat) (s := (c 14 u.toNat 4).toNat - 1) (by omega) (by omega)
    refine hr_ok hO hx hcp hv s1 ((CLo.sb hB (reC_e (c := c) (u := u.toNat)).1).le (by omega)) (fun r m1 hp => ?_)
    rcases hp with ⟨e, q1, sm⟩ | ⟨e, q1, sm⟩ | ⟨e, q1, hr, sm⟩
    · exfalso; omega
    · exfalso; omega
    · rw [show (40 * u + m 11 0 u.toNat - 1).toNat = 40 * u.toNat + ((c 14 u.toNat 4).toNat - 1) by omega] at hr
      rw [show (40 * u + m 11 0 u.toNat - 1).toNat = 40 * u.toNat + ((c 14 u.toNat 4).toNat - 1) by omega, show (96 * u + m 12 0 (40 * u.toNat + ((c 14 u.toNat 4).toNat - 1))).toNat = 96 * u.toNat + (c 15 u.toNat (c 14 u.toNat 3).toNat).toNat by omega] at sm
      exact ⟨e, s2.sm sm, hr.trans s3⟩
  · obtain ⟨rfl, hp⟩ := hp
    rcases hp with ⟨rfl, q⟩ | ⟨rfl, q⟩ | ⟨rfl, q⟩
    · obtain rfl := cs_j (k := 0) hj (by decide)
      refine hr_x hO hx hR hC hS hB (by decide) (fun r m1 hp => ?_)
      rcases hp with ⟨e, q1, sm⟩ | ⟨e, q1, sm⟩ | ⟨e, q1, sm⟩
      all_goals first | exact ⟨e.trans (by decide), sm⟩ | (exfalso; omega)
    · exact q.elim
    · obtain rfl := cs_j (k := 1) hj (by decide)
      refine hr_x hO hx hR hC hS hB (by decide) (fun r m1 hp => ?_)
      rcases hp with ⟨e, q1, sm⟩ | ⟨e, q1, sm⟩ | ⟨e, q1, sm⟩
      all_goals first | exact ⟨e.trans (by decide), sm⟩ | (exfalso; omega)

theorem hr_prove {D : va_G} {ad : AD} {c : CS} {L W : Nat} {am : AD} {m : CS} {ao : Nat} {fo : Nat → Int64} {h : vh} {x0 t : Nat} {u : Int} (hO : Ot D ad L W am m ao fo h) (hx : ad 0 0 = x0) (hR : RepC D ad c L W h) (hC : Cok c L W) (hS : Sim c L W m) (hB : SB c (21 * ((t : Nat) : Int))) : ∀ rv h9, HPo D ao fo (fun rv h' => ∃ (c1 : CS) (w1 : Int), rv = some (vI w1) ∧ CP D ad L W h (cu c1 10 u.toNat (oF [c1 10 u.toNat 0, c1 10 u.toNat 1, 0, 0, c1 10 u.toNat 4, w1])) h' ∧ (SE c c1) ∧ (Found (TT (c 12 u.toNat) (c 13 u.toNat) (c 11 u.toNat 2).toNat (c 1 0)) (X0 (c 12 u.toNat) (c 13 u.toNat) (c 10 u.toNat 4)) w1) ∧ ((0 ≤ u ∧ u < (L : Int)))) (XP (¬ (0 ≤ u ∧ u < (L : Int))) False False h) ["java/lang/IndexOutOfBoundsException"] rv h9 → Hr D am m ao x0 t (fun r m1 => (m1 0 0 0 = 1 ∧ (¬ (0 ≤ u ∧ u < m 0 0 2)) ∧ SM m m1) ∨ (m1 0 0 0 = 0 ∧ (0 ≤ u ∧ u < m 0 0 2) ∧ FdR m (rwM (m 4 0) (96 * u.toNat)) (m 5 0 u.toNat) r ∧ (-1 ≤ r ∧ r ≤ 6145) ∧ SM (cu m 6 0 (fu (m 6 0) u.toNat r)) m1)) rv h9 := by
  intro rv h9 hp
  obtain ⟨⟨a1, a2⟩, _⟩ := id hS
  rcases hp with ⟨v, h1, hp, rfl, rfl⟩ | ⟨E, j, hp, hj, rfl⟩
  · obtain ⟨c1, w1, hv, hcp, hSE, hF, q⟩ := hp
    refine hr_ok2 hO hx hcp hv ((CLo.sb (hB.se hSE) (CLo.rf.cu (by decide))).le (by omega)) (fun r m1 hp => ?_)
    rcases hp with ⟨e, q1, sm⟩ | ⟨e, q1, hFd, hw, sm⟩
    · exfalso; omega
    · have hr : w1 = r := ans_found hS (by omega) hF hFd
      subst hr
      obtain ⟨s1, s2⟩ := sim_proof (hS.se hSE SM.rf) (hSE.cok hC) (u := u.toNat) (by omega) (w := w1) (by omega)
      exact ⟨e, s2.sm sm, rfl, s1⟩
  · obtain ⟨rfl, hp⟩ := hp
    rcases hp with ⟨rfl, q⟩ | ⟨rfl, q⟩ | ⟨rfl, q⟩
    · obtain rfl := cs_j (k := 0) hj (by decide)
      refine hr_x hO hx hR hC hS hB (by decide) (fun r m1 hp => ?_)
      rcases hp with ⟨e, q1, sm⟩ | ⟨e, q1, sm⟩
      all_goals first | exact ⟨e.trans (by decide), sm⟩ | (exfalso; omega)
    · exact q.elim
    · exact q.elim

theorem hr_shortest {D : va_G} {ad : AD} {c : CS} {L W : Nat} {am : AD} {m : CS} {ao : Nat} {fo : Nat → Int64} {h : vh} {x0 t : Nat} {u n : Int} (hO : Ot D ad L W am m ao fo h) (hx : ad 0 0 = x0) (hR : RepC D ad c L W h) (hC : Cok c L W) (hS : Sim c L W m) (hB : SB c (21 * ((t : Nat) : Int))) : ∀ rv h9, HPo D ao fo (fun rv h' => ∃ (c1 : CS) (w1 : Int), rv = some (vI w1) ∧ CP D ad L W h (c1) h' ∧ (SE c c1) ∧ (FoundM (TT (c 12 u.toNat) (c 13 u.toNat) (c 11 u.toNat 2).toNat (c 1 0)) (X0 (c 12 u.toNat) (c 13 u.toNat) (c 10 u.toNat 4)) n w1) ∧ ((0 ≤ u ∧ u < (L : Int)) ∧ 0 ≤ n ∧ n ≤ 5)) (XP (¬ (0 ≤ u ∧ u < (L : Int))) ((0 ≤ u ∧ u < (L : Int)) ∧ ¬ (0 ≤ n ∧ n ≤ 5)) False h) ["java/lang/IndexOutOfBoundsException", "java/lang/IllegalArgumentException"] rv h9 → Hr D am m ao x0 t (fun r m1 => (m1 0 0 0 = 1 ∧ (¬ (0 ≤ u ∧ u < m 0 0 2)) ∧ SM m m1) ∨ (m1 0 0 0 = 2 ∧ ((0 ≤ u ∧ u < m 0 0 2) ∧ ¬ (0 ≤ n ∧ n ≤ 5)) ∧ SM m m1) ∨ (m1 0 0 0 = 0 ∧ ((0 ≤ u ∧ u < m 0 0 2) ∧ 0 ≤ n ∧ n ≤ 5) ∧ (∃ w, FdR m (rwM (m 4 0) (96 * u.toNat)) (m 5 0 u.toNat) w ∧ r = (if w ≤ n then w else -1)) ∧ SM m m1)) rv h9 := by
  intro rv h9 hp
  obtain ⟨⟨a1, a2⟩, _⟩ := id hS
  rcases hp with ⟨v, h1, hp, rfl, rfl⟩ | ⟨E, j, hp, hj, rfl⟩
  · obtain ⟨c1, w1, hv, hcp, hSE, hF, q⟩ := hp
    refine hr_ok hO hx hcp hv (hSE.cok hC) ((hB.se hSE).le (by omega)) (fun r m1 hp => ?_)
    rcases hp with ⟨e, q1, sm⟩ | ⟨e, q1, sm⟩ | ⟨e, q1, ⟨w, hFd, hr⟩, sm⟩
    · exfalso; omega
    · exfalso; omega
    · exact ⟨e, hS.se hSE sm, hr.trans (ans_foundM hS (by omega) hF hFd).symm⟩
  · obtain ⟨rfl, hp⟩ := hp
    rcases hp with ⟨rfl, q⟩ | ⟨rfl, q⟩ | ⟨rfl, q⟩
    · obtain rfl := cs_j (k := 0) hj (by decide)
      refine hr_x hO hx hR hC hS hB (by decide) (fun r m1 hp => ?_)
      rcases hp with ⟨e, q1, sm⟩ | ⟨e, q1, sm⟩ | ⟨e, q1, sm⟩
      all_goals first | exact ⟨e.trans (by decide), sm⟩ | (exfalso; omega)
    · obtain rfl := cs_j (k := 1) hj (by decide)
      refine hr_x hO hx hR hC hS hB (by decide) (fun r m1 hp => ?_)
      rcases hp with ⟨e, q1, sm⟩ | ⟨e, q1, sm⟩ | ⟨e, q1, sm⟩
      all_goals first | exact ⟨e.trans (by decide), sm⟩ | (exfalso; omega)
    · exact q.elim

theorem hr_reach {D : va_G} {ad : AD} {c : CS} {L W : Nat} {am : AD} {m : CS} {ao : Nat} {fo : Nat → Int64} {h : vh} {x0 t : Nat} {u : Int} (hO : Ot D ad L W am m ao fo h) (hx : ad 0 0 = x0) (hR : RepC D ad c L W h) (hC : Cok c L W) (hS : Sim c L W m) (hB : SB c (21 * ((t : Nat) : Int))) : ∀ rv h9, HPo D ao fo (fun rv h' => ∃ (c1 : CS), rv = some (vI ((cntR (c1 9 0) 96 : Nat) : Int)) ∧ CP D ad L W h (c1) h' ∧ (SE c c1) ∧ (∀ x : Nat, x < 96 → (c1 9 0 x = 1 ↔ Seen (TT (c 12 u.toNat) (c 13 u.toNat) (c 11 u.toNat 2).toNat (c 1 0)) (X0 (c 12 u.toNat) (c 13 u.toNat) (c 10 u.toNat 4)) x)) ∧ (∀ x, 0 ≤ c1 9 0 x ∧ c1 9 0 x ≤ 1) ∧ ((0 ≤ u ∧ u < (L : Int)))) (XP (¬ (0 ≤ u ∧ u < (L : Int))) False False h) ["java/lang/IndexOutOfBoundsException"] rv h9 → Hr D am m ao x0 t (fun r m1 => (m1 0 0 0 = 1 ∧ (¬ (0 ≤ u ∧ u < m 0 0 2)) ∧ SM m m1) ∨ (m1 0 0 0 = 0 ∧ (0 ≤ u ∧ u < m 0 0 2) ∧ (∃ R : Nat → Int, ((∀ x : Nat, x < 96 → (R x = 1 ↔ SnR m (rwM (m 4 0) (96 * u.toNat)) (m 5 0 u.toNat) x)) ∧ (∀ j, j < 96 → 0 ≤ R j ∧ R j ≤ 1)) ∧ r = ((cntR R 96 : Nat) : Int)) ∧ SM m m1)) rv h9 := by
  intro rv h9 hp
  obtain ⟨⟨a1, a2⟩, _⟩ := id hS
  rcases hp with ⟨v, h1, hp, rfl, rfl⟩ | ⟨E, j, hp, hj, rfl⟩
  · obtain ⟨c1, hv, hcp, hSE, hSn, h01, q⟩ := hp
    refine hr_ok hO hx hcp hv (hSE.cok hC) ((hB.se hSE).le (by omega)) (fun r m1 hp => ?_)
    rcases hp with ⟨e, q1, sm⟩ | ⟨e, q1, ⟨R, ⟨hR1, hR2⟩, hr⟩, sm⟩
    · exfalso; omega
    · refine ⟨e, hS.se hSE sm, ?_⟩
      rw [hr, cntR_c (R := R) (R' := c1 9 0) (n := 96) (fun x hx => (ans_seen hS (u := u.toNat) (by omega) hSn h01 hR1 hR2 x hx).symm)]
  · obtain ⟨rfl, hp⟩ := hp
    rcases hp with ⟨rfl, q⟩ | ⟨rfl, q⟩ | ⟨rfl, q⟩
    · obtain rfl := cs_j (k := 0) hj (by decide)
      refine hr_x hO hx hR hC hS hB (by decide) (fun r m1 hp => ?_)
      rcases hp with ⟨e, q1, sm⟩ | ⟨e, q1, sm⟩
      all_goals first | exact ⟨e.trans (by decide), sm⟩ | (exfalso; omega)
    · exact q.elim
    · exact q.elim

theorem hr_farthest {D : va_G} {ad : AD} {c : CS} {L W : Nat} {am : AD} {m : CS} {ao : Nat} {fo : Nat → Int64} {h : vh} {x0 t : Nat} {u : Int} (hO : Ot D ad L W am m ao fo h) (hx : ad 0 0 = x0) (hR : RepC D ad c L W h) (hC : Cok c L W) (hS : Sim c L W m) (hB : SB c (21 * ((t : Nat) : Int))) : ∀ rv h9, HPo D ao fo (fun rv h' => ∃ (c1 : CS) (r1 : Int), rv = some (vI r1) ∧ CP D ad L W h (c1) h' ∧ (SE c c1) ∧ (∀ x : Nat, x < 96 → (c1 9 0 x = 1 ↔ Seen (TT (c 12 u.toNat) (c 13 u.toNat) (c 11 u.toNat 2).toNat (c 1 0)) (X0 (c 12 u.toNat) (c 13 u.toNat) (c 10 u.toNat 4)) x)) ∧ (∀ x, 0 ≤ c1 9 0 x ∧ c1 9 0 x ≤ 1) ∧ ((0 ≤ u ∧ u < (L : Int))) ∧ (frR (c1 9 0) r1)) (XP (¬ (0 ≤ u ∧ u < (L : Int))) False False h) ["java/lang/IndexOutOfBoundsException"] rv h9 → Hr D am m ao x0 t (fun r m1 => (m1 0 0 0 = 1 ∧ (¬ (0 ≤ u ∧ u < m 0 0 2)) ∧ SM m m1) ∨ (m1 0 0 0 = 0 ∧ (0 ≤ u ∧ u < m 0 0 2) ∧ (∃ R : Nat → Int, ((∀ x : Nat, x < 96 → (R x = 1 ↔ SnR m (rwM (m 4 0) (96 * u.toNat)) (m 5 0 u.toNat) x)) ∧ (∀ j, j < 96 → 0 ≤ R j ∧ R j ≤ 1)) ∧ frR R r) ∧ SM m m1)) rv h9 := by
  intro rv h9 hp
  obtain ⟨⟨a1, a2⟩, _⟩ := id hS
  rcases hp with ⟨v, h1, hp, rfl, rfl⟩ | ⟨E, j, hp, hj, rfl⟩
  · obtain ⟨c1, r1, hv, hcp, hSE, hSn, h01, q, hfr⟩ := hp
    refine hr_ok hO hx hcp hv (hSE.cok hC) ((hB.se hSE).le (by omega)) (fun r m1 hp => ?_)
    rcases hp with ⟨e, q1, sm⟩ | ⟨e, q1, ⟨R, ⟨hR1, hR2⟩, hr⟩, sm⟩
    · exfalso; omega
    · exact ⟨e, hS.se hSE sm, (frR.uniq (ans_seen hS (u := u.toNat) (by omega) hSn h01 hR1 hR2) hfr hr).symm⟩
  · obtain ⟨rfl, hp⟩ := hp
    rcases hp with ⟨rfl, q⟩ | ⟨rfl, q⟩ | ⟨rfl, q⟩
    · obtain rfl := cs_j (k := 0) hj (by decide)
      refine hr_x hO hx hR hC hS hB (by decide) (fun r m1 hp => ?_)
      rcases hp with ⟨e, q1, sm⟩ | ⟨e, q1, sm⟩
      all_goals first | exact ⟨e.trans (by decide), sm⟩ | (exfalso; omega)
    · exact q.elim
    · exact q.elim

theorem hr_begin {D : va_G} {ad : AD} {c : CS} {L W : Nat} {am : AD} {m : CS} {ao : Nat} {fo : Nat → Int64} {h : vh} {x0 t : Nat} {p : Int} (hO : Ot D ad L W am m ao fo h) (hx : ad 0 0 = x0) (hR : RepC D ad c L W h) (hC : Cok c L W) (hS : Sim c L W m) (hB : SB c (21 * ((t : Nat) : Int))) : ∀ rv h9, HPo D ao fo (fun rv h' => ∃ (ad9 : AD), rv = some (vI (L : Int)) ∧ CP D ad9 (L + 1) W h (bgN (cAdd c L p 0) L 12) h' ∧ (Grown ad ad9 L W (L + 1) W h) ∧ ((0 ≤ p ∧ p < 6) ∧ L < 12)) (XP (¬ (0 ≤ p ∧ p < 6)) False ((0 ≤ p ∧ p < 6) ∧ ¬ L < 12) h) ["java/lang/IndexOutOfBoundsException", "java/lang/IllegalStateException"] rv h9 → Hr D am m ao x0 t (fun r m1 => (m1 0 0 0 = 1 ∧ (¬ (0 ≤ p ∧ p < 6)) ∧ SM m m1) ∨ (m1 0 0 0 = 2 ∧ ((0 ≤ p ∧ p < 6) ∧ m 0 0 2 = 12) ∧ SM m m1) ∨ (m1 0 0 0 = 0 ∧ ((0 ≤ p ∧ p < 6) ∧ m 0 0 2 < 12) ∧ r = m 0 0 2 ∧ SM (opN (cu m 4 0 (rowG (m 4 0) (96 * (m 0 0 2).toNat) (fun j => if j < 84 then 0 else 1) 96)) p 72 (-1)) m1)) rv h9 := by
  intro rv h9 hp
  obtain ⟨⟨a1, a2⟩, _⟩ := id hS
  obtain ⟨_, _, _, _, _, l12, _⟩ := id hC.1
  rcases hp with ⟨v, h1, hp, rfl, rfl⟩ | ⟨E, j, hp, hj, rfl⟩
  · obtain ⟨ad9, hv, hcp, hg, q⟩ := hp
    obtain ⟨s1, s2⟩ := sim_begin hS hC (by omega) (p := p) (by omega)
    refine hr_gr hO hx hg hcp hv s1 ((hB.ke (fun k x y => (bgN_k (by omega) 12).trans (cAdd_o (by omega)))).le (by omega)) (fun r m1 hp => ?_)
    rcases hp with ⟨e, q1, sm⟩ | ⟨e, q1, sm⟩ | ⟨e, q1, hr, sm⟩
    · exfalso; omega
    · exfalso; omega
    · exact ⟨e, s2.sm sm, by omega⟩
  · obtain ⟨rfl, hp⟩ := hp
    rcases hp with ⟨rfl, q⟩ | ⟨rfl, q⟩ | ⟨rfl, q⟩
    · obtain rfl := cs_j (k := 0) hj (by decide)
      refine hr_x hO hx hR hC hS hB (by decide) (fun r m1 hp => ?_)
      rcases hp with ⟨e, q1, sm⟩ | ⟨e, q1, sm⟩ | ⟨e, q1, sm⟩
      all_goals first | exact ⟨e.trans (by decide), sm⟩ | (exfalso; omega)
    · exact q.elim
    · obtain rfl := cs_j (k := 1) hj (by decide)
      refine hr_x hO hx hR hC hS hB (by decide) (fun r m1 hp => ?_)
      rcases hp with ⟨e, q1, sm⟩ | ⟨e, q1, sm⟩ | ⟨e, q1, sm⟩
      all_goals first | exact ⟨e.trans (by decide), sm⟩ | (exfalso; omega)

theorem hr_copy {D : va_G} {ad : AD} {c : CS} {L W : Nat} {am : AD} {m : CS} {ao : Nat} {fo : Nat → Int64} {h : vh} {x0 t : Nat} {w p : Int} (hO : Ot D ad L W am m ao fo h) (hx : ad 0 0 = x0) (hR : RepC D ad c L W h) (hC : Cok c L W) (hS : Sim c L W m) (hB : SB c (21 * ((t : Nat) : Int))) : ∀ rv h9, HPo D ao fo (fun rv h' => ∃ (ad9 : AD), rv = some (vI (L : Int)) ∧ CP D ad9 (L + 1) W h ((cu (cu (cu (cu (cAdd c L p (((w.toNat + 1 : Nat) : Int))) 12 L (gnf (c 20 w.toNat) (fun _ => 0) 96)) 13 L (gnq (c 20 w.toNat) (fun _ => 0) (fun j => if j < 3 then -1 else 0) 96)) 11 L (oF [0, 0, ((gna (c 20 w.toNat) (fun _ => 0) (fun j => if j < 3 then -1 else 0) 0 96 : Nat) : Int)])) 10 L (oF [p, ((w.toNat + 1 : Nat) : Int), 0, 0, c 18 w.toNat 4, (-2)]))) h' ∧ (Grown ad ad9 L W (L + 1) W h) ∧ ((0 ≤ w ∧ w < (W : Int)) ∧ (0 ≤ p ∧ p < 6) ∧ 0 ≤ c 18 w.toNat 6 ∧ L < 12)) (XP (¬ (0 ≤ w ∧ w < (W : Int)) ∨ ¬ (0 ≤ p ∧ p < 6)) False ((0 ≤ w ∧ w < (W : Int)) ∧ (0 ≤ p ∧ p < 6) ∧ (c 18 w.toNat 6 < 0 ∨ ¬ L < 12)) h) ["java/lang/IndexOutOfBoundsException", "java/lang/IllegalStateException"] rv h9 → Hr D am m ao x0 t (fun r m1 => (m1 0 0 0 = 1 ∧ (¬ (0 ≤ w ∧ w < m 0 0 14) ∨ ¬ (0 ≤ p ∧ p < 6)) ∧ SM m m1) ∨ (m1 0 0 0 = 2 ∧ ((0 ≤ w ∧ w < m 0 0 14) ∧ (0 ≤ p ∧ p < 6) ∧ (m 18 0 w.toNat = -1 ∨ m 0 0 2 = 12)) ∧ SM m m1) ∨ (m1 0 0 0 = 0 ∧ ((0 ≤ w ∧ w < m 0 0 14) ∧ (0 ≤ p ∧ p < 6) ∧ m 18 0 w.toNat ≠ -1 ∧ m 0 0 2 < 12) ∧ r = m 0 0 2 ∧ SM (opN (cu m 4 0 (rowG (m 4 0) (96 * (m 0 0 2).toNat) (fun j => m 16 0 (96 * w.toNat + j)) 96)) p (m 17 0 w.toNat) w) m1)) rv h9 := by
  intro rv h9 hp
  obtain ⟨⟨a1, a2⟩, _⟩ := id hS
  have kl : (0 ≤ w ∧ w < (W : Int)) → (m 18 0 w.toNat = c 18 w.toNat 6 ∧ -1 ≤ c 18 w.toNat 6) := fun z9 => ⟨(hS.2.2.2.1 w.toNat (by omega)).2.2.1, (hC.2.2.2.1 w.toNat (by omega)).2.2.2.2.2.1.1⟩
  obtain ⟨_, _, _, _, _, l12, l20⟩ := id hC.1
  rcases hp with ⟨v, h1, hp, rfl, rfl⟩ | ⟨E, j, hp, hj, rfl⟩
  · obtain ⟨ad9, hv, hcp, hg, q⟩ := hp
    obtain ⟨s1, s2⟩ := sim_copy hS hC (L := L) (by omega) (w := w.toNat) (by omega) (p := p) (by omega)
    rw [show ((w.toNat : Nat) : Int) = w by omega] at s2
    refine hr_gr hO hx hg hcp hv s1 ((hB.ke (fun k x y => (cu_k (by omega)).trans ((cu_k (by omega)).trans ((cu_k (by omega)).trans ((cu_k (by omega)).trans (cAdd_o (by omega))))))).le (by omega)) (fun r m1 hp => ?_)
    rcases hp with ⟨e, q1, sm⟩ | ⟨e, q1, sm⟩ | ⟨e, q1, hr, sm⟩
    · exfalso; omega
    · exfalso; omega
    · exact ⟨e, s2.sm sm, by omega⟩
  · obtain ⟨rfl, hp⟩ := hp
    rcases hp with ⟨rfl, q⟩ | ⟨rfl, q⟩ | ⟨rfl, q⟩
    · obtain rfl := cs_j (k := 0) hj (by decide)
      refine hr_x hO hx hR hC hS hB (by decide) (fun r m1 hp => ?_)
      rcases hp with ⟨e, q1, sm⟩ | ⟨e, q1, sm⟩ | ⟨e, q1, sm⟩
      all_goals first | exact ⟨e.trans (by decide), sm⟩ | (exfalso; omega)
    · exact q.elim
    · obtain rfl := cs_j (k := 1) hj (by decide)
      refine hr_x hO hx hR hC hS hB (by decide) (fun r m1 hp => ?_)
      rcases hp with ⟨e, q1, sm⟩ | ⟨e, q1, sm⟩ | ⟨e, q1, sm⟩
      all_goals first | exact ⟨e.trans (by decide), sm⟩ | (exfalso; omega)

theorem hr_offer {D : va_G} {ad : AD} {c : CS} {L W : Nat} {am : AD} {m : CS} {ao : Nat} {fo : Nat → Int64} {h : vh} {x0 t : Nat} {u : Int} (hO : Ot D ad L W am m ao fo h) (hx : ad 0 0 = x0) (hR : RepC D ad c L W h) (hC : Cok c L W) (hS : Sim c L W m) (hB : SB c (21 * ((t : Nat) : Int))) : ∀ rv h9, HPo D ao fo (fun rv h' => ∃ (ad9 : AD), rv = some (vI (W : Int)) ∧ CP D ad9 L (W + 1) h (cOff c W (c 10 u.toNat 0) (c 10 u.toNat 1) (c 10 u.toNat 4) (c 10 u.toNat 5) (c 12 u.toNat)) h' ∧ (Grown ad ad9 L W L (W + 1) h) ∧ ((0 ≤ u ∧ u < (L : Int)) ∧ 0 ≤ c 10 u.toNat 5 ∧ W < 20)) (XP (¬ (0 ≤ u ∧ u < (L : Int))) False ((0 ≤ u ∧ u < (L : Int)) ∧ (c 10 u.toNat 5 < 0 ∨ ¬ W < 20)) h) ["java/lang/IndexOutOfBoundsException", "java/lang/IllegalStateException"] rv h9 → Hr D am m ao x0 t (fun r m1 => (m1 0 0 0 = 1 ∧ (¬ (0 ≤ u ∧ u < m 0 0 2)) ∧ SM m m1) ∨ (m1 0 0 0 = 2 ∧ ((0 ≤ u ∧ u < m 0 0 2) ∧ (m 6 0 u.toNat < 0 ∨ m 0 0 14 = 20)) ∧ SM m m1) ∨ (m1 0 0 0 = 0 ∧ ((0 ≤ u ∧ u < m 0 0 2) ∧ 0 ≤ m 6 0 u.toNat ∧ m 0 0 14 < 20) ∧ r = m 0 0 14 ∧ SM (ofN m u.toNat) m1)) rv h9 := by
  intro rv h9 hp
  obtain ⟨⟨a1, a2⟩, _⟩ := id hS
  have kl : (0 ≤ u ∧ u < (L : Int)) → m 6 0 u.toNat = c 10 u.toNat 5 := fun z9 => (hS.2.2.1 u.toNat (by omega)).1.2.2.1
  obtain ⟨_, _, _, _, _, l12, l20⟩ := id hC.1
  rcases hp with ⟨v, h1, hp, rfl, rfl⟩ | ⟨E, j, hp, hj, rfl⟩
  · obtain ⟨ad9, hv, hcp, hg, q⟩ := hp
    obtain ⟨s1, s2⟩ := sim_offer hS hC (W := W) (by omega) (u := u.toNat) (by omega) (by omega)
    refine hr_gr hO hx hg hcp hv s1 ((hB.ke (fun k x y => (cu_k (by omega)).trans ((cu_k (by omega)).trans (cG_k (by omega))))).le (by omega)) (fun r m1 hp => ?_)
    rcases hp with ⟨e, q1, sm⟩ | ⟨e, q1, sm⟩ | ⟨e, q1, hr, sm⟩
    · exfalso; omega
    · exfalso; omega
    · exact ⟨e, s2.sm sm, by omega⟩
  · obtain ⟨rfl, hp⟩ := hp
    rcases hp with ⟨rfl, q⟩ | ⟨rfl, q⟩ | ⟨rfl, q⟩
    · obtain rfl := cs_j (k := 0) hj (by decide)
      refine hr_x hO hx hR hC hS hB (by decide) (fun r m1 hp => ?_)
      rcases hp with ⟨e, q1, sm⟩ | ⟨e, q1, sm⟩ | ⟨e, q1, sm⟩
      all_goals first | exact ⟨e.trans (by decide), sm⟩ | (exfalso; omega)
    · exact q.elim
    · obtain rfl := cs_j (k := 1) hj (by decide)
      refine hr_x hO hx hR hC hS hB (by decide) (fun r m1 hp => ?_)
      rcases hp with ⟨e, q1, sm⟩ | ⟨e, q1, sm⟩ | ⟨e, q1, sm⟩
      all_goals first | exact ⟨e.trans (by decide), sm⟩ | (exfalso; omega)

theorem hr_run {D : va_G} {ad : AD} {c : CS} {L W : Nat} {am : AD} {m : CS} {ao : Nat} {fo : Nat → Int64} {h : vh} {x0 t : Nat} {p w : Int} (hO : Ot D ad L W am m ao fo h) (hx : ad 0 0 = x0) (hR : RepC D ad c L W h) (hC : Cok c L W) (hS : Sim c L W m) (hB : SB c (21 * ((t : Nat) : Int))) : ∀ rv h9, HPo D ao fo (fun rv h' => rv = some (vI ((if (X0 (c 20 w.toNat) (c 21 w.toNat) (c 18 w.toNat 4)).2.2.2 = 3 then -1 else if (X0 (c 20 w.toNat) (c 21 w.toNat) (c 18 w.toNat 4)).2.2.2 = 2 then -2 else (X0 (c 20 w.toNat) (c 21 w.toNat) (c 18 w.toNat 4)).1))) ∧ CP D ad L W h ((cu (cu (cu c 24 p.toNat (oF [0, (X0 (c 20 w.toNat) (c 21 w.toNat) (c 18 w.toNat 4)).1, 0, (((X0 (c 20 w.toNat) (c 21 w.toNat) (c 18 w.toNat 4)).2.2.1 : Nat) : Int), (X0 (c 20 w.toNat) (c 21 w.toNat) (c 18 w.toNat 4)).2.2.2])) 23 p.toNat (oF [0, ((w.toNat + 1 : Nat) : Int), (X0 (c 20 w.toNat) (c 21 w.toNat) (c 18 w.toNat 4)).2.2.2, 0])) 18 w.toNat (oF [c 18 w.toNat 0, c 18 w.toNat 1, c 18 w.toNat 2, 0, (c 18 w.toNat 4), 0, c 18 w.toNat 6, (if (X0 (c 20 w.toNat) (c 21 w.toNat) (c 18 w.toNat 4)).2.2.2 = 2 then (if (c 18 w.toNat 7) < 0 ∨ 0 < (c 18 w.toNat 7) then 0 else (c 18 w.toNat 7)) else (c 18 w.toNat 7))]))) h' ∧ ((0 ≤ p ∧ p < 6) ∧ (0 ≤ w ∧ w < (W : Int)) ∧ 0 ≤ c 18 w.toNat 6)) (XP (¬ (0 ≤ p ∧ p < 6) ∨ ¬ (0 ≤ w ∧ w < (W : Int))) False ((0 ≤ p ∧ p < 6) ∧ (0 ≤ w ∧ w < (W : Int)) ∧ c 18 w.toNat 6 < 0) h) ["java/lang/IndexOutOfBoundsException", "java/lang/IllegalStateException"] rv h9 → Hr D am m ao x0 t (fun r m1 => (m1 0 0 0 = 1 ∧ (¬ (0 ≤ p ∧ p < 6) ∨ ¬ (0 ≤ w ∧ w < m 0 0 14)) ∧ SM m m1) ∨ (m1 0 0 0 = 2 ∧ ((0 ≤ p ∧ p < 6) ∧ (0 ≤ w ∧ w < m 0 0 14) ∧ m 18 0 w.toNat = -1) ∧ SM m m1) ∨ (m1 0 0 0 = 0 ∧ ((0 ≤ p ∧ p < 6) ∧ (0 ≤ w ∧ w < m 0 0 14) ∧ m 18 0 w.toNat ≠ -1) ∧ (∃ x : B4, x = (X0r (lyG (rwM (m 16 0) (96 * w.toNat)) (m 28 0) 96) (kbr (rwM (m 16 0) (96 * w.toNat)) (m 29 0)) (m 17 0 w.toNat)) ∧ r = kpR x ∧ SM (kpX (cu (cu m 23 0 (fu (m 23 0) p.toNat w)) 27 0 (fu (m 27 0) p.toNat 0)) p.toNat w.toNat x) m1))) rv h9 := by
  intro rv h9 hp
  obtain ⟨⟨a1, a2⟩, _⟩ := id hS
  have kl : (0 ≤ w ∧ w < (W : Int)) → (m 18 0 w.toNat = c 18 w.toNat 6 ∧ -1 ≤ c 18 w.toNat 6) := fun z9 => ⟨(hS.2.2.2.1 w.toNat (by omega)).2.2.1, (hC.2.2.2.1 w.toNat (by omega)).2.2.2.2.2.1.1⟩
  obtain ⟨_, _, _, _, _, l12, l20⟩ := id hC.1
  rcases hp with ⟨v, h1, hp, rfl, rfl⟩ | ⟨E, j, hp, hj, rfl⟩
  · obtain ⟨hv, hcp, q⟩ := hp
    have g := hS.2.2.2.1 w.toNat (by omega)
    have q4 := (hC.2.2.2.1 w.toNat (by omega)).2.2.2.2.1
    refine hr_ok2 (c' := rnC c p.toNat w.toNat (X0 (c 20 w.toNat) (c 21 w.toNat) (c 18 w.toNat 4)) 0) (w := kpR (X0 (c 20 w.toNat) (c 21 w.toNat) (c 18 w.toNat 4))) hO hx hcp hv ((hB.ke (fun k x y => (cu_k (by omega)).trans ((cu_k (by omega)).trans (cu_k (by omega))))).le (by omega)) (fun r m1 hp => ?_)
    rcases hp with ⟨e, q1, sm⟩ | ⟨e, q1, sm⟩ | ⟨e, q1, ⟨x, hx9, hr, sm⟩⟩
    · exfalso; omega
    · exfalso; omega
    · have hX := g.2.2.2.2.2.2.2.x0 (m := m) (hS.r16 (by omega)) (c 18 w.toNat 4)
      rw [← g.2.1] at hX
      rw [← hx9] at hX
      rw [g.2.1] at hX
      obtain ⟨s1, s2⟩ := sim_run hS hC (p := p.toNat) (w := w.toNat) (by omega) (by omega) (X0_ok q4) hX (n := 0) (by decide)
      unfold rnM at s2
      rw [show ((w.toNat : Nat) : Int) = w by omega] at s2
      exact ⟨e, s2.sm sm, by rw [hr, kpR_e hX], s1⟩
  · obtain ⟨rfl, hp⟩ := hp
    rcases hp with ⟨rfl, q⟩ | ⟨rfl, q⟩ | ⟨rfl, q⟩
    · obtain rfl := cs_j (k := 0) hj (by decide)
      refine hr_x hO hx hR hC hS hB (by decide) (fun r m1 hp => ?_)
      rcases hp with ⟨e, q1, sm⟩ | ⟨e, q1, sm⟩ | ⟨e, q1, sm⟩
      all_goals first | exact ⟨e.trans (by decide), sm⟩ | (exfalso; omega)
    · exact q.elim
    · obtain rfl := cs_j (k := 1) hj (by decide)
      refine hr_x hO hx hR hC hS hB (by decide) (fun r m1 hp => ?_)
      rcases hp with ⟨e, q1, sm⟩ | ⟨e, q1, sm⟩ | ⟨e, q1, sm⟩
      all_goals first | exact ⟨e.trans (by decide), sm⟩ | (exfalso; omega)

theorem hr_step {D : va_G} {ad : AD} {c : CS} {L W : Nat} {am : AD} {m : CS} {ao : Nat} {fo : Nat → Int64} {h : vh} {x0 t : Nat} {p z : Int} (hO : Ot D ad L W am m ao fo h) (hx : ad 0 0 = x0) (hR : RepC D ad c L W h) (hC : Cok c L W) (hS : Sim c L W m) (hB : SB c (21 * ((t : Nat) : Int))) : ∀ rv h9, HPo D ao fo (fun rv h' => ∃ (x : Nat), rv = some (vI ((if (mv (c 20 x) (kbf (c 20 x) (c 21 x)) (c 19 x 2).toNat (c 1 0) z (c 24 p.toNat 1) (c 24 p.toNat 2) (c 24 p.toNat 3).toNat).2.2.2 = 3 then -1 else if (mv (c 20 x) (kbf (c 20 x) (c 21 x)) (c 19 x 2).toNat (c 1 0) z (c 24 p.toNat 1) (c 24 p.toNat 2) (c 24 p.toNat 3).toNat).2.2.2 = 2 then -2 else (mv (c 20 x) (kbf (c 20 x) (c 21 x)) (c 19 x 2).toNat (c 1 0) z (c 24 p.toNat 1) (c 24 p.toNat 2) (c 24 p.toNat 3).toNat).1))) ∧ CP D ad L W h ((cu (cu (cu c 24 p.toNat (oF [0, (mv (c 20 x) (kbf (c 20 x) (c 21 x)) ((c 19 x 2).toNat) (c 1 0) z (c 24 p.toNat 1) (c 24 p.toNat 2) ((c 24 p.toNat 3).toNat)).1, (mv (c 20 x) (kbf (c 20 x) (c 21 x)) ((c 19 x 2).toNat) (c 1 0) z (c 24 p.toNat 1) (c 24 p.toNat 2) ((c 24 p.toNat 3).toNat)).2.1, (((mv (c 20 x) (kbf (c 20 x) (c 21 x)) ((c 19 x 2).toNat) (c 1 0) z (c 24 p.toNat 1) (c 24 p.toNat 2) ((c 24 p.toNat 3).toNat)).2.2.1 : Nat) : Int), (mv (c 20 x) (kbf (c 20 x) (c 21 x)) ((c 19 x 2).toNat) (c 1 0) z (c 24 p.toNat 1) (c 24 p.toNat 2) ((c 24 p.toNat 3).toNat)).2.2.2])) 23 p.toNat (oF [0, ((x + 1 : Nat) : Int), (mv (c 20 x) (kbf (c 20 x) (c 21 x)) ((c 19 x 2).toNat) (c 1 0) z (c 24 p.toNat 1) (c 24 p.toNat 2) ((c 24 p.toNat 3).toNat)).2.2.2, (c 23 p.toNat 3) + 1])) 18 x (oF [c 18 x 0, c 18 x 1, c 18 x 2, 0, (c 18 x 4), 0, c 18 x 6, (if (mv (c 20 x) (kbf (c 20 x) (c 21 x)) ((c 19 x 2).toNat) (c 1 0) z (c 24 p.toNat 1) (c 24 p.toNat 2) ((c 24 p.toNat 3).toNat)).2.2.2 = 2 then (if (c 18 x 7) < 0 ∨ ((c 23 p.toNat 3) + 1) < (c 18 x 7) then ((c 23 p.toNat 3) + 1) else (c 18 x 7)) else (c 18 x 7))]))) h' ∧ ((0 ≤ p ∧ p < 6) ∧ (0 ≤ z ∧ z < 6) ∧ c 23 p.toNat 2 = 1 ∧ c 23 p.toNat 3 < 200 ∧ x < W ∧ c 23 p.toNat 1 = (x : Int) + 1)) (XP (¬ (0 ≤ p ∧ p < 6)) ((0 ≤ p ∧ p < 6) ∧ ¬ (0 ≤ z ∧ z < 6)) ((0 ≤ p ∧ p < 6) ∧ (0 ≤ z ∧ z < 6) ∧ (c 23 p.toNat 2 ≠ 1 ∨ 200 ≤ c 23 p.toNat 3)) h) ["java/lang/IndexOutOfBoundsException", "java/lang/IllegalArgumentException", "java/lang/IllegalStateException"] rv h9 → Hr D am m ao x0 t (fun r m1 => (m1 0 0 0 = 1 ∧ (¬ (0 ≤ p ∧ p < 6)) ∧ SM m m1) ∨ (m1 0 0 0 = 2 ∧ ((0 ≤ p ∧ p < 6) ∧ ¬ (0 ≤ z ∧ z ≤ 5)) ∧ SM m m1) ∨ (m1 0 0 0 = 3 ∧ ((0 ≤ p ∧ p < 6) ∧ (0 ≤ z ∧ z ≤ 5) ∧ (m 22 0 p.toNat ≠ 1 ∨ m 27 0 p.toNat = 200)) ∧ SM m m1) ∨ (m1 0 0 0 = 0 ∧ ((0 ≤ p ∧ p < 6) ∧ (0 ≤ z ∧ z ≤ 5) ∧ m 22 0 p.toNat = 1 ∧ m 27 0 p.toNat ≠ 200) ∧ (∃ x : B4, x = (mv (lyG (rwM (m 16 0) (96 * (m 23 0 p.toNat).toNat)) (m 28 0) 96) (kbr (rwM (m 16 0) (96 * (m 23 0 p.toNat).toNat)) (m 29 0)) (lyA (rwM (m 16 0) (96 * (m 23 0 p.toNat).toNat)) 96) (m 1 0) z (m 24 0 p.toNat) (m 25 0 p.toNat) (m 26 0 p.toNat).toNat) ∧ r = kpR x ∧ SM (kpX (cu m 27 0 (fu (m 27 0) p.toNat (m 27 0 p.toNat + 1))) p.toNat (m 23 0 p.toNat).toNat x) m1))) rv h9 := by
  intro rv h9 hp
  obtain ⟨⟨a1, a2⟩, _⟩ := id hS
  have kl : (0 ≤ p ∧ p < 6) → (m 22 0 p.toNat = c 23 p.toNat 2 ∧ m 27 0 p.toNat = c 23 p.toNat 3 ∧ c 23 p.toNat 3 ≤ 200) := fun z9 => ⟨(hS.2.2.2.2.1 p.toNat (by omega)).1, (hS.2.2.2.2.1 p.toNat (by omega)).2.1, (hC.2.2.2.2 p.toNat (by omega)).2.2.1.2⟩
  rcases hp with ⟨v, h1, hp, rfl, rfl⟩ | ⟨E, j, hp, hj, rfl⟩
  · obtain ⟨x, hv, hcp, q⟩ := hp
    have kl9 := kl (by omega)
    have hw : x < W := q.2.2.2.2.1
    have hpx : c 23 p.toNat 1 = (x : Int) + 1 := q.2.2.2.2.2
    have g := hS.2.2.2.1 x hw
    obtain ⟨r1, r2, r3, r4, r5, r6, r7, r8⟩ := hS.2.2.2.2.1 p.toNat (by omega)
    obtain ⟨b1, b2, b3, b4, b5, b6, b7, b8⟩ := hC.2.2.2.2 p.toNat (by omega)
    obtain ⟨f1, f2⟩ := r8 (by omega)
    have e23 : (m 23 0 p.toNat).toNat = x := by omega
    rw [show (c 23 p.toNat 1 - 1).toNat = x by omega] at f2
    have hX := g.2.2.2.2.2.2.2.mv_ (m := m) (S := c 1 0) (hS.r16 hw) hS.2.1 f2 (i := z) (c := c 24 p.toNat 1) (v := c 24 p.toNat 2)
    refine hr_ok2 (c' := rnC c p.toNat x (mv (c 20 x) (kbf (c 20 x) (c 21 x)) (c 19 x 2).toNat (c 1 0) z (c 24 p.toNat 1) (c 24 p.toNat 2) (c 24 p.toNat 3).toNat) (c 23 p.toNat 3 + 1)) (w := kpR (mv (c 20 x) (kbf (c 20 x) (c 21 x)) (c 19 x 2).toNat (c 1 0) z (c 24 p.toNat 1) (c 24 p.toNat 2) (c 24 p.toNat 3).toNat)) hO hx hcp hv ((hB.ke (fun k x y => (cu_k (by omega)).trans ((cu_k (by omega)).trans (cu_k (by omega))))).le (by omega)) (fun r m1 hp => ?_)
    rcases hp with ⟨e, q1, sm⟩ | ⟨e, q1, sm⟩ | ⟨e, q1, sm⟩ | ⟨e, q1, ⟨xr, hx9, hr, sm⟩⟩
    · exfalso; omega
    · exfalso; omega
    · exfalso; omega
    · rw [e23, r3, r4] at hx9
      rw [← hx9] at hX
      rw [e23, r2] at sm
      obtain ⟨s1, s2⟩ := sim_run hS hC (p := p.toNat) (w := x) hw (by omega) (mv_r (kbf_r _ _) hC.2.1 b5 b6 (by omega)) hX (n := c 23 p.toNat 3 + 1) (by omega)
      rw [rnM_s (by omega)] at s2
      exact ⟨e, s2.sm sm, by rw [hr, kpR_e hX], s1⟩
  · obtain ⟨rfl, hp⟩ := hp
    rcases hp with ⟨rfl, q⟩ | ⟨rfl, q⟩ | ⟨rfl, q⟩
    · obtain rfl := cs_j (k := 0) hj (by decide)
      refine hr_x hO hx hR hC hS hB (by decide) (fun r m1 hp => ?_)
      rcases hp with ⟨e, q1, sm⟩ | ⟨e, q1, sm⟩ | ⟨e, q1, sm⟩ | ⟨e, q1, sm⟩
      all_goals first | exact ⟨e.trans (by decide), sm⟩ | (exfalso; omega)
    · obtain rfl := cs_j (k := 1) hj (by decide)
      refine hr_x hO hx hR hC hS hB (by decide) (fun r m1 hp => ?_)
      rcases hp with ⟨e, q1, sm⟩ | ⟨e, q1, sm⟩ | ⟨e, q1, sm⟩ | ⟨e, q1, sm⟩
      all_goals first | exact ⟨e.trans (by decide), sm⟩ | (exfalso; omega)
    · obtain rfl := cs_j (k := 2) hj (by decide)
      refine hr_x hO hx hR hC hS hB (by decide) (fun r m1 hp => ?_)
      rcases hp with ⟨e, q1, sm⟩ | ⟨e, q1, sm⟩ | ⟨e, q1, sm⟩ | ⟨e, q1, sm⟩
      all_goals first | exact ⟨e.trans (by decide), sm⟩ | (exfalso; omega)

theorem hr_setSpring {D : va_G} {ad : AD} {c : CS} {L W : Nat} {am : AD} {m : CS} {ao : Nat} {fo : Nat → Int64} {h : vh} {x0 t : Nat} {s n : Int} (hO : Ot D ad L W am m ao fo h) (hx : ad 0 0 = x0) (hR : RepC D ad c L W h) (hC : Cok c L W) (hS : Sim c L W m) (hB : SB c (21 * ((t : Nat) : Int))) : ∀ rv h9, HPo D ao fo (fun rv h' => ∃ (c1 : CS) (r : Int), rv = some (vI r) ∧ CP D ad L W h (c1) h' ∧ ((c 1 0 s.toNat = n ∧ c1 = c ∧ r = 0) ∨ (c 1 0 s.toNat ≠ n ∧ ∃ c2, SPW (6 + s) (cu c 1 0 (fu (c 1 0) s.toNat n)) W c2 ∧ Cok c2 L W ∧ SB c2 (c 5 0 4 + W) ∧ c1 = vpN c2 (6 + s) L ∧ r = sumN (vpB c2 (6 + s)) L)) ∧ ((0 ≤ s ∧ s < 3) ∧ 1 ≤ n ∧ n ≤ 4)) (XP (¬ (0 ≤ s ∧ s < 3)) ((0 ≤ s ∧ s < 3) ∧ ¬ (1 ≤ n ∧ n ≤ 4)) False h) ["java/lang/IndexOutOfBoundsException", "java/lang/IllegalArgumentException"] rv h9 → Hr D am m ao x0 t (fun r m1 => (m1 0 0 0 = 1 ∧ (¬ (0 ≤ s ∧ s < 3)) ∧ SM m m1) ∨ (m1 0 0 0 = 2 ∧ ((0 ≤ s ∧ s < 3) ∧ ¬ (1 ≤ n ∧ n ≤ 4)) ∧ SM m m1) ∨ (m1 0 0 0 = 0 ∧ ((0 ≤ s ∧ s < 3) ∧ (1 ≤ n ∧ n ≤ 4) ∧ m 1 0 s.toNat = n) ∧ r = 0 ∧ SM m m1) ∨ (m1 0 0 0 = 0 ∧ ((0 ≤ s ∧ s < 3) ∧ (1 ≤ n ∧ n ≤ 4) ∧ m 1 0 s.toNat ≠ n) ∧ r = sumN (vdB m (6 + s)) (m 0 0 2).toNat ∧ SPR (6 + s) (cu (cu m 1 0 (fu (m 1 0) s.toNat n)) 6 0 (vdF m (6 + s) (m 0 0 2).toNat)) (m 0 0 14).toNat m1)) rv h9 := by
  intro rv h9 hp
  obtain ⟨⟨a1, a2⟩, _⟩ := id hS
  have kl : m 1 0 s.toNat = c 1 0 s.toNat := by rw [hS.2.1]
  obtain ⟨_, _, _, _, _, l12, l20⟩ := id hC.1
  rcases hp with ⟨v, h1, hp, rfl, rfl⟩ | ⟨E, j, hp, hj, rfl⟩
  · obtain ⟨c1, r0, hv, hcp, hw9, q⟩ := hp
    rcases hw9 with ⟨w1, rfl, w3⟩ | ⟨w1, c2, w2, w3, w4, rfl, w6⟩
    · refine hr_ok hO hx hcp hv hC (hB.le (by omega)) (fun r m1 hp => ?_)
      rcases hp with ⟨e, q1, sm⟩ | ⟨e, q1, sm⟩ | ⟨e, q1, hr, sm⟩ | ⟨e, q1, hr, sm⟩
      · exfalso; omega
      · exfalso; omega
      · exact ⟨e, hS.sm sm, by omega⟩
      · exfalso; omega
    · have hb3 := hB.2.2
      refine hr_ok hO hx hcp hv (vp_cok w3) ((w4.ke (fun k x y => vpN_k (by omega) L)).le (by omega)) (fun r m1 hp => ?_)
      rcases hp with ⟨e, q1, sm⟩ | ⟨e, q1, sm⟩ | ⟨e, q1, hr, sm⟩ | ⟨e, q1, hr, sm⟩
      · exfalso; omega
      · exfalso; omega
      · exfalso; omega
      · rw [show (m 0 0 2).toNat = L by omega] at hr sm
        rw [show (m 0 0 14).toNat = W by omega] at sm
        obtain ⟨s1, s2, s3⟩ := sim_spring hS hC hB (n := n) (by omega) w2 sm
        exact ⟨e, s3, by rw [hr, w6, s1]⟩
  · obtain ⟨rfl, hp⟩ := hp
    rcases hp with ⟨rfl, q⟩ | ⟨rfl, q⟩ | ⟨rfl, q⟩
    · obtain rfl := cs_j (k := 0) hj (by decide)
      refine hr_x hO hx hR hC hS hB (by decide) (fun r m1 hp => ?_)
      rcases hp with ⟨e, q1, sm⟩ | ⟨e, q1, sm⟩ | ⟨e, q1, sm⟩ | ⟨e, q1, sm⟩
      all_goals first | exact ⟨e.trans (by decide), sm⟩ | (exfalso; omega)
    · obtain rfl := cs_j (k := 1) hj (by decide)
      refine hr_x hO hx hR hC hS hB (by decide) (fun r m1 hp => ?_)
      rcases hp with ⟨e, q1, sm⟩ | ⟨e, q1, sm⟩ | ⟨e, q1, sm⟩ | ⟨e, q1, sm⟩
      all_goals first | exact ⟨e.trans (by decide), sm⟩ | (exfalso; omega)
    · exact q.elim


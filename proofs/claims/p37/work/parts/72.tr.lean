/-! ===== each call of the class, as the law sees it ===== -/
theorem CLo.sb9 {c c' : CS} {u : Nat} {b : Int} (h : SB c b) (hc : CLo c c' u) : SB c' b := h.ke (fun k x y => hc k 0 (by omega))
theorem rnM_s {m : CS} {p w : Nat} {x : B4} {n : Int} (h : m 23 0 p = ((w : Nat) : Int)) : rnM m p w x n = kpX (cu m 27 0 (fu (m 27 0) p n)) p w x := by
  unfold rnM
  rw [← h, fu_self, cu_id rfl]
theorem xp_no {P1 P2 P3 : Prop} {h : vh} {E : String} {h' : vh} (hx : XP P1 P2 P3 h E h') (n1 : ¬ P1) (n2 : ¬ P2) (n3 : ¬ P3) : False := by
  obtain ⟨_, hx⟩ := hx
  rcases hx with ⟨_, q⟩ | ⟨_, q⟩ | ⟨_, q⟩
  · exact n1 q
  · exact n2 q
  · exact n3 q
theorem xp_s {P1 P2 P3 : Prop} {h : vh} {E : String} {h' : vh} (hx : XP P1 P2 P3 h E h') (n1 : ¬ P1) (n2 : ¬ P2) : E = "java/lang/IllegalStateException" ∧ h' = h ∧ P3 := by
  obtain ⟨h0, hx⟩ := hx
  rcases hx with ⟨_, q⟩ | ⟨_, q⟩ | ⟨e, q⟩
  · exact absurd q n1
  · exact absurd q n2
  · exact ⟨e, h0, q⟩

/-- the grid of a level by the numbers -/
def gk0 (m : CS) (u : Nat) : Nat → Int := fun j => m 4 0 (96 * u + j)

theorem k_set {l : Launch} {D : va_G} {A : Nat → Prop} {x : Nat} {ar : Nat → Nat} {m : CS} {L W t : Nat} {h : vh} (hS : Sy D x ar m L W t h) {u : Nat} {z k : Int} (hu : u < L) (hz : 0 ≤ z ∧ z < 96) (hk : 0 ≤ k ∧ k ≤ 8) : ∃ P : Option Value → vh → Prop, HX l D A yL_calls wsL_calls { frames := 8, cells := 3, slots := 18, locals := 137 } [.ref x, vI 0, vI ((u : Nat) : Int), vI z, vI k] h P ∧ ∀ rv h9, P rv h9 → (¬ (k = 2 ∧ m 4 0 (96 * u + z.toNat) ≠ 2 ∧ 3 ≤ cnK (gk0 m u) 96) ∧ rv = some (vI (m 4 0 (96 * u + z.toNat))) ∧ Sy D x ar (edM m u (96 * u + z.toNat) z k (m 4 0 (96 * u + z.toNat))) L W (t + 1) h9 ∧ Kp ar h h9) ∨ ((k = 2 ∧ m 4 0 (96 * u + z.toNat) ≠ 2 ∧ 3 ≤ cnK (gk0 m u) 96) ∧ rv = some (vI (-5)) ∧ h9 = h) := by
  obtain ⟨ad, c, hR, rfl, hC, hs, hB, hn⟩ := hS
  obtain ⟨⟨a1, a2⟩, _⟩ := id hs
  obtain ⟨_, _, _, _, _, l12, l20⟩ := id hC.1
  refine ⟨_, c_L_calls_set (c_X7_set hR hC (by omega) (by omega) (by omega)) (hR.1 0 0 (lv0 (by decide))) (fun rv h1 hp => by exact ⟨_, hp.1⟩) (fun E h1 hx => (xp_s hx (by omega) (by first | exact id | omega)).1), fun rv h9 hp => ?_⟩
  have g := (hs.2.2.1 u hu).1
  have kr : m 4 0 (96 * u + z.toNat) = c 12 u z.toNat := g.2.2.2.2.1 z.toNat (by omega)
  have kc : cnK (gk0 m u) 96 = pc3 (c 11 u 2).toNat := (cnK_c (f := gk0 m u) (g := c 12 u) (fun y hy => g.2.2.2.2.1 y hy)).trans g.2.2.2.2.2.cnt.1
  rcases hp with hp | ⟨E, hx, rfl⟩
  · obtain ⟨hv, hcp, q⟩ := hp
    rw [Int.toNat_natCast] at hv hcp q
    obtain ⟨s1, s2⟩ := sim_set hs hC (u := u) hu (z := z) (k := k) (w := m 4 0 (96 * u + z.toNat)) (by omega) (by omega) kr q.2.2.2
    have q9 := Sy.cp (x := ad 0 0) (ar := ar) (t := t + 1) hcp rfl s1 s2 ((CLo.sb9 hB ((((((((CLo.rf.cu (by decide)).cu (by decide)).cu (by decide)).cu (by decide)).cu (by decide)).cu (by decide)).cu (by decide)).cu (by decide))).le (by omega)) hn
    exact Or.inl ⟨by rw [kr, kc]; exact q.2.2.2, by rw [kr]; exact hv, q9.1, q9.2⟩
  · obtain ⟨_, rfl, q⟩ := xp_s hx (by omega) (by first | exact id | omega)
    rw [Int.toNat_natCast] at q
    exact Or.inr ⟨by rw [kr, kc]; exact q.2.2.2, rfl, rfl⟩

theorem k_undo {l : Launch} {D : va_G} {A : Nat → Prop} {x : Nat} {ar : Nat → Nat} {m : CS} {L W t : Nat} {h : vh} (hS : Sy D x ar m L W t h) {u : Nat} (hu : u < L) {b1 b2 : Int} : ∃ P : Option Value → vh → Prop, HX l D A yL_calls wsL_calls { frames := 8, cells := 2, slots := 12, locals := 136 } [.ref x, vI 1, vI ((u : Nat) : Int), vI b1, vI b2] h P ∧ ∀ rv h9, P rv h9 → (1 ≤ m 8 0 u ∧ rv = some (vI (m 9 0 (40 * u + ((m 8 0 u).toNat - 1)))) ∧ Sy D x ar (unM m u (40 * u + ((m 8 0 u).toNat - 1)) (40 * u + (m 11 0 u).toNat) (96 * u + (m 9 0 (40 * u + ((m 8 0 u).toNat - 1))).toNat) 0 (m 10 0 (40 * u + ((m 8 0 u).toNat - 1)) / 10)) L W (t + 1) h9 ∧ Kp ar h h9) ∨ (m 8 0 u = 0 ∧ rv = some (vI (-5)) ∧ h9 = h) := by
  obtain ⟨ad, c, hR, rfl, hC, hs, hB, hn⟩ := hS
  obtain ⟨⟨a1, a2⟩, _⟩ := id hs
  obtain ⟨_, _, _, _, _, l12, l20⟩ := id hC.1
  refine ⟨_, c_L_calls_undo (c_X7_undo hR hC (by omega)) (hR.1 0 0 (lv0 (by decide))) (fun rv h1 hp => by exact ⟨_, hp.1⟩) (fun E h1 hx => (xp_s hx (by omega) (by first | exact id | omega)).1), fun rv h9 hp => ?_⟩
  obtain ⟨e1, e2, _⟩ := (hs.2.2.1 u hu).2
  obtain ⟨d1, d2, d3⟩ := (hC.2.2.1 u hu).2.2.1
  rcases hp with hp | ⟨E, hx, rfl⟩
  · obtain ⟨hv, hcp, q⟩ := hp
    rw [Int.toNat_natCast] at hv hcp q
    obtain ⟨s1, s3, s2⟩ := sim_undo hs hC (u := u) hu (d := (c 14 u 3).toNat - 1) (s := (c 14 u 4).toNat) (by omega) (by omega)
    have q9 := Sy.cp (x := ad 0 0) (ar := ar) (t := t + 1) hcp rfl s1 s2 ((CLo.sb9 hB (unC_e (c := c) (u := u)).1).le (by omega)) hn
    rw [← s3] at hv q9
    rw [show (c 14 u 3).toNat - 1 = (m 8 0 u).toNat - 1 by omega, show (c 14 u 4).toNat = (m 11 0 u).toNat by omega] at q9
    rw [show (c 14 u 3).toNat - 1 = (m 8 0 u).toNat - 1 by omega] at hv
    exact Or.inl ⟨by omega, hv, q9.1, q9.2⟩
  · obtain ⟨_, rfl, q⟩ := xp_s hx (by omega) (by first | exact id | omega)
    rw [Int.toNat_natCast] at q
    exact Or.inr ⟨by omega, rfl, rfl⟩

theorem k_redo {l : Launch} {D : va_G} {A : Nat → Prop} {x : Nat} {ar : Nat → Nat} {m : CS} {L W t : Nat} {h : vh} (hS : Sy D x ar m L W t h) {u : Nat} (hu : u < L) {b1 b2 : Int} : ∃ P : Option Value → vh → Prop, HX l D A yL_calls wsL_calls { frames := 8, cells := 2, slots := 12, locals := 136 } [.ref x, vI 2, vI ((u : Nat) : Int), vI b1, vI b2] h P ∧ ∀ rv h9, P rv h9 → (1 ≤ m 11 0 u ∧ rv = some (vI (m 12 0 (40 * u + ((m 11 0 u).toNat - 1)))) ∧ Sy D x ar (reM m u (40 * u + ((m 11 0 u).toNat - 1)) (96 * u + (m 12 0 (40 * u + ((m 11 0 u).toNat - 1))).toNat) (m 13 0 (40 * u + ((m 11 0 u).toNat - 1)) % 10)) L W (t + 1) h9 ∧ Kp ar h h9) ∨ (m 11 0 u = 0 ∧ rv = some (vI (-5)) ∧ h9 = h) := by
  obtain ⟨ad, c, hR, rfl, hC, hs, hB, hn⟩ := hS
  obtain ⟨⟨a1, a2⟩, _⟩ := id hs
  obtain ⟨_, _, _, _, _, l12, l20⟩ := id hC.1
  refine ⟨_, c_L_calls_redo (c_X7_redo hR hC (by omega)) (hR.1 0 0 (lv0 (by decide))) (fun rv h1 hp => by exact ⟨_, hp.1⟩) (fun E h1 hx => (xp_s hx (by omega) (by first | exact id | omega)).1), fun rv h9 hp => ?_⟩
  obtain ⟨e1, e2, _⟩ := (hs.2.2.1 u hu).2
  obtain ⟨d1, d2, d3⟩ := (hC.2.2.1 u hu).2.2.1
  rcases hp with hp | ⟨E, hx, rfl⟩
  · obtain ⟨hv, hcp, q⟩ := hp
    rw [Int.toNat_natCast] at hv hcp q
    obtain ⟨s1, s3, s2⟩ := sim_redo hs hC (u := u) hu (d := (c 14 u 3).toNat) (s := (c 14 u 4).toNat - 1) (by omega) (by omega)
    have q9 := Sy.cp (x := ad 0 0) (ar := ar) (t := t + 1) hcp rfl s1 s2 ((CLo.sb9 hB (reC_e (c := c) (u := u)).1).le (by omega)) hn
    rw [← s3] at hv q9
    rw [show (c 14 u 4).toNat - 1 = (m 11 0 u).toNat - 1 by omega] at q9 hv
    exact Or.inl ⟨by omega, hv, q9.1, q9.2⟩
  · obtain ⟨_, rfl, q⟩ := xp_s hx (by omega) (by first | exact id | omega)
    rw [Int.toNat_natCast] at q
    exact Or.inr ⟨by omega, rfl, rfl⟩

theorem k_offer {l : Launch} {D : va_G} {A : Nat → Prop} {x : Nat} {ar : Nat → Nat} {m : CS} {L W t : Nat} {h : vh} (hS : Sy D x ar m L W t h) {u : Nat} (hu : u < L) (hW : W < 20) (hl9 : ∀ j, j < 16 → h (ar j) ≠ none) {b1 b2 : Int} : ∃ P : Option Value → vh → Prop, HX l D A yL_calls wsL_calls { frames := 8, cells := 6, slots := 122, locals := 134 } [.ref x, vI 3, vI ((u : Nat) : Int), vI b1, vI b2] h P ∧ ∀ rv h9, P rv h9 → (0 ≤ m 6 0 u ∧ rv = some (vI ((W : Nat) : Int)) ∧ Sy D x ar (ofN m u) L (W + 1) (t + 1) h9 ∧ Kp ar h h9) ∨ (m 6 0 u < 0 ∧ rv = some (vI (-5)) ∧ h9 = h) := by
  obtain ⟨ad, c, hR, rfl, hC, hs, hB, hn⟩ := hS
  obtain ⟨⟨a1, a2⟩, _⟩ := id hs
  obtain ⟨_, _, _, _, _, l12, l20⟩ := id hC.1
  refine ⟨_, c_L_calls_offer (c_X7_offer hR hC (by omega)) (hR.1 0 0 (lv0 (by decide))) (fun rv h1 hp => by obtain ⟨ad9, hp, _⟩ := hp; exact ⟨_, hp⟩) (fun E h1 hx => (xp_s hx (by omega) (by first | exact id | omega)).1), fun rv h9 hp => ?_⟩
  have kl : m 6 0 u = c 10 u 5 := (hs.2.2.1 u hu).1.2.2.1
  rcases hp with hp | ⟨E, hx, rfl⟩
  · obtain ⟨ad9, hv, hcp, hg, q⟩ := hp
    rw [Int.toNat_natCast] at hcp q
    obtain ⟨s1, s2⟩ := sim_offer hs hC (W := W) (by omega) (u := u) hu (by omega)
    have q9 := Sy.gr (x := ad 0 0) (ar := ar) (t := t + 1) hg hcp rfl s1 s2 ((hB.ke (fun k x y => (cu_k (by omega)).trans ((cu_k (by omega)).trans (cG_k (by omega))))).le (by omega)) hn hl9
    exact Or.inl ⟨by omega, hv, q9.1, q9.2⟩
  · obtain ⟨_, rfl, q⟩ := xp_s hx (by omega) (by first | exact id | omega)
    rw [Int.toNat_natCast] at q
    exact Or.inr ⟨by omega, rfl, rfl⟩

theorem k_copy {l : Launch} {D : va_G} {A : Nat → Prop} {x : Nat} {ar : Nat → Nat} {m : CS} {L W t : Nat} {h : vh} (hS : Sy D x ar m L W t h) {u p : Nat} (hu : u < W) (hp9 : p < 6) (hL : L < 12) (hl9 : ∀ j, j < 16 → h (ar j) ≠ none) {b2 : Int} : ∃ P : Option Value → vh → Prop, HX l D A yL_calls wsL_calls { frames := 8, cells := 11, slots := 251, locals := 137 } [.ref x, vI 4, vI ((u : Nat) : Int), vI ((p : Nat) : Int), vI b2] h P ∧ ∀ rv h9, P rv h9 → (0 ≤ m 18 0 u ∧ rv = some (vI ((L : Nat) : Int)) ∧ Sy D x ar (opN (cu m 4 0 (rowG (m 4 0) (96 * (m 0 0 2).toNat) (fun j => m 16 0 (96 * u + j)) 96)) ((p : Nat) : Int) (m 17 0 u) ((u : Nat) : Int)) (L + 1) W (t + 1) h9 ∧ Kp ar h h9) ∨ (m 18 0 u < 0 ∧ rv = some (vI (-5)) ∧ h9 = h) := by
  obtain ⟨ad, c, hR, rfl, hC, hs, hB, hn⟩ := hS
  obtain ⟨⟨a1, a2⟩, _⟩ := id hs
  obtain ⟨_, _, _, _, _, l12, l20⟩ := id hC.1
  refine ⟨_, c_L_calls_copy (c_X7_copy hR hC (by omega) (by omega)) (hR.1 0 0 (lv0 (by decide))) (fun rv h1 hp => by obtain ⟨ad9, hp, _⟩ := hp; exact ⟨_, hp⟩) (fun E h1 hx => (xp_s hx (by omega) (by first | exact id | omega)).1), fun rv h9 hp => ?_⟩
  have kl : m 18 0 u = c 18 u 6 := (hs.2.2.2.1 u hu).2.2.1
  rcases hp with hp | ⟨E, hx, rfl⟩
  · obtain ⟨ad9, hv, hcp, hg, q⟩ := hp
    rw [Int.toNat_natCast] at hcp q
    obtain ⟨s1, s2⟩ := sim_copy hs hC (L := L) (by omega) (w := u) hu (p := ((p : Nat) : Int)) (by omega)
    have q9 := Sy.gr (x := ad 0 0) (ar := ar) (t := t + 1) hg hcp rfl s1 s2 ((hB.ke (fun k x y => (cu_k (by omega)).trans ((cu_k (by omega)).trans ((cu_k (by omega)).trans ((cu_k (by omega)).trans (cAdd_o (by omega))))))).le (by omega)) hn hl9
    exact Or.inl ⟨by omega, hv, q9.1, q9.2⟩
  · obtain ⟨_, rfl, q⟩ := xp_s hx (by omega) (by first | exact id | omega)
    rw [Int.toNat_natCast] at q
    exact Or.inr ⟨by omega, rfl, rfl⟩

theorem k_star {l : Launch} {D : va_G} {A : Nat → Prop} {x : Nat} {ar : Nat → Nat} {m : CS} {L W t : Nat} {h : vh} (hS : Sy D x ar m L W t h) {u p : Nat} {k : Int} (hu : u < W) (hp9 : p < 6) (hk : 1 ≤ k ∧ k ≤ 5) : ∃ P : Option Value → vh → Prop, HX l D A yL_calls wsL_calls { frames := 8, cells := 4, slots := 24, locals := 137 } [.ref x, vI 5, vI ((u : Nat) : Int), vI ((p : Nat) : Int), vI k] h P ∧ ∀ rv h9, P rv h9 → ((0 ≤ m 18 0 u ∧ m 15 0 u ≠ ((p : Nat) : Int)) ∧ rv = some (vI (m 21 0 (6 * u + p))) ∧ Sy D x ar (cu m 21 0 (fu (m 21 0) (6 * u + p) k)) L W (t + 1) h9 ∧ Kp ar h h9) ∨ (¬ (0 ≤ m 18 0 u ∧ m 15 0 u ≠ ((p : Nat) : Int)) ∧ rv = some (vI (-5)) ∧ h9 = h) := by
  obtain ⟨ad, c, hR, rfl, hC, hs, hB, hn⟩ := hS
  obtain ⟨⟨a1, a2⟩, _⟩ := id hs
  obtain ⟨_, _, _, _, _, l12, l20⟩ := id hC.1
  refine ⟨_, c_L_calls_star (c_X7_star hR hC (by omega) (by omega) (by omega)) (hR.1 0 0 (lv0 (by decide))) (fun rv h1 hp => by exact ⟨_, hp.1⟩) (fun E h1 hx => (xp_s hx (by omega) (by first | exact id | omega)).1), fun rv h9 hp => ?_⟩
  have kl : m 18 0 u = c 18 u 6 := (hs.2.2.2.1 u hu).2.2.1
  have ka : m 15 0 u = c 18 u 1 := (hs.2.2.2.1 u hu).1
  have kr : m 21 0 (6 * u + p) = c 22 u p := (hs.2.2.2.1 u hu).2.2.2.2.2.2.1 p hp9
  rcases hp with hp | ⟨E, hx, rfl⟩
  · obtain ⟨hv, hcp, q⟩ := hp
    rw [Int.toNat_natCast, Int.toNat_natCast] at hv hcp
    rw [Int.toNat_natCast] at q
    obtain ⟨s1, s2⟩ := sim_star hs hC (w := u) (p := p) hu hp9 (n := k) hk
    have q9 := Sy.cp (x := ad 0 0) (ar := ar) (t := t + 1) hcp rfl s1 s2 ((hB.ke (fun k x y => cu_n (fun z => by omega))).le (by omega)) hn
    exact Or.inl ⟨by omega, by rw [kr]; exact hv, q9.1, q9.2⟩
  · obtain ⟨_, rfl, q⟩ := xp_s hx (by omega) (by first | exact id | omega)
    rw [Int.toNat_natCast] at q
    exact Or.inr ⟨by omega, rfl, rfl⟩

theorem k_run {l : Launch} {D : va_G} {A : Nat → Prop} {x : Nat} {ar : Nat → Nat} {m : CS} {L W t : Nat} {h : vh} (hS : Sy D x ar m L W t h) {u p : Nat} (hu : u < W) (hp9 : p < 6) {b2 : Int} : ∃ P : Option Value → vh → Prop, HX l D A yL_calls wsL_calls { frames := 8, cells := 3, slots := 18, locals := 136 } [.ref x, vI 6, vI ((p : Nat) : Int), vI ((u : Nat) : Int), vI b2] h P ∧ ∀ rv h9, P rv h9 → (0 ≤ m 18 0 u ∧ rv = some (vI (kpR (X0r (lyG (rwM (m 16 0) (96 * u)) (m 28 0) 96) (kbr (rwM (m 16 0) (96 * u)) (m 29 0)) (m 17 0 u)))) ∧ Sy D x ar (rnM m p u (X0r (lyG (rwM (m 16 0) (96 * u)) (m 28 0) 96) (kbr (rwM (m 16 0) (96 * u)) (m 29 0)) (m 17 0 u)) 0) L W (t + 1) h9 ∧ Kp ar h h9) ∨ (m 18 0 u < 0 ∧ rv = some (vI (-5)) ∧ h9 = h) := by
  obtain ⟨ad, c, hR, rfl, hC, hs, hB, hn⟩ := hS
  obtain ⟨⟨a1, a2⟩, _⟩ := id hs
  obtain ⟨_, _, _, _, _, l12, l20⟩ := id hC.1
  refine ⟨_, c_L_calls_run (c_X7_run hR hC (by omega) (by omega)) (hR.1 0 0 (lv0 (by decide))) (fun rv h1 hp => by exact ⟨_, hp.1⟩) (fun E h1 hx => (xp_s hx (by omega) (by first | exact id | omega)).1), fun rv h9 hp => ?_⟩
  have g := hs.2.2.2.1 u hu
  have kl : m 18 0 u = c 18 u 6 := g.2.2.1
  have q4 := (hC.2.2.2.1 u hu).2.2.2.2.1
  rcases hp with hp | ⟨E, hx, rfl⟩
  · obtain ⟨hv, hcp, q⟩ := hp
    rw [Int.toNat_natCast] at hv q
    rw [Int.toNat_natCast, Int.toNat_natCast] at hcp
    have hX := g.2.2.2.2.2.2.2.x0 (m := m) (hs.r16 hu) (c 18 u 4)
    rw [← g.2.1] at hX
    rw [g.2.1] at hX
    obtain ⟨s1, s2⟩ := sim_run hs hC (p := p) (w := u) hu hp9 (X0_ok q4) hX (n := 0) (by decide)
    have q9 := Sy.cp (c' := rnC c p u (X0 (c 20 u) (c 21 u) (c 18 u 4)) 0) (x := ad 0 0) (ar := ar) (t := t + 1) hcp rfl s1 s2 ((hB.ke (fun k x y => (cu_k (by omega)).trans ((cu_k (by omega)).trans (cu_k (by omega))))).le (by omega)) hn
    rw [← g.2.1] at q9 hX
    refine Or.inl ⟨by omega, ?_, q9.1, q9.2⟩
    rw [kpR_e hX, g.2.1]
    exact hv
  · obtain ⟨_, rfl, q⟩ := xp_s hx (by omega) (by first | exact id | omega)
    rw [Int.toNat_natCast] at q
    exact Or.inr ⟨by omega, rfl, rfl⟩

theorem k_step {l : Launch} {D : va_G} {A : Nat → Prop} {x : Nat} {ar : Nat → Nat} {m : CS} {L W t : Nat} {h : vh} (hS : Sy D x ar m L W t h) {p : Nat} {z : Int} (hp9 : p < 6) (hz : 0 ≤ z ∧ z < 6) {b2 : Int} : ∃ P : Option Value → vh → Prop, HX l D A yL_calls wsL_calls { frames := 8, cells := 2, slots := 12, locals := 135 } [.ref x, vI 7, vI ((p : Nat) : Int), vI z, vI b2] h P ∧ ∀ rv h9, P rv h9 → ((m 22 0 p = 1 ∧ m 27 0 p < 200) ∧ rv = some (vI (kpR (mv (lyG (rwM (m 16 0) (96 * (m 23 0 p).toNat)) (m 28 0) 96) (kbr (rwM (m 16 0) (96 * (m 23 0 p).toNat)) (m 29 0)) (lyA (rwM (m 16 0) (96 * (m 23 0 p).toNat)) 96) (m 1 0) z (m 24 0 p) (m 25 0 p) (m 26 0 p).toNat))) ∧ Sy D x ar (kpX (cu m 27 0 (fu (m 27 0) p (m 27 0 p + 1))) p (m 23 0 p).toNat (mv (lyG (rwM (m 16 0) (96 * (m 23 0 p).toNat)) (m 28 0) 96) (kbr (rwM (m 16 0) (96 * (m 23 0 p).toNat)) (m 29 0)) (lyA (rwM (m 16 0) (96 * (m 23 0 p).toNat)) 96) (m 1 0) z (m 24 0 p) (m 25 0 p) (m 26 0 p).toNat)) L W (t + 1) h9 ∧ Kp ar h h9) ∨ (¬ (m 22 0 p = 1 ∧ m 27 0 p < 200) ∧ rv = some (vI (-5)) ∧ h9 = h) := by
  obtain ⟨ad, c, hR, rfl, hC, hs, hB, hn⟩ := hS
  obtain ⟨⟨a1, a2⟩, _⟩ := id hs
  obtain ⟨_, _, _, _, _, l12, l20⟩ := id hC.1
  refine ⟨_, c_L_calls_step (c_X7_step hR hC (by omega) (by omega)) (hR.1 0 0 (lv0 (by decide))) (fun rv h1 hp => by obtain ⟨x9, hp, _⟩ := hp; exact ⟨_, hp⟩) (fun E h1 hx => (xp_s hx (by omega) (by first | exact id | omega)).1), fun rv h9 hp => ?_⟩
  obtain ⟨r1, r2, r3, r4, r5, r6, r7, r8⟩ := hs.2.2.2.2.1 p hp9
  obtain ⟨b1, b2, b3, b4, b5, b6, b7, b8⟩ := hC.2.2.2.2 p hp9
  rcases hp with hp | ⟨E, hx, rfl⟩
  · obtain ⟨x9, hv, hcp, q⟩ := hp
    rw [Int.toNat_natCast] at hv hcp q
    have hw : x9 < W := q.2.2.2.2.1
    have hpx : c 23 p 1 = (x9 : Int) + 1 := q.2.2.2.2.2
    have g := hs.2.2.2.1 x9 hw
    obtain ⟨f1, f2⟩ := r8 (by omega)
    have e23 : (m 23 0 p).toNat = x9 := by omega
    rw [show (c 23 p 1 - 1).toNat = x9 by omega] at f2
    have hX := g.2.2.2.2.2.2.2.mv_ (m := m) (S := c 1 0) (hs.r16 hw) hs.2.1 f2 (i := z) (c := c 24 p 1) (v := c 24 p 2)
    obtain ⟨s1, s2⟩ := sim_run hs hC (p := p) (w := x9) hw hp9 (mv_r (kbf_r _ _) hC.2.1 b5 b6 (by omega)) hX (n := c 23 p 3 + 1) (by omega)
    have q9 := Sy.cp (c' := rnC c p x9 (mv (c 20 x9) (kbf (c 20 x9) (c 21 x9)) (c 19 x9 2).toNat (c 1 0) z (c 24 p 1) (c 24 p 2) (c 24 p 3).toNat) (c 23 p 3 + 1)) (x := ad 0 0) (ar := ar) (t := t + 1) hcp rfl s1 s2 ((hB.ke (fun k x y => (cu_k (by omega)).trans ((cu_k (by omega)).trans (cu_k (by omega))))).le (by omega)) hn
    rw [rnM_s (by omega)] at q9
    rw [← r3, ← r4, ← e23, ← r2] at q9
    rw [← r3, ← r4, ← e23] at hX
    refine Or.inl ⟨by omega, ?_, q9.1, q9.2⟩
    rw [kpR_e hX, e23, r3, r4]
    exact hv
  · obtain ⟨_, rfl, q⟩ := xp_s hx (by omega) (by first | exact id | omega)
    rw [Int.toNat_natCast] at q
    exact Or.inr ⟨by omega, rfl, rfl⟩


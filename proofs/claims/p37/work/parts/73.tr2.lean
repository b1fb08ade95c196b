theorem k_start {l : Launch} {D : va_G} {A : Nat → Prop} {x : Nat} {ar : Nat → Nat} {m : CS} {L W t : Nat} {h : vh} (hS : Sy D x ar m L W t h) {u : Nat} (hu : u < L) : ∃ (P : Option Value → vh → Prop) (XPo : String → vh → Prop), TX l D A yX7_start wsX7_start { frames := 7, cells := 1, slots := 6, locals := 112 } [.ref x, vI ((u : Nat) : Int)] h P XPo ∧ (∀ E h9, XPo E h9 → False) ∧ ∀ rv h9, P rv h9 → rv = some (vI (m 5 0 u)) ∧ h9 = h := by
  obtain ⟨ad, c, hR, rfl, hC, hs, hB, hn⟩ := hS
  obtain ⟨⟨a1, a2⟩, _⟩ := id hs
  obtain ⟨_, _, _, _, _, l12, l20⟩ := id hC.1
  refine ⟨_, _, c_X7_start hR hC (by omega), fun E h9 hx => xp_no hx (by first | exact id | omega) (by first | exact id | omega) (by first | exact id | omega), fun rv h9 hp => ?_⟩
  obtain ⟨hv, rfl, q⟩ := hp
  rw [Int.toNat_natCast] at hv
  exact ⟨by rw [(hs.2.2.1 u hu).1.2.1]; exact hv, rfl⟩

theorem k_proof {l : Launch} {D : va_G} {A : Nat → Prop} {x : Nat} {ar : Nat → Nat} {m : CS} {L W t : Nat} {h : vh} (hS : Sy D x ar m L W t h) {u : Nat} (hu : u < L) : ∃ (P : Option Value → vh → Prop) (XPo : String → vh → Prop), TX l D A yX7_proof wsX7_proof { frames := 7, cells := 1, slots := 6, locals := 112 } [.ref x, vI ((u : Nat) : Int)] h P XPo ∧ (∀ E h9, XPo E h9 → False) ∧ ∀ rv h9, P rv h9 → rv = some (vI (m 6 0 u)) ∧ h9 = h := by
  obtain ⟨ad, c, hR, rfl, hC, hs, hB, hn⟩ := hS
  obtain ⟨⟨a1, a2⟩, _⟩ := id hs
  obtain ⟨_, _, _, _, _, l12, l20⟩ := id hC.1
  refine ⟨_, _, c_X7_proof hR hC (by omega), fun E h9 hx => xp_no hx (by first | exact id | omega) (by first | exact id | omega) (by first | exact id | omega), fun rv h9 hp => ?_⟩
  obtain ⟨hv, rfl, q⟩ := hp
  rw [Int.toNat_natCast] at hv
  exact ⟨by rw [(hs.2.2.1 u hu).1.2.2.1]; exact hv, rfl⟩

theorem k_author {l : Launch} {D : va_G} {A : Nat → Prop} {x : Nat} {ar : Nat → Nat} {m : CS} {L W t : Nat} {h : vh} (hS : Sy D x ar m L W t h) {u : Nat} (hu : u < W) : ∃ (P : Option Value → vh → Prop) (XPo : String → vh → Prop), TX l D A yX7_author wsX7_author { frames := 7, cells := 1, slots := 6, locals := 112 } [.ref x, vI ((u : Nat) : Int)] h P XPo ∧ (∀ E h9, XPo E h9 → False) ∧ ∀ rv h9, P rv h9 → rv = some (vI (m 15 0 u)) ∧ h9 = h := by
  obtain ⟨ad, c, hR, rfl, hC, hs, hB, hn⟩ := hS
  obtain ⟨⟨a1, a2⟩, _⟩ := id hs
  obtain ⟨_, _, _, _, _, l12, l20⟩ := id hC.1
  refine ⟨_, _, c_X7_author hR hC (by omega), fun E h9 hx => xp_no hx (by first | exact id | omega) (by first | exact id | omega) (by first | exact id | omega), fun rv h9 hp => ?_⟩
  obtain ⟨hv, rfl, q⟩ := hp
  rw [Int.toNat_natCast] at hv
  exact ⟨by rw [(hs.2.2.2.1 u hu).1]; exact hv, rfl⟩

theorem k_best {l : Launch} {D : va_G} {A : Nat → Prop} {x : Nat} {ar : Nat → Nat} {m : CS} {L W t : Nat} {h : vh} (hS : Sy D x ar m L W t h) {u : Nat} (hu : u < W) : ∃ (P : Option Value → vh → Prop) (XPo : String → vh → Prop), TX l D A yX7_best wsX7_best { frames := 7, cells := 1, slots := 6, locals := 112 } [.ref x, vI ((u : Nat) : Int)] h P XPo ∧ (∀ E h9, XPo E h9 → False) ∧ ∀ rv h9, P rv h9 → rv = some (vI (m 18 0 u)) ∧ h9 = h := by
  obtain ⟨ad, c, hR, rfl, hC, hs, hB, hn⟩ := hS
  obtain ⟨⟨a1, a2⟩, _⟩ := id hs
  obtain ⟨_, _, _, _, _, l12, l20⟩ := id hC.1
  refine ⟨_, _, c_X7_best hR hC (by omega), fun E h9 hx => xp_no hx (by first | exact id | omega) (by first | exact id | omega) (by first | exact id | omega), fun rv h9 hp => ?_⟩
  obtain ⟨hv, rfl, q⟩ := hp
  rw [Int.toNat_natCast] at hv
  exact ⟨by rw [(hs.2.2.2.1 u hu).2.2.1]; exact hv, rfl⟩

theorem k_parent {l : Launch} {D : va_G} {A : Nat → Prop} {x : Nat} {ar : Nat → Nat} {m : CS} {L W t : Nat} {h : vh} (hS : Sy D x ar m L W t h) {u : Nat} (hu : u < W) : ∃ (P : Option Value → vh → Prop) (XPo : String → vh → Prop), TX l D A yX7_parent wsX7_parent { frames := 7, cells := 1, slots := 6, locals := 112 } [.ref x, vI ((u : Nat) : Int)] h P XPo ∧ (∀ E h9, XPo E h9 → False) ∧ ∀ rv h9, P rv h9 → rv = some (vI (m 19 0 u)) ∧ h9 = h := by
  obtain ⟨ad, c, hR, rfl, hC, hs, hB, hn⟩ := hS
  obtain ⟨⟨a1, a2⟩, _⟩ := id hs
  obtain ⟨_, _, _, _, _, l12, l20⟩ := id hC.1
  refine ⟨_, _, c_X7_parent hR hC (by omega), fun E h9 hx => xp_no hx (by first | exact id | omega) (by first | exact id | omega) (by first | exact id | omega), fun rv h9 hp => ?_⟩
  obtain ⟨hv, rfl, q⟩ := hp
  rw [Int.toNat_natCast] at hv
  exact ⟨by rw [(hs.2.2.2.1 u hu).2.2.2.1]; exact hv, rfl⟩

theorem k_record {l : Launch} {D : va_G} {A : Nat → Prop} {x : Nat} {ar : Nat → Nat} {m : CS} {L W t : Nat} {h : vh} (hS : Sy D x ar m L W t h) {u : Nat} (hu : u < W) : ∃ (P : Option Value → vh → Prop) (XPo : String → vh → Prop), TX l D A yX7_record wsX7_record { frames := 7, cells := 1, slots := 6, locals := 112 } [.ref x, vI ((u : Nat) : Int)] h P XPo ∧ (∀ E h9, XPo E h9 → False) ∧ ∀ rv h9, P rv h9 → rv = some (vI (m 20 0 u)) ∧ h9 = h := by
  obtain ⟨ad, c, hR, rfl, hC, hs, hB, hn⟩ := hS
  obtain ⟨⟨a1, a2⟩, _⟩ := id hs
  obtain ⟨_, _, _, _, _, l12, l20⟩ := id hC.1
  refine ⟨_, _, c_X7_record hR hC (by omega), fun E h9 hx => xp_no hx (by first | exact id | omega) (by first | exact id | omega) (by first | exact id | omega), fun rv h9 hp => ?_⟩
  obtain ⟨hv, rfl, q⟩ := hp
  rw [Int.toNat_natCast] at hv
  exact ⟨by rw [(hs.2.2.2.1 u hu).2.2.2.2.1]; exact hv, rfl⟩

theorem k_runState {l : Launch} {D : va_G} {A : Nat → Prop} {x : Nat} {ar : Nat → Nat} {m : CS} {L W t : Nat} {h : vh} (hS : Sy D x ar m L W t h) {p : Nat} (hp9 : p < 6) : ∃ (P : Option Value → vh → Prop) (XPo : String → vh → Prop), TX l D A yX7_runState wsX7_runState { frames := 7, cells := 1, slots := 6, locals := 112 } [.ref x, vI ((p : Nat) : Int)] h P XPo ∧ (∀ E h9, XPo E h9 → False) ∧ ∀ rv h9, P rv h9 → rv = some (vI (m 22 0 p)) ∧ h9 = h := by
  obtain ⟨ad, c, hR, rfl, hC, hs, hB, hn⟩ := hS
  obtain ⟨⟨a1, a2⟩, _⟩ := id hs
  obtain ⟨_, _, _, _, _, l12, l20⟩ := id hC.1
  refine ⟨_, _, c_X7_runState hR hC (by omega), fun E h9 hx => xp_no hx (by first | exact id | omega) (by first | exact id | omega) (by first | exact id | omega), fun rv h9 hp => ?_⟩
  obtain ⟨hv, rfl, q⟩ := hp
  rw [Int.toNat_natCast] at hv
  exact ⟨by rw [(hs.2.2.2.2.1 p hp9).1]; exact hv, rfl⟩

theorem k_stepsOf {l : Launch} {D : va_G} {A : Nat → Prop} {x : Nat} {ar : Nat → Nat} {m : CS} {L W t : Nat} {h : vh} (hS : Sy D x ar m L W t h) {p : Nat} (hp9 : p < 6) : ∃ (P : Option Value → vh → Prop) (XPo : String → vh → Prop), TX l D A yX7_stepsOf wsX7_stepsOf { frames := 7, cells := 1, slots := 6, locals := 112 } [.ref x, vI ((p : Nat) : Int)] h P XPo ∧ (∀ E h9, XPo E h9 → False) ∧ ∀ rv h9, P rv h9 → rv = some (vI (m 27 0 p)) ∧ h9 = h := by
  obtain ⟨ad, c, hR, rfl, hC, hs, hB, hn⟩ := hS
  obtain ⟨⟨a1, a2⟩, _⟩ := id hs
  obtain ⟨_, _, _, _, _, l12, l20⟩ := id hC.1
  refine ⟨_, _, c_X7_stepsOf hR hC (by omega), fun E h9 hx => xp_no hx (by first | exact id | omega) (by first | exact id | omega) (by first | exact id | omega), fun rv h9 hp => ?_⟩
  obtain ⟨hv, rfl, q⟩ := hp
  rw [Int.toNat_natCast] at hv
  exact ⟨by rw [(hs.2.2.2.2.1 p hp9).2.1]; exact hv, rfl⟩

theorem k_speed {l : Launch} {D : va_G} {A : Nat → Prop} {x : Nat} {ar : Nat → Nat} {m : CS} {L W t : Nat} {h : vh} (hS : Sy D x ar m L W t h) {p : Nat} (hp9 : p < 6) : ∃ (P : Option Value → vh → Prop) (XPo : String → vh → Prop), TX l D A yX7_speed wsX7_speed { frames := 7, cells := 1, slots := 6, locals := 112 } [.ref x, vI ((p : Nat) : Int)] h P XPo ∧ (∀ E h9, XPo E h9 → False) ∧ ∀ rv h9, P rv h9 → rv = some (vI (m 25 0 p)) ∧ h9 = h := by
  obtain ⟨ad, c, hR, rfl, hC, hs, hB, hn⟩ := hS
  obtain ⟨⟨a1, a2⟩, _⟩ := id hs
  obtain ⟨_, _, _, _, _, l12, l20⟩ := id hC.1
  refine ⟨_, _, c_X7_speed hR hC (by omega), fun E h9 hx => xp_no hx (by first | exact id | omega) (by first | exact id | omega) (by first | exact id | omega), fun rv h9 hp => ?_⟩
  obtain ⟨hv, rfl, q⟩ := hp
  rw [Int.toNat_natCast] at hv
  exact ⟨by rw [(hs.2.2.2.2.1 p hp9).2.2.2.1]; exact hv, rfl⟩

theorem k_strength {l : Launch} {D : va_G} {A : Nat → Prop} {x : Nat} {ar : Nat → Nat} {m : CS} {L W t : Nat} {h : vh} (hS : Sy D x ar m L W t h) {u : Nat} (hu : u < 3) : ∃ (P : Option Value → vh → Prop) (XPo : String → vh → Prop), TX l D A yX7_strength wsX7_strength { frames := 7, cells := 1, slots := 6, locals := 110 } [.ref x, vI ((u : Nat) : Int)] h P XPo ∧ (∀ E h9, XPo E h9 → False) ∧ ∀ rv h9, P rv h9 → rv = some (vI (m 1 0 u)) ∧ h9 = h := by
  obtain ⟨ad, c, hR, rfl, hC, hs, hB, hn⟩ := hS
  obtain ⟨⟨a1, a2⟩, _⟩ := id hs
  obtain ⟨_, _, _, _, _, l12, l20⟩ := id hC.1
  refine ⟨_, _, c_X7_strength hR hC (by omega), fun E h9 hx => xp_no hx (by first | exact id | omega) (by first | exact id | omega) (by first | exact id | omega), fun rv h9 hp => ?_⟩
  obtain ⟨hv, rfl, q⟩ := hp
  rw [Int.toNat_natCast] at hv
  exact ⟨by rw [hs.2.1]; exact hv, rfl⟩

theorem k_body {l : Launch} {D : va_G} {A : Nat → Prop} {x : Nat} {ar : Nat → Nat} {m : CS} {L W t : Nat} {h : vh} (hS : Sy D x ar m L W t h) {p : Nat} (hp9 : p < 6) : ∃ (P : Option Value → vh → Prop) (XPo : String → vh → Prop), TX l D A yX7_body wsX7_body { frames := 7, cells := 1, slots := 6, locals := 112 } [.ref x, vI ((p : Nat) : Int)] h P XPo ∧ (∀ E h9, XPo E h9 → False) ∧ ∀ rv h9, P rv h9 → rv = some (vI (if m 22 0 p = 0 then -1 else m 24 0 p)) ∧ h9 = h := by
  obtain ⟨ad, c, hR, rfl, hC, hs, hB, hn⟩ := hS
  obtain ⟨⟨a1, a2⟩, _⟩ := id hs
  obtain ⟨_, _, _, _, _, l12, l20⟩ := id hC.1
  refine ⟨_, _, c_X7_body hR hC (by omega), fun E h9 hx => xp_no hx (by first | exact id | omega) (by first | exact id | omega) (by first | exact id | omega), fun rv h9 hp => ?_⟩
  obtain ⟨hv, rfl, q⟩ := hp
  rw [Int.toNat_natCast] at hv
  exact ⟨by rw [(hs.2.2.2.2.1 p hp9).1, (hs.2.2.2.2.1 p hp9).2.2.1]; exact hv, rfl⟩

theorem k_keys {l : Launch} {D : va_G} {A : Nat → Prop} {x : Nat} {ar : Nat → Nat} {m : CS} {L W t : Nat} {h : vh} (hS : Sy D x ar m L W t h) {p : Nat} (hp9 : p < 6) : ∃ (P : Option Value → vh → Prop) (XPo : String → vh → Prop), TX l D A yX7_keys wsX7_keys { frames := 7, cells := 1, slots := 6, locals := 112 } [.ref x, vI ((p : Nat) : Int)] h P XPo ∧ (∀ E h9, XPo E h9 → False) ∧ ∀ rv h9, P rv h9 → rv = some (vI (((pc3 (m 26 0 p).toNat : Nat) : Int))) ∧ h9 = h := by
  obtain ⟨ad, c, hR, rfl, hC, hs, hB, hn⟩ := hS
  obtain ⟨⟨a1, a2⟩, _⟩ := id hs
  obtain ⟨_, _, _, _, _, l12, l20⟩ := id hC.1
  refine ⟨_, _, c_X7_keys hR hC (by omega), fun E h9 hx => xp_no hx (by first | exact id | omega) (by first | exact id | omega) (by first | exact id | omega), fun rv h9 hp => ?_⟩
  obtain ⟨hv, rfl, q⟩ := hp
  rw [Int.toNat_natCast] at hv
  exact ⟨by rw [← ans_keys hs hC hp9]; exact hv, rfl⟩

theorem k_stars {l : Launch} {D : va_G} {A : Nat → Prop} {x : Nat} {ar : Nat → Nat} {m : CS} {L W t : Nat} {h : vh} (hS : Sy D x ar m L W t h) {u : Nat} (hu : u < W) : ∃ (P : Option Value → vh → Prop) (XPo : String → vh → Prop), TX l D A yX7_stars wsX7_stars { frames := 7, cells := 1, slots := 6, locals := 112 } [.ref x, vI ((u : Nat) : Int)] h P XPo ∧ (∀ E h9, XPo E h9 → False) ∧ ∀ rv h9, P rv h9 → rv = some (vI (sumN (fun j => m 21 0 (6 * u + j)) 6)) ∧ h9 = h := by
  obtain ⟨ad, c, hR, rfl, hC, hs, hB, hn⟩ := hS
  obtain ⟨⟨a1, a2⟩, _⟩ := id hs
  obtain ⟨_, _, _, _, _, l12, l20⟩ := id hC.1
  refine ⟨_, _, c_X7_stars hR hC (by omega), fun E h9 hx => xp_no hx (by first | exact id | omega) (by first | exact id | omega) (by first | exact id | omega), fun rv h9 hp => ?_⟩
  obtain ⟨hv, rfl, q⟩ := hp
  rw [Int.toNat_natCast] at hv
  exact ⟨by rw [← ans_stars hs hu]; exact hv, rfl⟩

theorem k_line {l : Launch} {D : va_G} {A : Nat → Prop} {x : Nat} {ar : Nat → Nat} {m : CS} {L W t : Nat} {h : vh} (hS : Sy D x ar m L W t h) {u : Nat} (hu : u < W) : ∃ (P : Option Value → vh → Prop) (XPo : String → vh → Prop), TX l D A yX7_line wsX7_line { frames := 7, cells := 22, slots := 132, locals := 112 } [.ref x, vI ((u : Nat) : Int)] h P XPo ∧ (∀ E h9, XPo E h9 → False) ∧ ∀ rv h9, P rv h9 → rv = some (vI (sumN (lnM m u) W)) ∧ h9 = h := by
  obtain ⟨ad, c, hR, rfl, hC, hs, hB, hn⟩ := hS
  obtain ⟨⟨a1, a2⟩, _⟩ := id hs
  obtain ⟨_, _, _, _, _, l12, l20⟩ := id hC.1
  refine ⟨_, _, c_X7_line hR hC (by omega), fun E h9 hx => xp_no hx (by first | exact id | omega) (by first | exact id | omega) (by first | exact id | omega), fun rv h9 hp => ?_⟩
  obtain ⟨hv, rfl, q⟩ := hp
  rw [Int.toNat_natCast] at hv
  exact ⟨by rw [← show sumN (lnB c u) W = sumN (lnM m u) W from by rw [ans_line hs hC (w := u), a2]; rfl]; exact hv, rfl⟩

theorem k_credit {l : Launch} {D : va_G} {A : Nat → Prop} {x : Nat} {ar : Nat → Nat} {m : CS} {L W t : Nat} {h : vh} (hS : Sy D x ar m L W t h) {p : Nat} (hp9 : p < 6) : ∃ (P : Option Value → vh → Prop) (XPo : String → vh → Prop), TX l D A yX7_credit wsX7_credit { frames := 7, cells := 22, slots := 132, locals := 112 } [.ref x, vI ((p : Nat) : Int)] h P XPo ∧ (∀ E h9, XPo E h9 → False) ∧ ∀ rv h9, P rv h9 → rv = some (vI (sumN (crM m ((p : Nat) : Int)) W)) ∧ h9 = h := by
  obtain ⟨ad, c, hR, rfl, hC, hs, hB, hn⟩ := hS
  obtain ⟨⟨a1, a2⟩, _⟩ := id hs
  obtain ⟨_, _, _, _, _, l12, l20⟩ := id hC.1
  refine ⟨_, _, c_X7_credit hR hC (by omega), fun E h9 hx => xp_no hx (by first | exact id | omega) (by first | exact id | omega) (by first | exact id | omega), fun rv h9 hp => ?_⟩
  obtain ⟨hv, rfl, q⟩ := hp
  exact ⟨by rw [← show sumN (crB c ((p : Nat) : Int)) W = sumN (crM m ((p : Nat) : Int)) W from by rw [ans_credit hs hC (p := ((p : Nat) : Int)), a2]; rfl]; exact hv, rfl⟩

theorem k_at {l : Launch} {D : va_G} {A : Nat → Prop} {x : Nat} {ar : Nat → Nat} {m : CS} {L W t : Nat} {h : vh} (hS : Sy D x ar m L W t h) {u : Nat} {z : Int} (hu : u < L) (hz : 0 ≤ z ∧ z < 96) : ∃ (P : Option Value → vh → Prop) (XPo : String → vh → Prop), TX l D A yX7_at wsX7_at { frames := 7, cells := 2, slots := 12, locals := 112 } [.ref x, vI ((u : Nat) : Int), vI z] h P XPo ∧ (∀ E h9, XPo E h9 → False) ∧ ∀ rv h9, P rv h9 → rv = some (vI (m 4 0 (96 * u + z.toNat))) ∧ h9 = h := by
  obtain ⟨ad, c, hR, rfl, hC, hs, hB, hn⟩ := hS
  obtain ⟨⟨a1, a2⟩, _⟩ := id hs
  obtain ⟨_, _, _, _, _, l12, l20⟩ := id hC.1
  refine ⟨_, _, c_X7_at hR hC (by omega) (by omega), fun E h9 hx => xp_no hx (by first | exact id | omega) (by first | exact id | omega) (by first | exact id | omega), fun rv h9 hp => ?_⟩
  obtain ⟨hv, rfl, q⟩ := hp
  rw [Int.toNat_natCast] at hv
  exact ⟨by rw [(hs.2.2.1 u hu).1.2.2.2.2.1 z.toNat (by omega)]; exact hv, rfl⟩

theorem k_edits {l : Launch} {D : va_G} {A : Nat → Prop} {x : Nat} {ar : Nat → Nat} {m : CS} {L W t : Nat} {h : vh} (hS : Sy D x ar m L W t h) {u : Nat} {b : Int} (hu : u < L) (hb : 0 ≤ b ∧ b ≤ 1) : ∃ (P : Option Value → vh → Prop) (XPo : String → vh → Prop), TX l D A yX7_edits wsX7_edits { frames := 7, cells := 1, slots := 6, locals := 112 } [.ref x, vI ((u : Nat) : Int), vI b] h P XPo ∧ (∀ E h9, XPo E h9 → False) ∧ ∀ rv h9, P rv h9 → rv = some (vI (if b = 0 then m 11 0 u else m 8 0 u)) ∧ h9 = h := by
  obtain ⟨ad, c, hR, rfl, hC, hs, hB, hn⟩ := hS
  obtain ⟨⟨a1, a2⟩, _⟩ := id hs
  obtain ⟨_, _, _, _, _, l12, l20⟩ := id hC.1
  refine ⟨_, _, c_X7_edits hR hC (by omega) (by omega), fun E h9 hx => xp_no hx (by first | exact id | omega) (by first | exact id | omega) (by first | exact id | omega), fun rv h9 hp => ?_⟩
  obtain ⟨hv, rfl, q⟩ := hp
  rw [Int.toNat_natCast] at hv
  obtain ⟨e1, e2, _⟩ := (hs.2.2.1 u hu).2
  obtain ⟨d1, d2, d3⟩ := (hC.2.2.1 u hu).2.2.1
  refine ⟨?_, rfl⟩
  rw [e1, e2, hv]
  congr 3 <;> omega

theorem k_levels {l : Launch} {D : va_G} {A : Nat → Prop} {x : Nat} {ar : Nat → Nat} {m : CS} {L W t : Nat} {h : vh} (hS : Sy D x ar m L W t h) : ∃ P : Option Value → vh → Prop, MX l D A yX7_levels wsX7_levels { frames := 0, cells := 0, slots := 0, locals := 0 } [.ref x] h P ∧ ∀ rv h9, P rv h9 → rv = some (vI ((L : Nat) : Int)) ∧ h9 = h := by
  obtain ⟨ad, c, hR, rfl, hC, hs, hB, hn⟩ := hS
  obtain ⟨o1, o2, _⟩ := id hC.1
  refine ⟨_, c_X7_levels hR, fun rv h9 hp => ?_⟩
  obtain ⟨hv, rfl⟩ := hp
  exact ⟨by rw [hv, o1], rfl⟩

theorem k_works {l : Launch} {D : va_G} {A : Nat → Prop} {x : Nat} {ar : Nat → Nat} {m : CS} {L W t : Nat} {h : vh} (hS : Sy D x ar m L W t h) : ∃ P : Option Value → vh → Prop, MX l D A yX7_works wsX7_works { frames := 0, cells := 0, slots := 0, locals := 0 } [.ref x] h P ∧ ∀ rv h9, P rv h9 → rv = some (vI ((W : Nat) : Int)) ∧ h9 = h := by
  obtain ⟨ad, c, hR, rfl, hC, hs, hB, hn⟩ := hS
  obtain ⟨o1, o2, _⟩ := id hC.1
  refine ⟨_, c_X7_works hR, fun rv h9 hp => ?_⟩
  obtain ⟨hv, rfl⟩ := hp
  exact ⟨by rw [hv, o2], rfl⟩

theorem k_setStart {l : Launch} {D : va_G} {A : Nat → Prop} {x : Nat} {ar : Nat → Nat} {m : CS} {L W t : Nat} {h : vh} (hS : Sy D x ar m L W t h) {u : Nat} {z : Int} (hu : u < L) (hz : 0 ≤ z ∧ z < 96) : ∃ (P : Option Value → vh → Prop) (XPo : String → vh → Prop), TX l D A yX7_setStart wsX7_setStart { frames := 7, cells := 2, slots := 12, locals := 112 } [.ref x, vI ((u : Nat) : Int), vI z] h P XPo ∧ (∀ E h9, XPo E h9 → False) ∧ ∀ rv h9, P rv h9 → rv = some (vI (m 5 0 u)) ∧ Sy D x ar (cu (cu m 5 0 (fu (m 5 0) u z)) 6 0 (fu (m 6 0) u (-2))) L W (t + 1) h9 ∧ Kp ar h h9 := by
  obtain ⟨ad, c, hR, rfl, hC, hs, hB, hn⟩ := hS
  obtain ⟨⟨a1, a2⟩, _⟩ := id hs
  obtain ⟨_, _, _, _, _, l12, l20⟩ := id hC.1
  refine ⟨_, _, c_X7_setStart hR hC (by omega) (by omega), fun E h9 hx => xp_no hx (by first | exact id | omega) (by first | exact id | omega) (by first | exact id | omega), fun rv h9 hp => ?_⟩
  obtain ⟨hv, hcp, q⟩ := hp
  rw [Int.toNat_natCast] at hv hcp
  obtain ⟨s1, s2⟩ := sim_start hs hC (u := u) hu (z := z) (by omega)
  have q9 := Sy.cp (x := ad 0 0) (ar := ar) (t := t + 1) hcp rfl s1 s2 ((CLo.sb9 hB (CLo.rf.cu (by decide))).le (by omega)) hn
  exact ⟨by rw [(hs.2.2.1 u hu).1.2.1]; exact hv, q9.1, q9.2⟩

theorem k_begin {l : Launch} {D : va_G} {A : Nat → Prop} {x : Nat} {ar : Nat → Nat} {m : CS} {L W t : Nat} {h : vh} (hS : Sy D x ar m L W t h) {p : Int} (hp9 : 0 ≤ p ∧ p < 6) (hL : L < 12) (hl9 : ∀ j, j < 16 → h (ar j) ≠ none) : ∃ (P : Option Value → vh → Prop) (XPo : String → vh → Prop), TX l D A yX7_begin wsX7_begin { frames := 7, cells := 9, slots := 239, locals := 113 } [.ref x, vI p] h P XPo ∧ (∀ E h9, XPo E h9 → False) ∧ ∀ rv h9, P rv h9 → rv = some (vI ((L : Nat) : Int)) ∧ Sy D x ar (opN (cu m 4 0 (rowG (m 4 0) (96 * (m 0 0 2).toNat) (fun j => if j < 84 then 0 else 1) 96)) p 72 (-1)) (L + 1) W (t + 1) h9 ∧ Kp ar h h9 := by
  obtain ⟨ad, c, hR, rfl, hC, hs, hB, hn⟩ := hS
  obtain ⟨⟨a1, a2⟩, _⟩ := id hs
  obtain ⟨_, _, _, _, _, l12, l20⟩ := id hC.1
  refine ⟨_, _, c_X7_begin hR hC (by omega), fun E h9 hx => xp_no hx (by first | exact id | omega) (by first | exact id | omega) (by first | exact id | omega), fun rv h9 hp => ?_⟩
  obtain ⟨ad9, hv, hcp, hg, q⟩ := hp
  obtain ⟨s1, s2⟩ := sim_begin hs hC (by omega) (p := p) (by omega)
  have q9 := Sy.gr (x := ad 0 0) (ar := ar) (t := t + 1) hg hcp rfl s1 s2 ((hB.ke (fun k x y => (bgN_k (by omega) 12).trans (cAdd_o (by omega)))).le (by omega)) hn hl9
  exact ⟨hv, q9.1, q9.2⟩

theorem k_prove {l : Launch} {D : va_G} {A : Nat → Prop} {x : Nat} {ar : Nat → Nat} {m : CS} {L W t : Nat} {h : vh} (hS : Sy D x ar m L W t h) {u : Nat} {r : Int} (hu : u < L) (ht : t ≤ 20000) (hF : FdR m (rwM (m 4 0) (96 * u)) (m 5 0 u) r) (hr : -1 ≤ r ∧ r ≤ 7000) : ∃ (P : Option Value → vh → Prop) (XPo : String → vh → Prop), TX l D A yX7_prove wsX7_prove { frames := 7, cells := 1, slots := 6, locals := 143 } [.ref x, vI ((u : Nat) : Int)] h P XPo ∧ (∀ E h9, XPo E h9 → False) ∧ ∀ rv h9, P rv h9 → rv = some (vI r) ∧ Sy D x ar (cu m 6 0 (fu (m 6 0) u r)) L W (t + 1) h9 ∧ Kp ar h h9 := by
  obtain ⟨ad, c, hR, rfl, hC, hs, hB, hn⟩ := hS
  obtain ⟨⟨a1, a2⟩, _⟩ := id hs
  obtain ⟨_, _, _, _, _, l12, l20⟩ := id hC.1
  refine ⟨_, _, c_X7_prove hR hC ⟨hB.1, hB.2.1, by have := hB.2.2; omega⟩ (by omega), fun E h9 hx => xp_no hx (by first | exact id | omega) (by first | exact id | omega) (by first | exact id | omega), fun rv h9 hp => ?_⟩
  obtain ⟨c1, w1, hv, hcp, hSE, hFd, q⟩ := hp
  rw [Int.toNat_natCast] at hcp hFd
  have hr9 : w1 = r := ans_found hs hu hFd hF
  subst hr9
  obtain ⟨s1, s2⟩ := sim_proof (hs.se hSE SM.rf) (hSE.cok hC) (u := u) hu (w := w1) (by omega)
  have q9 := Sy.cp (x := ad 0 0) (ar := ar) (t := t + 1) hcp rfl s1 s2 ((CLo.sb9 (hB.se hSE) (CLo.rf.cu (by decide))).le (by omega)) hn
  exact ⟨hv, q9.1, q9.2⟩

theorem k_shortest {l : Launch} {D : va_G} {A : Nat → Prop} {x : Nat} {ar : Nat → Nat} {m : CS} {L W t : Nat} {h : vh} (hS : Sy D x ar m L W t h) {u : Nat} {r b : Int} (hu : u < L) (ht : t ≤ 20000) (hb : 0 ≤ b ∧ b ≤ 5) (hF : FdR m (rwM (m 4 0) (96 * u)) (m 5 0 u) r) : ∃ (P : Option Value → vh → Prop) (XPo : String → vh → Prop), TX l D A yX7_shortest wsX7_shortest { frames := 7, cells := 2, slots := 12, locals := 142 } [.ref x, vI ((u : Nat) : Int), vI b] h P XPo ∧ (∀ E h9, XPo E h9 → False) ∧ ∀ rv h9, P rv h9 → rv = some (vI (if r ≤ b then r else -1)) ∧ Sy D x ar m L W (t + 1) h9 ∧ Kp ar h h9 := by
  obtain ⟨ad, c, hR, rfl, hC, hs, hB, hn⟩ := hS
  obtain ⟨⟨a1, a2⟩, _⟩ := id hs
  obtain ⟨_, _, _, _, _, l12, l20⟩ := id hC.1
  refine ⟨_, _, c_X7_shortest hR hC ⟨hB.1, hB.2.1, by have := hB.2.2; omega⟩ (by omega) (by omega), fun E h9 hx => xp_no hx (by first | exact id | omega) (by first | exact id | omega) (by first | exact id | omega), fun rv h9 hp => ?_⟩
  obtain ⟨c1, w1, hv, hcp, hSE, hFd, q⟩ := hp
  rw [Int.toNat_natCast] at hFd
  have q9 := Sy.cp (x := ad 0 0) (ar := ar) (t := t + 1) hcp rfl (hSE.cok hC) (hs.se hSE SM.rf) ((hB.se hSE).le (by omega)) hn
  exact ⟨by rw [← ans_foundM hs hu hFd hF]; exact hv, q9.1, q9.2⟩

theorem k_reach {l : Launch} {D : va_G} {A : Nat → Prop} {x : Nat} {ar : Nat → Nat} {m : CS} {L W t : Nat} {h : vh} (hS : Sy D x ar m L W t h) {u : Nat} (hu : u < L) (ht : t ≤ 20000) {R9 : Nat → Int} (h1 : ∀ x : Nat, x < 96 → (R9 x = 1 ↔ SnR m (rwM (m 4 0) (96 * u)) (m 5 0 u) x)) (h2 : ∀ x, x < 96 → 0 ≤ R9 x ∧ R9 x ≤ 1) : ∃ (P : Option Value → vh → Prop) (XPo : String → vh → Prop), TX l D A yX7_reach wsX7_reach { frames := 7, cells := 1, slots := 6, locals := 143 } [.ref x, vI ((u : Nat) : Int)] h P XPo ∧ (∀ E h9, XPo E h9 → False) ∧ ∀ rv h9, P rv h9 → rv = some (vI ((cntR R9 96 : Nat) : Int)) ∧ Sy D x ar m L W (t + 1) h9 ∧ Kp ar h h9 := by
  obtain ⟨ad, c, hR, rfl, hC, hs, hB, hn⟩ := hS
  obtain ⟨⟨a1, a2⟩, _⟩ := id hs
  obtain ⟨_, _, _, _, _, l12, l20⟩ := id hC.1
  refine ⟨_, _, c_X7_reach hR hC ⟨hB.1, hB.2.1, by have := hB.2.2; omega⟩ (by omega), fun E h9 hx => xp_no hx (by first | exact id | omega) (by first | exact id | omega) (by first | exact id | omega), fun rv h9 hp => ?_⟩
  obtain ⟨c1, hv, hcp, hSE, hSn, h01, q⟩ := hp
  rw [Int.toNat_natCast] at hSn
  have q9 := Sy.cp (x := ad 0 0) (ar := ar) (t := t + 1) hcp rfl (hSE.cok hC) (hs.se hSE SM.rf) ((hB.se hSE).le (by omega)) hn
  exact ⟨by rw [cntR_c (R := R9) (R' := c1 9 0) (n := 96) (fun x hx => (ans_seen hs hu hSn h01 h1 h2 x hx).symm)]; exact hv, q9.1, q9.2⟩

theorem k_farthest {l : Launch} {D : va_G} {A : Nat → Prop} {x : Nat} {ar : Nat → Nat} {m : CS} {L W t : Nat} {h : vh} (hS : Sy D x ar m L W t h) {u : Nat} (hu : u < L) (ht : t ≤ 20000) {R9 : Nat → Int} (h1 : ∀ x : Nat, x < 96 → (R9 x = 1 ↔ SnR m (rwM (m 4 0) (96 * u)) (m 5 0 u) x)) (h2 : ∀ x, x < 96 → 0 ≤ R9 x ∧ R9 x ≤ 1) {r2 : Int} (hf : frR R9 r2) : ∃ (P : Option Value → vh → Prop) (XPo : String → vh → Prop), TX l D A yX7_farthest wsX7_farthest { frames := 7, cells := 1, slots := 6, locals := 143 } [.ref x, vI ((u : Nat) : Int)] h P XPo ∧ (∀ E h9, XPo E h9 → False) ∧ ∀ rv h9, P rv h9 → rv = some (vI r2) ∧ Sy D x ar m L W (t + 1) h9 ∧ Kp ar h h9 := by
  obtain ⟨ad, c, hR, rfl, hC, hs, hB, hn⟩ := hS
  obtain ⟨⟨a1, a2⟩, _⟩ := id hs
  obtain ⟨_, _, _, _, _, l12, l20⟩ := id hC.1
  refine ⟨_, _, c_X7_farthest hR hC ⟨hB.1, hB.2.1, by have := hB.2.2; omega⟩ (by omega), fun E h9 hx => xp_no hx (by first | exact id | omega) (by first | exact id | omega) (by first | exact id | omega), fun rv h9 hp => ?_⟩
  obtain ⟨c1, r1, hv, hcp, hSE, hSn, h01, q, hfr⟩ := hp
  rw [Int.toNat_natCast] at hSn
  have q9 := Sy.cp (x := ad 0 0) (ar := ar) (t := t + 1) hcp rfl (hSE.cok hC) (hs.se hSE SM.rf) ((hB.se hSE).le (by omega)) hn
  exact ⟨by rw [← frR.uniq (ans_seen hs hu hSn h01 h1 h2) hfr hf]; exact hv, q9.1, q9.2⟩

theorem k_setSpring {l : Launch} {D : va_G} {A : Nat → Prop} {x : Nat} {ar : Nat → Nat} {m : CS} {L W t : Nat} {h : vh} (hS : Sy D x ar m L W t h) {u : Nat} {k : Int} (hu : u < 3) (ht : t ≤ 20000) (hk : 1 ≤ k ∧ k ≤ 4) : ∃ (P : Option Value → vh → Prop) (XPo : String → vh → Prop), TX l D A yX7_setSpring wsX7_setSpring { frames := 8, cells := 460, slots := 2700, locals := 143 } [.ref x, vI ((u : Nat) : Int), vI k] h P XPo ∧ (∀ E h9, XPo E h9 → False) ∧ ∀ rv h9, P rv h9 → (m 1 0 u = k ∧ rv = some (vI 0) ∧ Sy D x ar m L W (t + 1) h9 ∧ Kp ar h h9) ∨ (m 1 0 u ≠ k ∧ ∀ m2, SPR (6 + ((u : Nat) : Int)) (cu (cu m 1 0 (fu (m 1 0) u k)) 6 0 (vdF m (6 + ((u : Nat) : Int)) L)) W m2 → rv = some (vI (sumN (vdB m (6 + ((u : Nat) : Int))) L)) ∧ Sy D x ar m2 L W (t + 1) h9 ∧ Kp ar h h9) := by
  obtain ⟨ad, c, hR, rfl, hC, hs, hB, hn⟩ := hS
  obtain ⟨⟨a1, a2⟩, _⟩ := id hs
  obtain ⟨_, _, _, _, _, l12, l20⟩ := id hC.1
  refine ⟨_, _, c_X7_setSpring hR hC ⟨hB.1, hB.2.1, by have := hB.2.2; omega⟩ (by have := hB.2.2; omega) (by omega) (by omega), fun E h9 hx => xp_no hx (by first | exact id | omega) (by first | exact id | omega) (by first | exact id | omega), fun rv h9 hp => ?_⟩
  obtain ⟨c1, r0, hv, hcp, hw9, q⟩ := hp
  rw [Int.toNat_natCast] at hw9
  have kl : m 1 0 u = c 1 0 u := by rw [hs.2.1]
  rcases hw9 with ⟨w1, rfl, w3⟩ | ⟨w1, c2, w2, w3, w4, rfl, w6⟩
  · have q9 := Sy.cp (x := ad 0 0) (ar := ar) (t := t + 1) hcp rfl hC hs (hB.le (by omega)) hn
    exact Or.inl ⟨by omega, by rw [← w3]; exact hv, q9.1, q9.2⟩
  · refine Or.inr ⟨by omega, fun m2 sm => ?_⟩
    obtain ⟨s1, s2, s3⟩ := sim_spring hs hC hB (n := k) (by omega) w2 sm
    have hb3 := hB.2.2
    have q9 := Sy.cp (x := ad 0 0) (ar := ar) (t := t + 1) hcp rfl s2 s3 ((w4.ke (fun k x y => vpN_k (by omega) L)).le (by omega)) hn
    exact ⟨by rw [← s1, ← w6]; exact hv, q9.1, q9.2⟩


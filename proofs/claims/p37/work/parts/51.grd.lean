/-! ===== the class's grids stay well kept ===== -/
def G3 (f : Nat → Int) (x y w : Int) : Prop :=
  (x = -1 ∨ (0 ≤ x ∧ x < 96 ∧ f x.toNat = 2)) ∧ (y = -1 ∨ (0 ≤ y ∧ y < 96 ∧ f y.toNat = 2)) ∧ (w = -1 ∨ (0 ≤ w ∧ w < 96 ∧ f w.toNat = 2)) ∧
  (∀ z : Nat, z < 96 → f z = 2 → x = z ∨ y = z ∨ w = z) ∧ ((x ≠ -1 → x ≠ y ∧ x ≠ w) ∧ (y ≠ -1 → y ≠ w))
def aB (x y w : Int) : Nat := (if x = -1 then 0 else 1) + (if y = -1 then 0 else 2) + (if w = -1 then 0 else 4)
theorem GW_3 {f q : Nat → Int} {a : Int} : GW f q a ↔ G3 f (q 0) (q 1) (q 2) ∧ a = ((aB (q 0) (q 1) (q 2) : Nat) : Int) := by
  have ha : ((aB (q 0) (q 1) (q 2) : Nat) : Int) = (if q 0 = -1 then 0 else 1) + (if q 1 = -1 then 0 else 2) + (if q 2 = -1 then 0 else 4) := by
    unfold aB; split <;> split <;> split <;> rfl
  rw [ha]
  constructor
  · rintro ⟨h1, h2, h3, h4⟩
    exact ⟨⟨h1 0 (by decide), h1 1 (by decide), h1 2 (by decide), h2, h3⟩, h4⟩
  · rintro ⟨⟨h0, h1, h2, h3, h4⟩, h5⟩
    refine ⟨fun s hs => ?_, h3, h4, h5⟩
    rcases (show s = 0 ∨ s = 1 ∨ s = 2 by omega) with rfl | rfl | rfl
    · exact h0
    · exact h1
    · exact h2
theorem G3.p12 {f : Nat → Int} {x y w : Int} (h : G3 f x y w) : G3 f y x w := by
  obtain ⟨h0, h1, h2, h3, h4, h5⟩ := h
  refine ⟨h1, h0, h2, fun z hz hf => ?_, fun e => ⟨fun e2 => ?_, h5 e⟩, fun e => (h4 e).2⟩
  · rcases h3 z hz hf with e | e | e
    · exact Or.inr (Or.inl e)
    · exact Or.inl e
    · exact Or.inr (Or.inr e)
  · exact (h4 (by omega)).1 e2.symm
theorem G3.p13 {f : Nat → Int} {x y w : Int} (h : G3 f x y w) : G3 f w y x := by
  obtain ⟨h0, h1, h2, h3, h4, h5⟩ := h
  refine ⟨h2, h1, h0, fun z hz hf => ?_, fun e => ⟨fun e2 => ?_, fun e2 => ?_⟩, fun e e2 => ?_⟩
  · rcases h3 z hz hf with e | e | e
    · exact Or.inr (Or.inr e)
    · exact Or.inr (Or.inl e)
    · exact Or.inl e
  · exact h5 (by omega) e2.symm
  · exact (h4 (by omega)).2 e2.symm
  · exact (h4 (by omega)).1 e2.symm
theorem G3.rem {f : Nat → Int} {z y w k : Int} (h : G3 f z y w) (hz : 0 ≤ z ∧ z < 96) (hk : k ≠ 2) : G3 (fu f z.toNat k) (-1) y w := by
  obtain ⟨h0, h1, h2, h3, h4, h5⟩ := h
  have h6 := h4 (by omega)
  have keep : ∀ v : Int, z ≠ v → (v = -1 ∨ (0 ≤ v ∧ v < 96 ∧ f v.toNat = 2)) → (v = -1 ∨ (0 ≤ v ∧ v < 96 ∧ fu f z.toNat k v.toNat = 2)) := fun v hv g => by
    rcases g with g | ⟨g1, g2, g3⟩
    · exact Or.inl g
    · exact Or.inr ⟨g1, g2, by rw [fu_n (by omega)]; exact g3⟩
  refine ⟨Or.inl rfl, keep y h6.1 h1, keep w h6.2 h2, fun c hc hf => ?_, fun e => absurd rfl e, h5⟩
  by_cases q : c = z.toNat
  · rw [q, fu_s] at hf; exact absurd hf hk
  · rw [fu_n q] at hf
    rcases h3 c hc hf with e | e | e
    · exfalso; omega
    · exact Or.inr (Or.inl e)
    · exact Or.inr (Or.inr e)
theorem G3.add {f : Nat → Int} {z y w : Int} (h : G3 f (-1) y w) (hz : 0 ≤ z ∧ z < 96) (hf : f z.toNat ≠ 2) : G3 (fu f z.toNat 2) z y w := by
  obtain ⟨h0, h1, h2, h3, h4, h5⟩ := h
  have keep : ∀ v : Int, (v = -1 ∨ (0 ≤ v ∧ v < 96 ∧ f v.toNat = 2)) → (v = -1 ∨ (0 ≤ v ∧ v < 96 ∧ fu f z.toNat 2 v.toNat = 2)) := fun v g => by
    rcases g with g | ⟨g1, g2, g3⟩
    · exact Or.inl g
    · refine Or.inr ⟨g1, g2, ?_⟩
      unfold fu; split
      · rfl
      · exact g3
  have ne : ∀ v : Int, (v = -1 ∨ (0 ≤ v ∧ v < 96 ∧ f v.toNat = 2)) → z ≠ v := fun v g e => by
    rcases g with g | ⟨g1, g2, g3⟩
    · omega
    · rw [← e] at g3; exact hf g3
  refine ⟨Or.inr ⟨hz.1, hz.2, fu_s⟩, keep y h1, keep w h2, fun c hc hf2 => ?_, fun _ => ⟨ne y h1, ne w h2⟩, h5⟩
  by_cases q : c = z.toNat
  · exact Or.inl (by omega)
  · rw [fu_n q] at hf2
    rcases h3 c hc hf2 with e | e | e
    · exfalso; omega
    · exact Or.inr (Or.inl e)
    · exact Or.inr (Or.inr e)
theorem G3.neu {f : Nat → Int} {x y w z k : Int} (h : G3 f x y w) (hf : f z.toNat ≠ 2) (hk : k ≠ 2) : G3 (fu f z.toNat k) x y w := by
  obtain ⟨h0, h1, h2, h3, h4⟩ := h
  have keep : ∀ v : Int, (v = -1 ∨ (0 ≤ v ∧ v < 96 ∧ f v.toNat = 2)) → (v = -1 ∨ (0 ≤ v ∧ v < 96 ∧ fu f z.toNat k v.toNat = 2)) := fun v g => by
    rcases g with g | ⟨g1, g2, g3⟩
    · exact Or.inl g
    · refine Or.inr ⟨g1, g2, ?_⟩
      rw [fu_n (fun e => by rw [e] at g3; exact hf g3)]; exact g3
  refine ⟨keep x h0, keep y h1, keep w h2, fun c hc hf2 => ?_, h4⟩
  by_cases q : c = z.toNat
  · rw [q, fu_s] at hf2; exact absurd hf2 hk
  · rw [fu_n q] at hf2; exact h3 c hc hf2
theorem aB_x0 {x y w v : Int} (h : (x = -1 ∧ v ≠ -1) ∨ (x ≠ -1 ∧ v = -1)) : aB x y w ^^^ 1 = aB v y w := by
  unfold aB
  rcases h with ⟨h1, h2⟩ | ⟨h1, h2⟩
  · rw [if_pos h1, if_neg h2]; split <;> split <;> rfl
  · rw [if_neg h1, if_pos h2]; split <;> split <;> rfl
theorem aB_x1 {x y w v : Int} (h : (y = -1 ∧ v ≠ -1) ∨ (y ≠ -1 ∧ v = -1)) : aB x y w ^^^ 2 = aB x v w := by
  unfold aB
  rcases h with ⟨h1, h2⟩ | ⟨h1, h2⟩
  · rw [if_pos h1, if_neg h2]; split <;> split <;> rfl
  · rw [if_neg h1, if_pos h2]; split <;> split <;> rfl
theorem aB_x2 {x y w v : Int} (h : (w = -1 ∧ v ≠ -1) ∨ (w ≠ -1 ∧ v = -1)) : aB x y w ^^^ 4 = aB x y v := by
  unfold aB
  rcases h with ⟨h1, h2⟩ | ⟨h1, h2⟩
  · rw [if_pos h1, if_neg h2]; split <;> split <;> rfl
  · rw [if_neg h1, if_pos h2]; split <;> split <;> rfl
def GN (f q : Nat → Int) (a : Nat) : Prop := G3 f (q 0) (q 1) (q 2) ∧ a = aB (q 0) (q 1) (q 2)
theorem GN.rem {f q : Nat → Int} {a : Nat} (h : GN f q a) {z k : Int} (hz : 0 ≤ z ∧ z < 96) (hf : f z.toNat = 2) (hk : k ≠ 2) : GN (fu f z.toNat k) (ckq q z (-1)) (cka q a z) := by
  obtain ⟨h1, rfl⟩ := h
  have hq := h1.2.2.2.1 z.toNat (by omega) hf
  rw [show ((z.toNat : Nat) : Int) = z by omega] at hq
  unfold ckq cka
  by_cases q0 : q 0 = z
  · rw [if_pos q0, if_pos q0]
    refine ⟨?_, aB_x0 (Or.inr ⟨by omega, rfl⟩)⟩
    rw [q0] at h1
    exact h1.rem hz hk
  · rw [if_neg q0, if_neg q0]
    by_cases q1 : q 1 = z
    · rw [if_pos q1, if_pos q1]
      refine ⟨?_, aB_x1 (Or.inr ⟨by omega, rfl⟩)⟩
      rw [q1] at h1
      exact (h1.p12.rem hz hk).p12
    · rw [if_neg q1, if_neg q1]
      have q2 : q 2 = z := by
        rcases hq with e | e | e
        · exact absurd e q0
        · exact absurd e q1
        · exact e
      rw [if_pos q2, if_pos q2]
      refine ⟨?_, aB_x2 (Or.inr ⟨by omega, rfl⟩)⟩
      rw [q2] at h1
      exact (h1.p13.rem hz hk).p13
theorem GN.add {f q : Nat → Int} {a : Nat} (h : GN f q a) {z : Int} (hz : 0 ≤ z ∧ z < 96) (hf : f z.toNat ≠ 2) (hk : q 0 = -1 ∨ q 1 = -1 ∨ q 2 = -1) : GN (fu f z.toNat 2) (ckq q (-1) z) (cka q a (-1)) := by
  obtain ⟨h1, rfl⟩ := h
  unfold ckq cka
  by_cases q0 : q 0 = -1
  · rw [if_pos q0, if_pos q0]
    refine ⟨?_, aB_x0 (Or.inl ⟨q0, by show z ≠ -1; omega⟩)⟩
    rw [q0] at h1
    exact h1.add hz hf
  · rw [if_neg q0, if_neg q0]
    by_cases q1 : q 1 = -1
    · rw [if_pos q1, if_pos q1]
      refine ⟨?_, aB_x1 (Or.inl ⟨q1, by show z ≠ -1; omega⟩)⟩
      rw [q1] at h1
      exact (h1.p12.add hz hf).p12
    · rw [if_neg q1, if_neg q1]
      have q2 : q 2 = -1 := by
        rcases hk with e | e | e
        · exact absurd e q0
        · exact absurd e q1
        · exact e
      rw [if_pos q2, if_pos q2]
      refine ⟨?_, aB_x2 (Or.inl ⟨q2, by show z ≠ -1; omega⟩)⟩
      rw [q2] at h1
      exact (h1.p13.add hz hf).p13
theorem ckq_free {f q : Nat → Int} {a : Nat} (h : GN f q a) {z : Int} (hz : 0 ≤ z ∧ z < 96) (hf : f z.toNat = 2) : ckq q z (-1) 0 = -1 ∨ ckq q z (-1) 1 = -1 ∨ ckq q z (-1) 2 = -1 := by
  have hq := h.1.2.2.2.1 z.toNat (by omega) hf
  rw [show ((z.toNat : Nat) : Int) = z by omega] at hq
  unfold ckq
  by_cases q0 : q 0 = z
  · rw [if_pos q0]; exact Or.inl fu_s
  · rw [if_neg q0]
    by_cases q1 : q 1 = z
    · rw [if_pos q1]; exact Or.inr (Or.inl fu_s)
    · rw [if_neg q1]
      have q2 : q 2 = z := by
        rcases hq with e | e | e
        · exact absurd e q0
        · exact absurd e q1
        · exact e
      rw [if_pos q2]; exact Or.inr (Or.inr fu_s)
theorem GN.put {f q : Nat → Int} {a : Nat} (h : GN f q a) {z k : Int} (hz : 0 ≤ z ∧ z < 96) (hk : ¬ (k = 2 ∧ f z.toNat ≠ 2 ∧ q 0 ≠ -1 ∧ q 1 ≠ -1 ∧ q 2 ≠ -1)) : GN (fu f z.toNat k) (gpq f q z k) (gpa f q a z k) := by
  unfold gpq gpa
  dsimp only
  by_cases hf : f z.toNat = 2
  · rw [if_pos hf, if_pos hf]
    by_cases k2 : k = 2
    · rw [if_pos k2, if_pos k2, k2]
      have h1 := h.rem hz hf (k := 0) (by decide)
      have h2 := h1.add hz (by rw [fu_s]; decide) (ckq_free h hz hf)
      rw [fu_u] at h2
      exact h2
    · rw [if_neg k2, if_neg k2]
      exact h.rem hz hf k2
  · rw [if_neg hf, if_neg hf]
    by_cases k2 : k = 2
    · rw [if_pos k2, if_pos k2, k2]
      refine h.add hz hf ?_
      by_cases a0 : q 0 = -1
      · exact Or.inl a0
      · by_cases a1 : q 1 = -1
        · exact Or.inr (Or.inl a1)
        · by_cases a2 : q 2 = -1
          · exact Or.inr (Or.inr a2)
          · exact absurd ⟨k2, hf, a0, a1, a2⟩ hk
    · rw [if_neg k2, if_neg k2]
      exact ⟨h.1.neu hf k2, h.2⟩
theorem GW_N {f q : Nat → Int} {a : Int} (h : GW f q a) : GN f q a.toNat := by
  obtain ⟨h1, h2⟩ := GW_3.mp h
  exact ⟨h1, by rw [h2]; rfl⟩
theorem GN_W {f q : Nat → Int} {a : Nat} (h : GN f q a) : GW f q ((a : Nat) : Int) := GW_3.mpr ⟨h.1, by rw [h.2]⟩
theorem GW.put {f q : Nat → Int} {a : Int} (h : GW f q a) {z k : Int} (hz : 0 ≤ z ∧ z < 96) (hk : ¬ (k = 2 ∧ f z.toNat ≠ 2 ∧ q 0 ≠ -1 ∧ q 1 ≠ -1 ∧ q 2 ≠ -1)) : GW (fu f z.toNat k) (gpq f q z k) ((gpa f q a.toNat z k : Nat) : Int) := GN_W ((GW_N h).put hz hk)
theorem GW.cnt {f q : Nat → Int} {a : Int} (h : GW f q a) : cnK f 96 = pc3 a.toNat ∧ (cnK f 96 = 3 ↔ q 0 ≠ -1 ∧ q 1 ≠ -1 ∧ q 2 ≠ -1) := by
  obtain ⟨h1, h2⟩ := h.n
  have r0 := uS_r q 0
  have r1 := uS_r q 1
  have r2 := uS_r q 2
  have ha : a.toNat = uS q 0 + 2 * uS q 1 + 4 * uS q 2 := by rw [h2]; rfl
  refine ⟨?_, ?_⟩
  · rw [h1, ha]
    unfold pc3
    omega
  · omega
theorem GW.lt {f q : Nat → Int} {a : Int} (h : GW f q a) : 0 ≤ a ∧ a < 8 := by
  obtain ⟨h1, h2⟩ := h.n
  have r0 := uS_r q 0
  have r1 := uS_r q 1
  have r2 := uS_r q 2
  omega
def q0 : Nat → Int := fun j => if j < 3 then -1 else 0
theorem GN.z : GN (fun _ => 0) q0 0 := by
  refine ⟨⟨Or.inl rfl, Or.inl rfl, Or.inl rfl, fun z hz h => absurd h (show ¬ (0 : Int) = 2 by decide), fun e => absurd rfl e, fun e => absurd rfl e⟩, rfl⟩
theorem gnf_e {g f : Nat → Int} : ∀ (n j : Nat), gnf g f n j = if j < n then g j else f j
  | 0, j => (if_neg (Nat.not_lt_zero _)).symm
  | n + 1, j => by
    show fu (gnf g f n) n (g n) j = _
    unfold fu
    by_cases h : j = n
    · rw [if_pos h, if_pos (by omega), h]
    · rw [if_neg h, gnf_e n j]
      by_cases h2 : j < n
      · rw [if_pos h2, if_pos (by omega)]
      · rw [if_neg h2, if_neg (by omega)]
theorem cnK_z {f : Nat → Int} {n : Nat} (h : ∀ z, n ≤ z → f z ≠ 2) : ∀ k, n ≤ k → cnK f k = cnK f n := by
  intro k hk
  induction k with
  | zero => have : n = 0 := by omega
            rw [this]
  | succ k ih =>
    by_cases q : n = k + 1
    · rw [q]
    · rw [cnK_f (h k (by omega)), ih (by omega)]
theorem GN.all {g : Nat → Int} (hg : cnK g 96 ≤ 3) : ∀ n, n ≤ 96 → GN (gnf g (fun _ => 0) n) (gnq g (fun _ => 0) q0 n) (gna g (fun _ => 0) q0 0 n)
  | 0, _ => GN.z
  | n + 1, hn => by
    have ih := GN.all hg n (by omega)
    have hp := ih.put (z := ((n : Nat) : Int)) (k := g n) ⟨by omega, by omega⟩ (fun ⟨z1, z2, z3⟩ => by
      have h1 := ((GN_W ih).cnt).2.mpr z3
      have h2 : cnK (gnf g (fun _ => 0) n) 96 = cnK (gnf g (fun _ => 0) n) n := cnK_z (fun z hz => by rw [gnf_e, if_neg (by omega)]; decide) 96 (by omega)
      have h3 : cnK (gnf g (fun _ => 0) n) n = cnK g n := cnK_c (fun z hz => by rw [gnf_e, if_pos hz])
      have h4 := cnK_lt (f := g) z1 (show n < 96 by omega)
      omega)
    exact hp
/-- a grid laid out of a row of cells -/
theorem GW.all {g : Nat → Int} (hg : cnK g 96 ≤ 3) : GW (gnf g (fun _ => 0) 96) (gnq g (fun _ => 0) (fun j => if j < 3 then -1 else 0) 96) ((gna g (fun _ => 0) (fun j => if j < 3 then -1 else 0) 0 96 : Nat) : Int) := GN_W (GN.all hg 96 (Nat.le_refl _))


/-! ===== a spring's rule changes: the arrays follow ===== -/
section SPQ
variable {m m' : CS} {L W : Nat} {q q' : Nat → Int} {g : Nat → Int64} {l0 l1 u v n w p r : Nat → Int}
theorem bI_c {P Q : Prop} (h : P ↔ Q) : bI P = bI Q := by rw [propext h]
theorem has_l (hP : PK m L W q g l0 u v n w p r) {i : Nat} (hi : i < L) {kd : Int} : bI (∃ j, j < 96 ∧ gk g (6 * i) j = kd) = bI (∃ x, x < 96 ∧ m 4 0 (96 * i + x) = kd) := bI_c ⟨fun ⟨j, h1, h2⟩ => ⟨j, h1, by rw [← (hP.2.2.1 i hi).2.2.2.2.1 j h1]; exact h2⟩, fun ⟨j, h1, h2⟩ => ⟨j, h1, by rw [(hP.2.2.1 i hi).2.2.2.2.1 j h1]; exact h2⟩⟩
theorem has_w (hP : PK m L W q g l0 u v n w p r) {i : Nat} (hi : i < W) {kd : Int} : bI (∃ j, j < 96 ∧ gk g (30 + 6 * i) j = kd) = bI (∃ x, x < 96 ∧ m 16 0 (96 * i + x) = kd) := bI_c ⟨fun ⟨j, h1, h2⟩ => ⟨j, h1, by rw [← (hP.2.2.2.2.1 i hi).2.2.2.2.2.1 j h1]; exact h2⟩, fun ⟨j, h1, h2⟩ => ⟨j, h1, by rw [(hP.2.2.2.2.1 i hi).2.2.2.2.2.1 j h1]; exact h2⟩⟩
theorem vdB_01 (m : CS) (kd : Int) (j : Nat) : vdB m kd j = 0 ∨ vdB m kd j = 1 := by
  unfold vdB
  split
  · exact Or.inl rfl
  · exact bI_01 _
theorem PK.v0 (hP : PK m L W q g l0 u v n w p r) (hE : ∀ i, i < L → EB m n i) {s : Nat} {k kd : Int} (hs : s < 3) (hl : ∀ j, j < L → l1 (4 * j + 2) = vdF m kd L j) (hl2 : ∀ a, (∀ j, j < L → a ≠ 4 * j + 2) → l1 a = l0 a) : PK (cu (cu m 1 0 (fu (m 1 0) s k)) 6 0 (vdF m kd L)) L W (fu q (2 + s) k) g l1 u v n w p r := by
  obtain ⟨p1, p2, p3, p4, p5, p6, p7⟩ := hP
  refine ⟨⟨p1.1, p1.2.1, by rw [fu_n (by omega)]; exact p1.2.2.1, by rw [fu_n (by omega)]; exact p1.2.2.2⟩, fun y hy => ?_, fun i hi => ?_, p4, fun i hi => (p5 i hi).c (fun _ _ _ => rfl) (fun _ _ _ => rfl) (fun _ _ => rfl) ⟨rfl, rfl, rfl, rfl, rfl⟩ (fun _ _ => rfl) (fun _ _ => rfl), p6, fun x hx => (p7 x hx).e (fun j hj => (cu_n (by omega)).trans (cu_n (by omega)))⟩
  · show fu q (2 + s) k (2 + y) = fu (m 1 0) s k y
    by_cases e : y = s
    · subst e; rw [fu_s, fu_s]
    · rw [fu_n (by omega), fu_n e]; exact p2 y hy
  · obtain ⟨k1, k2, k3, k4, k5, k6, k7, k8, k9, k10⟩ := p3 i hi
    refine ⟨by rw [hl2 _ (fun j hj => by omega)]; exact k1, by rw [hl2 _ (fun j hj => by omega)]; exact k2, hl i hi, by rw [hl2 _ (fun j hj => by omega)]; exact k4, k5, k6, k7, k8, k9, k10⟩
theorem EX.v0 (h : EX m) {s : Nat} {k : Int} {F : Nat → Int} : EX (cu (cu m 1 0 (fu (m 1 0) s k)) 6 0 F) := h.o fun j hj => (cu_n (by omega)).trans (cu_n (by omega))
/-- runs of a work that is withdrawn end, the first y persons' so far -/
def erR (r : Nat → Int) (wv : Int) (j y : Nat) : Nat → Int := fun a => if a % 6 = 0 ∧ a / 6 < y ∧ wv < 0 ∧ r a = 1 ∧ r (a + 1) = (j : Int) then 4 else r a
theorem erR_0 {r : Nat → Int} {wv : Int} {j : Nat} : erR r wv j 0 = r := by funext a; exact if_neg (by omega)
theorem erR_a {r : Nat → Int} {wv : Int} {j y : Nat} : erR r wv j y (6 * y) = r (6 * y) := if_neg (by omega)
theorem erR_b {r : Nat → Int} {wv : Int} {j y : Nat} : erR r wv j y (6 * y + 1) = r (6 * y + 1) := if_neg (by omega)
theorem erR_s {r : Nat → Int} {wv v : Int} {j y : Nat} (hv : (wv < 0 ∧ r (6 * y) = 1 ∧ r (6 * y + 1) = (j : Int) ∧ v = 4) ∨ (¬ (wv < 0 ∧ r (6 * y) = 1 ∧ r (6 * y + 1) = (j : Int)) ∧ v = r (6 * y))) : fu (erR r wv j y) (6 * y) v = erR r wv j (y + 1) := by
  funext a
  unfold fu erR
  by_cases q : a = 6 * y
  · subst q
    rw [if_pos rfl]
    rcases hv with ⟨h1, h2, h3, h4⟩ | ⟨h1, h2⟩
    · rw [if_pos ⟨by omega, by omega, h1, h2, h3⟩, h4]
    · rw [if_neg (fun z => h1 z.2.2), h2]
  · rw [if_neg q]
    by_cases r1 : a % 6 = 0 ∧ a / 6 < y ∧ wv < 0 ∧ r a = 1 ∧ r (a + 1) = (j : Int)
    · rw [if_pos r1, if_pos ⟨r1.1, by omega, r1.2.2⟩]
    · rw [if_neg r1, if_neg (fun z => r1 ⟨z.1, by omega, z.2.2⟩)]
theorem erR_id (hP : PK m L W q g l0 u v n w p r) (hE : EX m) {j : Nat} (hj : j < W) : erR r (w (5 * j + 2)) j 3 = r := by
  funext a
  refine if_neg (fun z => ?_)
  obtain ⟨z1, z2, z3, z4, z5⟩ := z
  obtain ⟨b1, b2, _⟩ := hP.2.2.2.2.2.2 (a / 6) (by omega)
  rw [show 6 * (a / 6) = a by omega] at b1 b2
  have h1 := (hE.2.2 (a / 6) (by omega) (by omega)).1
  have h2 := (hP.2.2.2.2.1 j hj).2.2.1
  rw [show (m 23 0 (a / 6)).toNat = j by omega] at h1
  omega
theorem PK.tr (hP : PK m L W q g l0 u v n w p r) (hE : ∀ i, i < L → EB m n i) {j : Nat} {wv : Int} (hj : j < W) (hw : -1 ≤ wv) : PK (trN m j wv) L W q g l0 u v n (fu w (5 * j + 2) wv) p (erR r wv j 3) := by
  obtain ⟨p1, p2, p3, p4, p5, p6, p7⟩ := hP
  refine ⟨p1, p2, fun i hi => (p3 i hi).c (fun _ _ _ => rfl) ⟨rfl, rfl⟩ (fun _ _ => rfl) (fun _ _ _ => rfl) (fun _ _ _ => rfl) ⟨rfl, rfl, rfl, rfl, rfl, rfl⟩ (fun _ _ => rfl) (fun _ _ => ⟨rfl, rfl, rfl, rfl⟩) ⟨(hE i hi).1.1, (hE i hi).1.2.1⟩, p4, fun i hi => ?_, p6, fun x hx => ?_⟩
  · obtain ⟨k1, k2, k3, k4, k5, k6, k7, k8⟩ := p5 i hi
    refine ⟨by rw [fu_n (by omega)]; exact k1, by rw [fu_n (by omega)]; exact k2, ?_, by rw [fu_n (by omega)]; exact k4, by rw [fu_n (by omega)]; exact k5, k6, k7, k8⟩
    show fu w (5 * j + 2) wv (5 * i + 2) = fu (m 18 0) j wv i
    by_cases e : i = j
    · subst e; rw [fu_s, fu_s]
    · rw [fu_n (by omega), fu_n e]; exact k3
  · obtain ⟨b1, b2, b3, b4, b5, b6⟩ := p7 x hx
    refine ⟨?_, by rw [show erR r wv j 3 (6 * x + 1) = r (6 * x + 1) from if_neg (by omega)]; exact b2, by rw [show erR r wv j 3 (6 * x + 2) = r (6 * x + 2) from if_neg (by omega)]; exact b3, by rw [show erR r wv j 3 (6 * x + 3) = r (6 * x + 3) from if_neg (by omega)]; exact b4, by rw [show erR r wv j 3 (6 * x + 4) = r (6 * x + 4) from if_neg (by omega)]; exact b5, by rw [show erR r wv j 3 (6 * x + 5) = r (6 * x + 5) from if_neg (by omega)]; exact b6⟩
    show erR r wv j 3 (6 * x) = erF m (j : Int) wv 6 x
    unfold erR erF
    by_cases e : wv < 0 ∧ r (6 * x) = 1 ∧ r (6 * x + 1) = (j : Int)
    · rw [if_pos ⟨by omega, by omega, e⟩, if_pos ⟨by omega, by omega, by omega, by omega⟩]
    · rw [if_neg (fun z => e z.2.2), if_neg (fun z => e ⟨by omega, by omega, by omega⟩)]; exact b1
theorem EX.tr (h : EX m) {j : Nat} {wv : Int} (hw : -1 ≤ wv) (hr : ∀ x, x < 3 → m 22 0 x = 1 → 0 ≤ m 23 0 x) : EX (trN m j wv) := by
  obtain ⟨h1, h2, h3⟩ := h
  refine ⟨h1, h2, fun x hx hs => ?_⟩
  have hs9 : erF m (j : Int) wv 6 x = 1 := hs
  show 0 ≤ fu (m 18 0) j wv (m 23 0 x).toNat ∧ (m 26 0 x).toNat ||| kbr (rwM (m 16 0) (96 * (m 23 0 x).toNat)) (fun _ => 0) (m 24 0 x) = (m 26 0 x).toNat
  unfold erF at hs9
  by_cases e : x < 6 ∧ wv = -1 ∧ m 22 0 x = 1 ∧ m 23 0 x = (j : Int)
  · rw [if_pos e] at hs9
    exact absurd hs9 (by decide)
  · rw [if_neg e] at hs9
    obtain ⟨a1, a2⟩ := h3 x hx hs9
    refine ⟨?_, a2⟩
    by_cases q9 : (m 23 0 x).toNat = j
    · rw [q9, fu_s]
      have := hr x hx hs9
      omega
    · rw [fu_n q9]; exact a1
end SPQ
theorem Sy.fr {D : va_G} {x t L W : Nat} {ar : Nat → Nat} {m : CS} {h h' : vh} (hS : Sy D x ar m L W t h) (hf : ∀ q, q ≠ ar 9 → q ≠ ar 10 → q ≠ ar 11 → q ≠ ar 12 → q ≠ ar 13 → q ≠ ar 14 → q ≠ ar 15 → h' q = h q) : Sy D x ar m L W t h' := by
  obtain ⟨ad, c, h1, h2, h3, h4, h5, h6⟩ := hS
  refine ⟨ad, c, ⟨fun k i hl => ?_, h1.2⟩, h2, h3, h4, h5, h6⟩
  rw [hf _ (h6 9 (by decide) k i hl) (h6 10 (by decide) k i hl) (h6 11 (by decide) k i hl) (h6 12 (by decide) k i hl) (h6 13 (by decide) k i hl) (h6 14 (by decide) k i hl) (h6 15 (by decide) k i hl)]
  exact h1.1 k i hl
theorem AR.fr {D : va_G} {ar : Nat → Nat} (hai : ∀ i j, i < 16 → j < 16 → ar i = ar j → i = j) {q : Nat → Int} {g : Nat → Int64} {l0 u v n w p r : Nat → Int} {h h' : vh} (hA : AR D ar q g l0 u v n w p r h) (hf : ∀ q, q ≠ ar 9 → q ≠ ar 10 → q ≠ ar 11 → q ≠ ar 12 → q ≠ ar 13 → q ≠ ar 14 → q ≠ ar 15 → h' q = h q) : AR D ar q g l0 u v n w p r h' := by
  have e : ∀ j, j < 9 → h' (ar j) = h (ar j) := fun j hj => hf _ (ari hai (by omega) (by decide) (by omega)) (ari hai (by omega) (by decide) (by omega)) (ari hai (by omega) (by decide) (by omega)) (ari hai (by omega) (by decide) (by omega)) (ari hai (by omega) (by decide) (by omega)) (ari hai (by omega) (by decide) (by omega)) (ari hai (by omega) (by decide) (by omega))
  unfold AR at hA ⊢
  rw [e 0 (by decide), e 1 (by decide), e 2 (by decide), e 3 (by decide), e 4 (by decide), e 5 (by decide), e 6 (by decide), e 7 (by decide), e 8 (by decide)]
  exact hA
theorem WD.le {D : va_G} {x t t' : Nat} {ar : Nat → Nat} {h : vh} (hW : WD D x ar t h) (ht : t ≤ t') : WD D x ar t' h := by
  obtain ⟨m, L, W, q, g, l0, u, v, n, w, p, r, h1, h2⟩ := hW
  exact ⟨m, L, W, q, g, l0, u, v, n, w, p, r, h1.le ht, h2⟩

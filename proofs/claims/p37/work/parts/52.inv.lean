/-! ===== the class's numbers and the reference's tell the same ===== -/
def SL (c m : CS) (i : Nat) : Prop := m 3 0 i = c 10 i 0 ∧ m 5 0 i = c 10 i 4 ∧ m 6 0 i = c 10 i 5 ∧ m 7 0 i = c 10 i 1 - 1 ∧ (∀ z : Nat, z < 96 → m 4 0 (96 * i + z) = c 12 i z) ∧ GW (c 12 i) (c 13 i) (c 11 i 2)
/-- the edits of a level tell what its grid was and will be; it never has more than three keys -/
def HG (f Fc Fb Fa : Nat → Int) (d n : Nat) : Prop := ∃ g : Nat → Nat → Int, g d = f ∧ (∀ j, j < n → g (j + 1) = fu (g j) (Fc j).toNat (Fa j) ∧ g j = fu (g (j + 1)) (Fc j).toNat (Fb j)) ∧ ∀ j, j ≤ n → cnK (g j) 96 ≤ 3
def SH (c m : CS) (i : Nat) : Prop := m 8 0 i = c 14 i 3 ∧ m 11 0 i = c 14 i 4 ∧ HG (c 12 i) (c 15 i) (c 16 i) (c 17 i) (c 14 i 3).toNat ((c 14 i 3).toNat + (c 14 i 4).toNat) ∧ (∀ j : Nat, (j : Int) < c 14 i 3 → m 9 0 (40 * i + j) = c 15 i j ∧ m 10 0 (40 * i + j) = 10 * c 16 i j + c 17 i j) ∧
  ∀ r : Nat, (r : Int) < c 14 i 4 → m 12 0 (40 * i + r) = c 15 i (c 14 i 3 + c 14 i 4 - 1 - r).toNat ∧ m 13 0 (40 * i + r) = 10 * c 16 i (c 14 i 3 + c 14 i 4 - 1 - r).toNat + c 17 i (c 14 i 3 + c 14 i 4 - 1 - r).toNat
def SWk (c m : CS) (i : Nat) : Prop := m 15 0 i = c 18 i 1 ∧ m 17 0 i = c 18 i 4 ∧ m 18 0 i = c 18 i 6 ∧ m 19 0 i = c 18 i 2 - 1 ∧ m 20 0 i = c 18 i 7 ∧ (∀ z : Nat, z < 96 → m 16 0 (96 * i + z) = c 20 i z) ∧ (∀ p : Nat, p < 6 → m 21 0 (6 * i + p) = c 22 i p) ∧ GW (c 20 i) (c 21 i) (c 19 i 2)
def EW (c : CS) (w : Nat) : Nat → Nat → Prop := EK (c 20 w) (c 21 w) (c 19 w 2).toNat
def SR (c m : CS) (p : Nat) : Prop := m 22 0 p = c 23 p 2 ∧ m 27 0 p = c 23 p 3 ∧ m 24 0 p = c 24 p 1 ∧ m 25 0 p = c 24 p 2 ∧ (0 ≤ m 23 0 p ∧ m 23 0 p < 20) ∧ (0 ≤ m 26 0 p ∧ m 26 0 p < 8) ∧ (c 23 p 1 = 0 → c 23 p 2 = 0 ∧ c 24 p 3 = 0 ∧ m 26 0 p = 0) ∧ (1 ≤ c 23 p 1 → m 23 0 p = c 23 p 1 - 1 ∧ EW c (c 23 p 1 - 1).toNat (c 24 p 3).toNat (m 26 0 p).toNat)
def Sim (c : CS) (L W : Nat) (m : CS) : Prop := (m 0 0 2 = (L : Int) ∧ m 0 0 14 = (W : Int)) ∧ m 1 0 = c 1 0 ∧ (∀ i, i < L → SL c m i ∧ SH c m i) ∧ (∀ i, i < W → SWk c m i) ∧ (∀ p, p < 6 → SR c m p) ∧ (∀ i, L ≤ i → m 8 0 i = 0 ∧ m 11 0 i = 0) ∧ (∀ j, 6 * W ≤ j → m 21 0 j = 0) ∧ GK m
/-- the numbers of these kinds are the same -/
def KE (lo hi : Nat) (m m1 : CS) : Prop := ∀ k i, lo ≤ k → k < hi → m1 k i = m k i
theorem KE.sub {lo hi lo' hi' : Nat} {m m1 : CS} (h : KE lo hi m m1) (h1 : lo ≤ lo') (h2 : hi' ≤ hi) : KE lo' hi' m m1 := fun k i a b => h k i (Nat.le_trans h1 a) (Nat.lt_of_lt_of_le b h2)
theorem SL.e {c m c1 m1 : CS} {i : Nat} (h : SL c m i) (hc : KE 10 14 c c1) (hm : KE 3 8 m m1) : SL c1 m1 i := by
  unfold SL at h ⊢
  rw [hm 3 0 (by decide) (by decide), hm 5 0 (by decide) (by decide), hm 6 0 (by decide) (by decide), hm 7 0 (by decide) (by decide), hm 4 0 (by decide) (by decide), hc 10 i (by decide) (by decide), hc 12 i (by decide) (by decide), hc 13 i (by decide) (by decide), hc 11 i (by decide) (by decide)]
  exact h
theorem SH.e {c m c1 m1 : CS} {i : Nat} (h : SH c m i) (hc : KE 12 18 c c1) (hm : KE 8 14 m m1) : SH c1 m1 i := by
  unfold SH at h ⊢
  rw [hm 8 0 (by decide) (by decide), hm 11 0 (by decide) (by decide), hm 9 0 (by decide) (by decide), hm 10 0 (by decide) (by decide), hm 12 0 (by decide) (by decide), hm 13 0 (by decide) (by decide), hc 14 i (by decide) (by decide), hc 15 i (by decide) (by decide), hc 16 i (by decide) (by decide), hc 17 i (by decide) (by decide), hc 12 i (by decide) (by decide)]
  exact h
theorem SWk.e {c m c1 m1 : CS} {i : Nat} (h : SWk c m i) (hc : KE 18 23 c c1) (hm : KE 15 22 m m1) : SWk c1 m1 i := by
  unfold SWk at h ⊢
  rw [hm 15 0 (by decide) (by decide), hm 16 0 (by decide) (by decide), hm 17 0 (by decide) (by decide), hm 18 0 (by decide) (by decide), hm 19 0 (by decide) (by decide), hm 20 0 (by decide) (by decide), hm 21 0 (by decide) (by decide), hc 18 i (by decide) (by decide), hc 19 i (by decide) (by decide), hc 20 i (by decide) (by decide), hc 21 i (by decide) (by decide), hc 22 i (by decide) (by decide)]
  exact h
theorem EW.e {c c1 : CS} {w : Nat} (hc : KE 18 23 c c1) : EW c1 w = EW c w := by
  unfold EW
  rw [hc 20 w (by decide) (by decide), hc 21 w (by decide) (by decide), hc 19 w (by decide) (by decide)]
theorem SR.e {c m c1 m1 : CS} {p : Nat} (h : SR c m p) (hc : KE 18 25 c c1) (hm : KE 22 28 m m1) : SR c1 m1 p := by
  unfold SR at h ⊢
  rw [hm 22 0 (by decide) (by decide), hm 23 0 (by decide) (by decide), hm 24 0 (by decide) (by decide), hm 25 0 (by decide) (by decide), hm 26 0 (by decide) (by decide), hm 27 0 (by decide) (by decide), hc 23 p (by decide) (by decide), hc 24 p (by decide) (by decide), EW.e (hc.sub (by decide) (by decide))]
  exact h
theorem Sim.e {c m c1 m1 : CS} {L W : Nat} (h : Sim c L W m) (h1 : c1 1 0 = c 1 0) (hc : KE 10 25 c c1) (hm : SM m m1) : Sim c1 L W m1 := by
  obtain ⟨⟨a1, a2⟩, a3, a4, a5, a6, a7, a8, a9⟩ := h
  obtain ⟨s1, s2, s3, s4⟩ := hm
  have hs : KE 1 28 m m1 := s1
  refine ⟨⟨s2.trans a1, s3.trans a2⟩, ?_, fun i hi => ⟨(a4 i hi).1.e (hc.sub (by decide) (by decide)) (hs.sub (by decide) (by decide)), (a4 i hi).2.e (hc.sub (by decide) (by decide)) (hs.sub (by decide) (by decide))⟩, fun i hi => (a5 i hi).e (hc.sub (by decide) (by decide)) (hs.sub (by decide) (by decide)), fun p hp => (a6 p hp).e (hc.sub (by decide) (by decide)) (hs.sub (by decide) (by decide)), fun i hi => ?_, fun j hj => ?_, s4 a9⟩
  · rw [s1 1 0 (by decide) (by decide), h1]; exact a3
  · rw [s1 8 0 (by decide) (by decide), s1 11 0 (by decide) (by decide)]; exact a7 i hi
  · rw [s1 21 0 (by decide) (by decide)]; exact a8 j hj
theorem KE.rf {lo hi : Nat} {m : CS} : KE lo hi m m := fun _ _ _ _ => rfl
theorem Sim.sm {c m m1 : CS} {L W : Nat} (h : Sim c L W m) (hm : SM m m1) : Sim c L W m1 := h.e rfl KE.rf hm
theorem SE.ke {c c1 : CS} (h : SE c c1) : KE 10 25 c c1 := fun k i h1 _ => h.1 k i (by omega)
theorem Sim.se {c c1 m m1 : CS} {L W : Nat} (h : Sim c L W m) (hs : SE c c1) (hm : SM m m1) : Sim c1 L W m1 := h.e (hs.1 1 0 (by omega)) hs.ke hm
/-! what the reference's methods want to know of its numbers -/
section SimB
variable {c m : CS} {L W : Nat}
theorem Sim.mk1 (h : Sim c L W m) (hC : Cok c L W) : Mk1 m := by
  obtain ⟨⟨a1, a2⟩, _⟩ := h
  obtain ⟨b, _⟩ := hC
  obtain ⟨_, _, _, _, _, b6, b7⟩ := b
  unfold Mk1
  omega
theorem Sim.ss (h : Sim c L W m) (hC : Cok c L W) : ∀ j, 0 ≤ m 1 0 j ∧ m 1 0 j ≤ 4 := by rw [h.2.1]; exact hC.2.1
theorem Sim.li (h : Sim c L W m) {i : Nat} (hi : (i : Int) < m 0 0 2) : i < L := by have := h.1.1; omega
theorem Sim.wi (h : Sim c L W m) {i : Nat} (hi : (i : Int) < m 0 0 14) : i < W := by have := h.1.2; omega
theorem Sim.g4 (h : Sim c L W m) (hC : Cok c L W) : ∀ i j : Nat, (i : Int) < m 0 0 2 → j < 96 → 0 ≤ m 4 0 (96 * i + j) ∧ m 4 0 (96 * i + j) ≤ 8 := fun i j hi hj => by
  have h1 := (h.2.2.1 i (h.li hi)).1
  rw [h1.2.2.2.2.1 j hj]
  exact (hC.2.2.1 i (h.li hi)).1.1 j
theorem Sim.g16 (h : Sim c L W m) (hC : Cok c L W) : ∀ i j : Nat, (i : Int) < m 0 0 14 → j < 96 → 0 ≤ m 16 0 (96 * i + j) ∧ m 16 0 (96 * i + j) ≤ 8 := fun i j hi hj => by
  have h1 := h.2.2.2.1 i (h.wi hi)
  rw [h1.2.2.2.2.2.1 j hj]
  exact (hC.2.2.2.1 i (h.wi hi)).1.1 j
theorem Sim.r4 (h : Sim c L W m) {i : Nat} (hi : i < L) : ∀ z, z < 96 → c 12 i z = rwM (m 4 0) (96 * i) z := fun z hz => by
  unfold rwM; rw [if_pos hz]; exact ((h.2.2.1 i hi).1.2.2.2.2.1 z hz).symm
theorem Sim.r16 (h : Sim c L W m) {i : Nat} (hi : i < W) : ∀ z, z < 96 → c 20 i z = rwM (m 16 0) (96 * i) z := fun z hz => by
  unfold rwM; rw [if_pos hz]; exact ((h.2.2.2.1 i hi).2.2.2.2.2.1 z hz).symm
theorem Sim.ke (h : Sim c L W m) : ∀ i : Nat, (i : Int) < m 0 0 2 → lyA (rwM (m 4 0) (96 * i)) 96 ≤ 7 := fun i hi => by
  rw [← lyA_c (h.r4 (h.li hi))]; exact lyA_7 (h.2.2.1 i (h.li hi)).1.2.2.2.2.2
theorem Sim.kw (h : Sim c L W m) : ∀ i : Nat, (i : Int) < m 0 0 14 → lyA (rwM (m 16 0) (96 * i)) 96 ≤ 7 := fun i hi => by
  rw [← lyA_c (h.r16 (h.wi hi))]; exact lyA_7 (h.2.2.2.1 i (h.wi hi)).2.2.2.2.2.2.2
theorem Sim.gk (h : Sim c L W m) : GK m := h.2.2.2.2.2.2.2
theorem Sim.bg (h : Sim c L W m) (hC : Cok c L W) : ∀ i : Nat, (i : Int) < m 0 0 2 → 0 ≤ m 5 0 i ∧ m 5 0 i ≤ 95 := fun i hi => by
  rw [(h.2.2.1 i (h.li hi)).1.2.1]; exact (hC.2.2.1 i (h.li hi)).2.1.2.2.1
theorem Sim.pf (h : Sim c L W m) (hC : Cok c L W) : ∀ i : Nat, (i : Int) < m 0 0 2 → -2 ≤ m 6 0 i ∧ m 6 0 i ≤ 7000 := fun i hi => by
  rw [(h.2.2.1 i (h.li hi)).1.2.2.1]; exact (hC.2.2.1 i (h.li hi)).2.1.2.2.2
theorem Sim.un (h : Sim c L W m) (hC : Cok c L W) : ∀ i : Nat, (i : Int) < m 0 0 2 → 0 ≤ m 8 0 i ∧ 0 ≤ m 11 0 i ∧ m 8 0 i + m 11 0 i ≤ 40 := fun i hi => by
  have h1 := (h.2.2.1 i (h.li hi)).2
  rw [h1.1, h1.2.1]; exact (hC.2.2.1 i (h.li hi)).2.2.1
theorem Sim.uc (h : Sim c L W m) (hC : Cok c L W) : ∀ i j : Nat, (i : Int) < m 0 0 2 → (j : Int) < m 8 0 i → (0 ≤ m 9 0 (40 * i + j) ∧ m 9 0 (40 * i + j) ≤ 95) ∧ (0 ≤ m 10 0 (40 * i + j) ∧ m 10 0 (40 * i + j) ≤ 88) := fun i j hi hj => by
  have h1 := (h.2.2.1 i (h.li hi)).2
  rw [h1.1] at hj
  have h2 := h1.2.2.2.1 j hj
  have h3 := (hC.2.2.1 i (h.li hi)).2.2.2
  have h4 := h3.1 j
  have h5 := h3.2.1 j
  have h6 := h3.2.2 j
  omega
theorem Sim.rc (h : Sim c L W m) (hC : Cok c L W) : ∀ i j : Nat, (i : Int) < m 0 0 2 → (j : Int) < m 11 0 i → (0 ≤ m 12 0 (40 * i + j) ∧ m 12 0 (40 * i + j) ≤ 95) ∧ (0 ≤ m 13 0 (40 * i + j) ∧ m 13 0 (40 * i + j) ≤ 88) := fun i j hi hj => by
  have h1 := (h.2.2.1 i (h.li hi)).2
  rw [h1.2.1] at hj
  have h2 := h1.2.2.2.2 j hj
  have h3 := (hC.2.2.1 i (h.li hi)).2.2.2
  have h4 := h3.1 (c 14 i 3 + c 14 i 4 - 1 - j).toNat
  have h5 := h3.2.1 (c 14 i 3 + c 14 i 4 - 1 - j).toNat
  have h6 := h3.2.2 (c 14 i 3 + c 14 i 4 - 1 - j).toNat
  omega
theorem Sim.bst (h : Sim c L W m) (hC : Cok c L W) : ∀ j : Nat, (j : Int) < m 0 0 14 → -1 ≤ m 18 0 j ∧ m 18 0 j ≤ 7000 := fun j hj => by
  rw [(h.2.2.2.1 j (h.wi hj)).2.2.1]; exact (hC.2.2.2.1 j (h.wi hj)).2.2.2.2.2.1
theorem Sim.au (h : Sim c L W m) (hC : Cok c L W) : ∀ j : Nat, (j : Int) < m 0 0 14 → 0 ≤ m 15 0 j ∧ m 15 0 j ≤ 5 := fun j hj => by
  rw [(h.2.2.2.1 j (h.wi hj)).1]; exact (hC.2.2.2.1 j (h.wi hj)).2.2.1
theorem Sim.fr (h : Sim c L W m) (hC : Cok c L W) : ∀ j : Nat, (j : Int) < m 0 0 14 → 0 ≤ m 17 0 j ∧ m 17 0 j ≤ 95 := fun j hj => by
  rw [(h.2.2.2.1 j (h.wi hj)).2.1]; exact (hC.2.2.2.1 j (h.wi hj)).2.2.2.2.1
theorem Sim.rec (h : Sim c L W m) (hC : Cok c L W) : ∀ j : Nat, (j : Int) < m 0 0 14 → -1 ≤ m 20 0 j ∧ m 20 0 j ≤ 300 := fun j hj => by
  rw [(h.2.2.2.1 j (h.wi hj)).2.2.2.2.1]; exact (hC.2.2.2.1 j (h.wi hj)).2.2.2.2.2.2.1
theorem Sim.pa (h : Sim c L W m) (hC : Cok c L W) : ∀ j : Nat, (j : Int) < m 0 0 14 → -1 ≤ m 19 0 j ∧ m 19 0 j < j := fun j hj => by
  have h1 := (h.2.2.2.1 j (h.wi hj)).2.2.2.1
  have h2 := (hC.2.2.2.1 j (h.wi hj)).2.2.2.1
  omega
theorem Sim.rn (h : Sim c L W m) (hC : Cok c L W) : ∀ p : Nat, p < 6 → (0 ≤ m 22 0 p ∧ m 22 0 p ≤ 4) ∧ (0 ≤ m 27 0 p ∧ m 27 0 p ≤ 200) ∧ (0 ≤ m 24 0 p ∧ m 24 0 p ≤ 95) ∧ (-4 ≤ m 25 0 p ∧ m 25 0 p ≤ 3) ∧ (0 ≤ m 26 0 p ∧ m 26 0 p < 8) ∧ (m 22 0 p = 1 → 0 ≤ m 23 0 p ∧ m 23 0 p < m 0 0 14) := fun p hp => by
  obtain ⟨a1, a2, a3, a4, a5, a6, a7, a8⟩ := h.2.2.2.2.1 p hp
  obtain ⟨b1, b2, b3, b4, b5, b6, b7, b8⟩ := hC.2.2.2.2 p hp
  have h2 := h.1.2
  rw [a1, a2, a3, a4]
  refine ⟨b2, b3, b5, b6, a6, fun e => ?_⟩
  have h3 := b4 e
  have h4 := a8 h3.1
  omega
theorem Sim.rb (h : Sim c L W m) (hC : Cok c L W) : ∀ p : Nat, p < 6 → (0 ≤ m 22 0 p ∧ m 22 0 p ≤ 4) ∧ (-2147483648 ≤ m 23 0 p ∧ m 23 0 p ≤ 2147483647) := fun p hp => by
  have h1 := (h.rn hC p hp).1
  have h2 := (h.2.2.2.2.1 p hp).2.2.2.2.1
  exact ⟨h1, by omega⟩
theorem Sim.r22 (h : Sim c L W m) (hC : Cok c L W) : ∀ p : Nat, p < 6 → 0 ≤ m 22 0 p ∧ m 22 0 p ≤ 4 := fun p hp => (h.rn hC p hp).1
theorem Sim.r26 (h : Sim c L W m) : ∀ p : Nat, p < 6 → 0 ≤ m 26 0 p ∧ m 26 0 p < 8 := fun p hp => (h.2.2.2.2.1 p hp).2.2.2.2.2.1
theorem Sim.w20 (h : Sim c L W m) (hC : Cok c L W) : m 0 0 14 ≤ 20 := by
  have h2 := h.1.2
  obtain ⟨_, _, _, _, _, _, b7⟩ := hC.1
  omega
end SimB


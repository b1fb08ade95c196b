/-! ===== the answers are the same ===== -/
theorem Lin_c {P P' : Nat → Int} {W : Nat} (hP : ∀ i, i < W → P i = P' i ∧ P i ≤ (i : Int)) : ∀ (n : Nat) (z : Int), z ≤ W → Lin P n z = Lin P' n z ∧ Lin P n z ≤ W
  | 0, z, h => ⟨rfl, h⟩
  | n + 1, z, h => by
    show Lin P n (if z ≤ 0 then 0 else P (z - 1).toNat) = Lin P' n (if z ≤ 0 then 0 else P' (z - 1).toNat) ∧ Lin P n (if z ≤ 0 then 0 else P (z - 1).toNat) ≤ W
    by_cases q : z ≤ 0
    · rw [if_pos q, if_pos q]; exact Lin_c hP n 0 (by omega)
    · rw [if_neg q, if_neg q]
      have h1 := hP (z - 1).toNat (by omega)
      rw [← h1.1]
      exact Lin_c hP n _ (by omega)
theorem Anc_c {P P' : Nat → Int} {T T' : Nat → Prop} {W : Nat} (hP : ∀ i, i < W → P i = P' i ∧ P i ≤ (i : Int)) (hT : ∀ i, i < W → (T i ↔ T' i)) {z : Int} (hz : z ≤ W) : Anc P T z ↔ Anc P' T' z := by
  constructor
  · rintro ⟨n, h1, h2⟩
    have h3 := Lin_c hP n z hz
    refine ⟨n, by rw [← h3.1]; exact h1, ?_⟩
    rw [← h3.1]; exact (hT _ (by omega)).mp h2
  · rintro ⟨n, h1, h2⟩
    have h3 := Lin_c hP n z hz
    refine ⟨n, by rw [h3.1]; exact h1, ?_⟩
    rw [← h3.1] at h2; rw [h3.1] at h2 ⊢; rw [← h3.1] at h2 ⊢
    exact (hT _ (by rw [← h3.1] at h1; omega)).mpr h2
theorem cntR_c {R R' : Nat → Int} : ∀ {n : Nat}, (∀ x, x < n → (R x = 0 ↔ R' x = 0)) → cntR R n = cntR R' n
  | 0, _ => rfl
  | n + 1, h => by
    have ih := cntR_c (n := n) (fun x hx => h x (by omega))
    by_cases q : R n = 0
    · rw [cntR_t q, cntR_t ((h n (by omega)).mp q), ih]
    · rw [cntR_f q, cntR_f (fun z => q ((h n (by omega)).mpr z)), ih]
section ans
variable {c m : CS} {L W : Nat}
theorem ans_line (h : Sim c L W m) (hC : Cok c L W) {w : Nat} : sumN (lnB c w) W = sumN (lnM m w) (m 0 0 14).toNat := by
  have hW : (m 0 0 14).toNat = W := by have := h.1.2; omega
  rw [hW]
  refine sumN_c (fun k hk => ?_)
  unfold lnB lnM
  have e := Anc_c (P := fun i => c 18 i 2) (P' := fun i => m 19 0 i + 1) (T := fun i => i = w) (T' := fun i => i = w) (W := W) (fun i hi => ⟨by
    have := (h.2.2.2.1 i hi).2.2.2.1
    show c 18 i 2 = m 19 0 i + 1
    omega, (hC.2.2.2.1 i hi).2.2.2.1.2⟩) (fun i hi => Iff.rfl) (z := (k : Int) + 1) (by omega)
  rw [propext e]
theorem ans_stars (h : Sim c L W m) {w : Nat} (hw : w < W) : sumN (c 22 w) 6 = sumN (fun j => m 21 0 (6 * w + j)) 6 :=
  sumN_c (fun j hj => ((h.2.2.2.1 w hw).2.2.2.2.2.2.1 j hj).symm)
theorem ans_credit (h : Sim c L W m) (hC : Cok c L W) {p : Int} : sumN (crB c p) W = sumN (crM m p) (m 0 0 14).toNat := by
  have hW : (m 0 0 14).toNat = W := by have := h.1.2; omega
  rw [hW]
  refine sumN_c (fun k hk => ?_)
  unfold crB crM
  have e := Anc_c (P := fun i => c 18 i 2) (P' := fun i => m 19 0 i + 1) (T := fun i => c 18 i 1 = p) (T' := fun i => m 15 0 i = p) (W := W) (fun i hi => ⟨by
    have := (h.2.2.2.1 i hi).2.2.2.1
    show c 18 i 2 = m 19 0 i + 1
    omega, (hC.2.2.2.1 i hi).2.2.2.1.2⟩) (fun i hi => by
    have := (h.2.2.2.1 i hi).1
    show c 18 i 1 = p ↔ m 15 0 i = p
    rw [this]) (z := (k : Int) + 1) (by omega)
  rw [propext e, ans_stars h hk]
theorem ans_keys (h : Sim c L W m) (hC : Cok c L W) {p : Nat} (hp : p < 6) : pc3 (c 24 p 3).toNat = pc3 (m 26 0 p).toNat := by
  obtain ⟨g1, g2, g3, g4, g5, g6, g7, g8⟩ := h.2.2.2.2.1 p hp
  have hr := hC.2.2.2.2 p hp
  by_cases q : c 23 p 1 = 0
  · obtain ⟨_, q2, q3⟩ := g7 q
    rw [q2, q3]
  · have g9 := g8 (by have := hr.1.1; omega)
    have hw : (c 23 p 1 - 1).toNat < W := by have := hr.1; omega
    exact (EK.pc (h.2.2.2.1 _ hw).2.2.2.2.2.2.2 g9.2).symm
theorem ans_found (h : Sim c L W m) {u : Nat} (hu : u < L) {r s : Int} (h1 : Found (TT (c 12 u) (c 13 u) (c 11 u 2).toNat (c 1 0)) (X0 (c 12 u) (c 13 u) (c 10 u 4)) r) (h2 : FdR m (rwM (m 4 0) (96 * u)) (m 5 0 u) s) : r = s := by
  have g := (h.2.2.1 u hu).1
  exact g.2.2.2.2.2.found (h.r4 hu) h.2.1 h1 (by rw [← g.2.1]; exact h2)
theorem ans_foundM (h : Sim c L W m) {u : Nat} (hu : u < L) {n r s : Int} (h1 : FoundM (TT (c 12 u) (c 13 u) (c 11 u 2).toNat (c 1 0)) (X0 (c 12 u) (c 13 u) (c 10 u 4)) n r) (h2 : FdR m (rwM (m 4 0) (96 * u)) (m 5 0 u) s) : r = if s ≤ n then s else -1 := by
  have g := (h.2.2.1 u hu).1
  rw [g.2.1] at h2
  unfold FdR at h2
  rw [h.2.1] at h2
  exact FoundM.of ((g.2.2.2.2.2.ge (h.r4 hu) (m 28 0) (m 29 0)).F.mpr h2) h1
theorem ans_seen (h : Sim c L W m) {u : Nat} (hu : u < L) {R R' : Nat → Int} (h1 : ∀ x : Nat, x < 96 → (R x = 1 ↔ Seen (TT (c 12 u) (c 13 u) (c 11 u 2).toNat (c 1 0)) (X0 (c 12 u) (c 13 u) (c 10 u 4)) x)) (r1 : ∀ x, 0 ≤ R x ∧ R x ≤ 1) (h2 : ∀ x : Nat, x < 96 → (R' x = 1 ↔ SnR m (rwM (m 4 0) (96 * u)) (m 5 0 u) x)) (r2 : ∀ x, x < 96 → 0 ≤ R' x ∧ R' x ≤ 1) : ∀ x, x < 96 → (R x = 0 ↔ R' x = 0) := fun x hx => by
  have g := (h.2.2.1 u hu).1
  have e := g.2.2.2.2.2.seen (m := m) (h.r4 hu) h.2.1 (z := c 10 u 4) (c := (x : Int))
  have a1 := h1 x hx
  have a2 := h2 x hx
  rw [g.2.1] at a2
  have a3 := a1.trans (e.trans a2.symm)
  have b1 := r1 x
  have b2 := r2 x hx
  constructor
  · intro z
    have : ¬ R' x = 1 := fun y => by have := a3.mpr y; omega
    omega
  · intro z
    have : ¬ R x = 1 := fun y => by have := a3.mp y; omega
    omega
end ans
theorem sim_init : Cok cI 0 0 ∧ Sim cI 0 0 mI := by
  have z3 : ∀ lo hi : Int, lo ≤ 0 → 0 ≤ hi → lo ≤ (0 : Int) ∧ (0 : Int) ≤ hi := fun _ _ a b => ⟨a, b⟩
  have hS : ∀ j, 0 ≤ S0 j ∧ S0 j ≤ 4 := fun j => by
    unfold S0 fu
    split
    · decide
    · split
      · decide
      · split
        · decide
        · exact (⟨by decide, by decide⟩ : (0 : Int) ≤ 0 ∧ (0 : Int) ≤ 4)
  refine ⟨⟨⟨rfl, rfl, rfl, rfl, rfl, by decide, by decide⟩, hS, fun i hi => absurd hi (Nat.not_lt_zero _), fun i hi => absurd hi (Nat.not_lt_zero _), fun p hp => ?_⟩, ⟨rfl, rfl⟩, rfl, fun i hi => absurd hi (Nat.not_lt_zero _), fun i hi => absurd hi (Nat.not_lt_zero _), fun p hp => ?_, fun i _ => ⟨rfl, rfl⟩, fun j _ => rfl, ?_⟩
  · refine ⟨⟨?_, ?_⟩, ⟨?_, ?_⟩, ⟨?_, ?_⟩, fun z => ?_, ⟨?_, ?_⟩, ⟨?_, ?_⟩, ⟨?_, ?_⟩, ⟨?_, ?_⟩⟩
    any_goals (first | (show (0 : Int) ≤ 0; decide) | (show (0 : Int) ≤ 4; decide) | (show (0 : Int) ≤ 200; decide) | (show (0 : Int) ≤ 95; decide) | (show (-4 : Int) ≤ 0; decide) | (show (0 : Int) ≤ 3; decide) | (show (0 : Int) < 8; decide) | (show (0 : Int) ≤ 1; decide) | (show (1 : Int) ≤ 4; decide))
    have z2 : (0 : Int) = 1 := z
    omega
  · refine ⟨rfl, rfl, rfl, rfl, ⟨?_, ?_⟩, ⟨?_, ?_⟩, fun _ => ⟨rfl, rfl, rfl⟩, fun z => ?_⟩
    any_goals (first | (show (0 : Int) ≤ 0; decide) | (show (0 : Int) < 20; decide) | (show (0 : Int) < 8; decide))
    have z2 : (1 : Int) ≤ 0 := z
    omega
  · exact ⟨fun j => (⟨by decide, by decide⟩ : (0 : Int) ≤ 0 ∧ (0 : Int) ≤ 8), fun j => (⟨by decide, by decide⟩ : (0 : Int) ≤ 0 ∧ (0 : Int) ≤ 7)⟩


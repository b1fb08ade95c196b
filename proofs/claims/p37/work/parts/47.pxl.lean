def erF (m : CS) (u w : Int) (n : Nat) : Nat → Int := fun p => if p < n ∧ w = -1 ∧ m 22 0 p = 1 ∧ m 23 0 p = u then 4 else m 22 0 p
theorem erF_0 {m : CS} {u w : Int} : erF m u w 0 = m 22 0 := by funext p; exact if_neg (by omega)
theorem erF_v {m : CS} {u w : Int} {n : Nat} : erF m u w n n = m 22 0 n := if_neg (by omega)
theorem erF_s {m : CS} {u w : Int} {n : Nat} {v : Int} (hv : v = if w = -1 ∧ m 22 0 n = 1 ∧ m 23 0 n = u then 4 else m 22 0 n) : fu (erF m u w n) n v = erF m u w (n + 1) := by
  funext p
  unfold fu erF
  by_cases q : p = n
  · rw [if_pos q, q, hv]
    by_cases z : w = -1 ∧ m 22 0 n = 1 ∧ m 23 0 n = u
    · rw [if_pos z, if_pos ⟨by omega, z⟩]
    · rw [if_neg z, if_neg (fun y => z y.2)]
  · rw [if_neg q]
    by_cases z : p < n ∧ w = -1 ∧ m 22 0 p = 1 ∧ m 23 0 p = u
    · rw [if_pos z, if_pos ⟨by omega, z.2⟩]
    · rw [if_neg z, if_neg (fun y => z ⟨by omega, y.2⟩)]
/-- a work is tried again -/
def trN (m : CS) (u : Nat) (w : Int) : CS := cu (cu m 18 0 (fu (m 18 0) u w)) 22 0 (erF m u w 6)
theorem erF_c {a b : CS} {u w : Int} {n : Nat} (h1 : b 22 0 = a 22 0) (h2 : b 23 0 = a 23 0) : erF a u w n = erF b u w n := by unfold erF; rw [h1, h2]
theorem SM.tn {a b : CS} {u : Nat} {w : Int} (h : SM a b) : SM (trN a u w) (trN b u w) := by
  unfold trN
  refine SM.up9 (by decide) (erF_c (h.1 22 0 (by decide) (by decide)) (h.1 23 0 (by decide) (by decide))) (SM.up9 (by decide) ?_ h)
  rw [h.1 18 0 (by decide) (by decide)]

noncomputable def vdB (m : CS) (kd : Int) (j : Nat) : Int := if m 6 0 j = -2 then 0 else bI (∃ x, x < 96 ∧ m 4 0 (96 * j + x) = kd)
theorem vdB_e (m : CS) (kd : Int) (j : Nat) : (m 6 0 j = -2 ∧ vdB m kd j = 0) ∨ (m 6 0 j ≠ -2 ∧ vdB m kd j = bI (∃ x, x < 96 ∧ m 4 0 (96 * j + x) = kd)) := by
  by_cases q : m 6 0 j = -2
  · exact Or.inl ⟨q, if_pos q⟩
  · exact Or.inr ⟨q, if_neg q⟩
noncomputable def vdF (m : CS) (kd : Int) (n : Nat) : Nat → Int := fun j => if j < n ∧ vdB m kd j ≠ 0 then -2 else m 6 0 j
theorem vdF_0 {m : CS} {kd : Int} : vdF m kd 0 = m 6 0 := by funext p; exact if_neg (by omega)
theorem vdF_v {m : CS} {kd : Int} {n : Nat} : vdF m kd n n = m 6 0 n := if_neg (by omega)
theorem vdF_s {m : CS} {kd : Int} {n : Nat} {v : Int} (hv : v = if vdB m kd n ≠ 0 then -2 else m 6 0 n) : fu (vdF m kd n) n v = vdF m kd (n + 1) := by
  funext p
  unfold fu vdF
  by_cases q : p = n
  · rw [if_pos q, q, hv]
    by_cases z : vdB m kd n ≠ 0
    · rw [if_pos z, if_pos ⟨by omega, z⟩]
    · rw [if_neg z, if_neg (fun y => z y.2)]
  · rw [if_neg q]
    by_cases z : p < n ∧ vdB m kd p ≠ 0
    · rw [if_pos z, if_pos ⟨by omega, z.2⟩]
    · rw [if_neg z, if_neg (fun y => z ⟨by omega, y.2⟩)]
def StepR (kd : Int) (j : Nat) (m1 m4 : CS) : Prop := (bI (∃ x, x < 96 ∧ m1 16 0 (96 * j + x) = kd) = 0 ∧ m4 = m1) ∨ (¬ bI (∃ x, x < 96 ∧ m1 16 0 (96 * j + x) = kd) = 0 ∧ ∃ w, FdR m1 (rwM (m1 16 0) (96 * j)) (m1 17 0 j) w ∧ (-1 ≤ w ∧ w ≤ 6145) ∧ SM (trN m1 j w) m4)
def SPR (kd : Int) (m0 : CS) : Nat → CS → Prop
  | 0, m => SM m0 m
  | n + 1, m => ∃ m1, SPR kd m0 n m1 ∧ StepR kd n m1 m
/-- what the trying of works leaves -/
def KR (m0 m : CS) : Prop := (∀ k i, 1 ≤ k → k < 28 → k ≠ 18 → k ≠ 22 → m k i = m0 k i) ∧ m 0 0 2 = m0 0 0 2 ∧ m 0 0 14 = m0 0 0 14 ∧ (GK m0 → GK m) ∧ ((∀ p : Nat, p < 6 → 0 ≤ m0 22 0 p ∧ m0 22 0 p ≤ 4) → ∀ p : Nat, p < 6 → 0 ≤ m 22 0 p ∧ m 22 0 p ≤ 4)
theorem KR.sm {a b c : CS} (h : KR a b) (g : SM b c) : KR a c := ⟨fun k i h1 h2 h3 h4 => (g.1 k i h1 h2).trans (h.1 k i h1 h2 h3 h4), g.2.1.trans h.2.1, g.2.2.1.trans h.2.2.1, fun z => g.2.2.2 (h.2.2.2.1 z), fun z p hp => by rw [g.1 22 0 (by decide) (by decide)]; exact h.2.2.2.2 z p hp⟩
theorem KR.rf {a : CS} : KR a a := ⟨fun _ _ _ _ _ _ => rfl, rfl, rfl, id, id⟩
theorem KR.tn {a b : CS} {u : Nat} {w : Int} (h : KR a b) : KR a (trN b u w) := by
  obtain ⟨h1, h2, h3, h4, h5⟩ := h
  refine ⟨fun k i a1 a2 a3 a4 => ?_, h2, h3, fun z => ?_, fun z p hp => ?_⟩
  · unfold trN
    rw [cu_n (fun z => a4 z.1), cu_n (fun z => a3 z.1)]; exact h1 k i a1 a2 a3 a4
  · unfold trN
    exact (GK.cu (by omega) (by omega)).mpr ((GK.cu (by omega) (by omega)).mpr (h4 z))
  · have e : trN b u w 22 0 = erF b u w 6 := cu_s
    rw [e]
    unfold erF
    split
    · decide
    · exact h5 z p hp
theorem SPR.kr {kd : Int} {m0 : CS} : ∀ {n : Nat} {m : CS}, SPR kd m0 n m → KR m0 m
  | 0, m, h => KR.rf.sm h
  | n + 1, m, h => by
    obtain ⟨m1, h1, h2⟩ := h
    have h3 := SPR.kr h1
    rcases h2 with ⟨_, rfl⟩ | ⟨_, w, _, _, h4⟩
    · exact h3
    · exact h3.tn.sm h4


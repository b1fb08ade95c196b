/-! ===== a level is edited ===== -/
theorem fu_self {f : Nat → Int} {i : Nat} : fu f i (f i) = f := by
  funext j
  unfold fu
  by_cases h : j = i
  · rw [if_pos h, h]
  · rw [if_neg h]
theorem cnK_fu {f : Nat → Int} {z : Nat} (hf : f z ≠ 2) : ∀ n, z < n → cnK (fu f z 2) n = cnK f n + 1 := by
  intro n hn
  induction n with
  | zero => omega
  | succ n ih =>
    by_cases q : z = n
    · subst q
      have e1 : cnK (fu f z 2) z = cnK f z := cnK_c (fun y hy => fu_n (by omega))
      rw [cnK_t (show fu f z 2 z = 2 from fu_s), cnK_f hf, e1]
    · have e2 : fu f z 2 n = f n := fu_n (fun y => q y.symm)
      by_cases r : f n = 2
      · rw [cnK_t (by rw [e2]; exact r), cnK_t r, ih (by omega)]
      · rw [cnK_f (by rw [e2]; exact r), cnK_f r, ih (by omega)]
theorem HG.z {f Fc Fb Fa : Nat → Int} (h : cnK f 96 ≤ 3) : HG f Fc Fb Fa 0 0 := ⟨fun _ => f, rfl, fun j hj => absurd hj (Nat.not_lt_zero _), fun _ _ => h⟩
theorem HG.now {f Fc Fb Fa : Nat → Int} {d n : Nat} (h : HG f Fc Fb Fa d n) (hd : d ≤ n) : cnK f 96 ≤ 3 := by
  obtain ⟨g, h1, _, h3⟩ := h
  rw [← h1]; exact h3 d hd
theorem HG.un {f Fc Fb Fa : Nat → Int} {d n : Nat} (h : HG f Fc Fb Fa d n) (h1 : 1 ≤ d) (hd : d ≤ n) : HG (fu f (Fc (d - 1)).toNat (Fb (d - 1))) Fc Fb Fa (d - 1) n := by
  obtain ⟨g, h2, h3, h4⟩ := h
  refine ⟨g, ?_, h3, h4⟩
  have := (h3 (d - 1) (by omega)).2
  rw [show d - 1 + 1 = d by omega, h2] at this
  exact this
theorem HG.re {f Fc Fb Fa : Nat → Int} {d n : Nat} (h : HG f Fc Fb Fa d n) (hd : d < n) : HG (fu f (Fc d).toNat (Fa d)) Fc Fb Fa (d + 1) n := by
  obtain ⟨g, h2, h3, h4⟩ := h
  refine ⟨g, ?_, h3, h4⟩
  have := (h3 d hd).1
  rw [h2] at this
  exact this
theorem hrow_lo {F : Nat → Int} {d : Nat} {x : Int} (h : d < 40) : hrow F d x = fu F d x := by unfold hrow hd40; rw [if_pos h, if_pos h]
theorem hrow_hi {F : Nat → Int} {d : Nat} {x : Int} (h : ¬ d < 40) : hrow F d x = fu (shN F 39) 39 x := by unfold hrow hd40; rw [if_neg h, if_neg h]
theorem hd40_lo {d : Nat} (h : d < 40) : hd40 d = d := if_pos h
theorem hd40_hi {d : Nat} (h : ¬ d < 40) : hd40 d = 39 := if_neg h
theorem HG.put {f Fc Fb Fa : Nat → Int} {d n : Nat} (h : HG f Fc Fb Fa d n) (hd : d ≤ n) (h40 : d ≤ 40) {z k : Int} (hk : cnK (fu f z.toNat k) 96 ≤ 3) : HG (fu f z.toNat k) (hrow Fc d z) (hrow Fb d (f z.toNat)) (hrow Fa d k) (hd40 d + 1) (hd40 d + 1) := by
  obtain ⟨g, h2, h3, h4⟩ := h
  have back : f = fu (fu f z.toNat k) z.toNat (f z.toNat) := by rw [fu_u, fu_self]
  by_cases q : d < 40
  · rw [hrow_lo q, hrow_lo q, hrow_lo q, hd40_lo q]
    refine ⟨fun j => if j ≤ d then g j else fu f z.toNat k, if_neg (by omega), fun j hj => ?_, fun j hj => ?_⟩
    · dsimp only
      by_cases r : j = d
      · subst r
        rw [if_neg (by omega), if_pos (Nat.le_refl _), fu_s, fu_s, fu_s, h2]
        exact ⟨rfl, back⟩
      · rw [if_pos (by omega), if_pos (by omega), fu_n r, fu_n r, fu_n r]
        exact h3 j (by omega)
    · dsimp only
      by_cases r : j ≤ d
      · rw [if_pos r]; exact h4 j (by omega)
      · rw [if_neg r]; exact hk
  · have hd40' : d = 40 := by omega
    subst hd40'
    rw [hrow_hi q, hrow_hi q, hrow_hi q, hd40_hi q]
    refine ⟨fun j => if j ≤ 39 then g (j + 1) else fu f z.toNat k, if_neg (by omega), fun j hj => ?_, fun j hj => ?_⟩
    · dsimp only
      by_cases r : j = 39
      · subst r
        rw [if_neg (by omega), if_pos (Nat.le_refl _), fu_s, fu_s, fu_s, h2]
        exact ⟨rfl, back⟩
      · rw [if_pos (by omega), if_pos (by omega), fu_n r, fu_n r, fu_n r]
        have e : ∀ F : Nat → Int, shN F 39 j = F (j + 1) := fun F => if_pos (by omega)
        rw [e, e, e]
        exact h3 (j + 1) (by omega)
    · dsimp only
      by_cases r : j ≤ 39
      · rw [if_pos r]; exact h4 (j + 1) (by omega)
      · rw [if_neg r]; exact hk
/-- the class's numbers but for a level; the reference's -/
def CLo (c c' : CS) (u : Nat) : Prop := ∀ k i, ¬ ((10 ≤ k ∧ k < 18) ∧ i = u) → c' k i = c k i
def MLo (m m' : CS) (u : Nat) : Prop := (∀ k, 1 ≤ k → k < 28 → (k = 1 ∨ 15 ≤ k) → m' k 0 = m k 0) ∧ m' 0 0 2 = m 0 0 2 ∧ m' 0 0 14 = m 0 0 14 ∧ (GK m → GK m') ∧
  ∀ i, i ≠ u → (m' 3 0 i = m 3 0 i ∧ m' 5 0 i = m 5 0 i ∧ m' 6 0 i = m 6 0 i ∧ m' 7 0 i = m 7 0 i ∧ m' 8 0 i = m 8 0 i ∧ m' 11 0 i = m 11 0 i) ∧ (∀ z, z < 96 → m' 4 0 (96 * i + z) = m 4 0 (96 * i + z)) ∧ ∀ j, j < 40 → m' 9 0 (40 * i + j) = m 9 0 (40 * i + j) ∧ m' 10 0 (40 * i + j) = m 10 0 (40 * i + j) ∧ m' 12 0 (40 * i + j) = m 12 0 (40 * i + j) ∧ m' 13 0 (40 * i + j) = m 13 0 (40 * i + j)
theorem Cok.lv {c c' : CS} {L W u : Nat} (hC : Cok c L W) (hO : CLo c c' u) (h1 : OkG (c' 12 u) (c' 13 u) (c' 11 u 2)) (h2 : OkL c' W u) (h3 : OkH c' u) : Cok c' L W := by
  obtain ⟨p1, p2, p3, p4, p5⟩ := hC
  have e : ∀ k i, k < 10 ∨ 18 ≤ k → c' k i = c k i := fun k i hk => hO k i (by omega)
  refine ⟨?_, ?_, fun i hi => ?_, fun i hi => ?_, fun p hp => ?_⟩
  · unfold Ok1 at p1 ⊢
    rw [e 0 0 (by omega), e 2 0 (by omega), e 3 0 (by omega), e 4 0 (by omega)]; exact p1
  · rw [e 1 0 (by omega)]; exact p2
  · by_cases q : i = u
    · subst q; exact ⟨h1, h2, h3⟩
    · have g := p3 i hi
      have e2 : ∀ k, c' k i = c k i := fun k => hO k i (by omega)
      unfold OkL OkH at g ⊢
      rw [e2 12, e2 13, e2 11, e2 10, e2 14, e2 15, e2 16, e2 17]; exact g
  · have g := p4 i hi
    unfold OkW at g ⊢
    rw [e 20 i (by omega), e 21 i (by omega), e 19 i (by omega), e 18 i (by omega), e 22 i (by omega)]; exact g
  · have g := p5 p hp
    unfold OkR at g ⊢
    rw [e 23 p (by omega), e 24 p (by omega)]; exact g
theorem Sim.lv {c c' m m' : CS} {L W u : Nat} (h : Sim c L W m) (hC : Cok c L W) (hu : u < L) (hO : CLo c c' u) (hM : MLo m m' u) (h1 : SL c' m' u) (h2 : SH c' m' u) : Sim c' L W m' := by
  obtain ⟨⟨a1, a2⟩, a3, a4, a5, a6, a7, a8, a9⟩ := h
  obtain ⟨s1, s2, s3, s4, s5⟩ := hM
  have e : ∀ k i, k < 10 ∨ 18 ≤ k → c' k i = c k i := fun k i hk => hO k i (by omega)
  have hc : KE 18 25 c c' := fun k i a b => e k i (by omega)
  have fun0 : ∀ k i, 15 ≤ k → k < 28 → i = 0 → m' k i = m k i := fun k i a b z => by rw [z]; exact s1 k (by omega) b (by omega)
  refine ⟨⟨s2.trans a1, s3.trans a2⟩, ?_, fun i hi => ?_, fun i hi => ?_, fun p hp => ?_, fun i hi => ?_, fun j hj => ?_, s4 a9⟩
  · rw [s1 1 (by decide) (by decide) (by decide), e 1 0 (by omega)]; exact a3
  · by_cases q : i = u
    · subst q; exact ⟨h1, h2⟩
    · obtain ⟨g1, g2⟩ := a4 i hi
      obtain ⟨⟨t1, t2, t3, t4, t5, t6⟩, t7, t8⟩ := s5 i q
      have e2 : ∀ k, c' k i = c k i := fun k => hO k i (by omega)
      have hb := (hC.2.2.1 i hi).2.2.1
      refine ⟨?_, ?_⟩
      · unfold SL at g1 ⊢
        rw [t1, t2, t3, t4, e2 10, e2 12, e2 13, e2 11]
        exact ⟨g1.1, g1.2.1, g1.2.2.1, g1.2.2.2.1, fun z hz => by rw [t7 z hz]; exact g1.2.2.2.2.1 z hz, g1.2.2.2.2.2⟩
      · unfold SH at g2 ⊢
        rw [t5, t6, e2 12, e2 14, e2 15, e2 16, e2 17]
        exact ⟨g2.1, g2.2.1, g2.2.2.1, fun j hj => by rw [(t8 j (by omega)).1, (t8 j (by omega)).2.1]; exact g2.2.2.2.1 j hj, fun r hr => by rw [(t8 r (by omega)).2.2.1, (t8 r (by omega)).2.2.2]; exact g2.2.2.2.2 r hr⟩
  · have g := a5 i hi
    unfold SWk at g ⊢
    rw [fun0 15 0 (by decide) (by decide) rfl, fun0 16 0 (by decide) (by decide) rfl, fun0 17 0 (by decide) (by decide) rfl, fun0 18 0 (by decide) (by decide) rfl, fun0 19 0 (by decide) (by decide) rfl, fun0 20 0 (by decide) (by decide) rfl, fun0 21 0 (by decide) (by decide) rfl, hc 18 i (by decide) (by decide), hc 19 i (by decide) (by decide), hc 20 i (by decide) (by decide), hc 21 i (by decide) (by decide), hc 22 i (by decide) (by decide)]
    exact g
  · have g := a6 p hp
    unfold SR at g ⊢
    rw [fun0 22 0 (by decide) (by decide) rfl, fun0 23 0 (by decide) (by decide) rfl, fun0 24 0 (by decide) (by decide) rfl, fun0 25 0 (by decide) (by decide) rfl, fun0 26 0 (by decide) (by decide) rfl, fun0 27 0 (by decide) (by decide) rfl, hc 23 p (by decide) (by decide), hc 24 p (by decide) (by decide), EW.e (hc.sub (by decide) (by decide))]
    exact g
  · have h9 : i ≠ u := by omega
    obtain ⟨⟨_, _, _, _, t5, t6⟩, _⟩ := s5 i h9
    rw [t5, t6]; exact a7 i hi
  · rw [s1 21 (by decide) (by decide) (by decide)]; exact a8 j hj


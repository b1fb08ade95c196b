/-! ===== works and runs, in both ===== -/
section wrk
variable {c m : CS} {L W : Nat}
theorem sim_star (h : Sim c L W m) (hC : Cok c L W) {w p : Nat} (hw : w < W) (hp : p < 6) {n : Int} (hn : 1 ≤ n ∧ n ≤ 5) :
    Cok (cu c 22 w (fu (c 22 w) p n)) L W ∧ Sim (cu c 22 w (fu (c 22 w) p n)) L W (cu m 21 0 (fu (m 21 0) (6 * w + p) n)) := by
  have e : ∀ k i, k ≠ 22 → cu c 22 w (fu (c 22 w) p n) k i = c k i := fun k i hk => cu_n (fun z => hk z.1)
  have e2 : ∀ i, i ≠ w → cu c 22 w (fu (c 22 w) p n) 22 i = c 22 i := fun i hi => cu_n (fun z => hi z.2)
  have es : cu c 22 w (fu (c 22 w) p n) 22 w = fu (c 22 w) p n := cu_s
  have f : ∀ k i, k ≠ 21 → cu m 21 0 (fu (m 21 0) (6 * w + p) n) k i = m k i := fun k i hk => cu_n (fun z => hk z.1)
  have fs : cu m 21 0 (fu (m 21 0) (6 * w + p) n) 21 0 = fu (m 21 0) (6 * w + p) n := cu_s
  obtain ⟨p1, p2, p3, p4, p5⟩ := id hC
  obtain ⟨⟨a1, a2⟩, a3, a4, a5, a6, a7, a8, a9⟩ := id h
  refine ⟨⟨?_, ?_, fun i hi => ?_, fun i hi => ?_, fun q hq => ?_⟩, ⟨⟨a1, a2⟩, ?_, fun i hi => ?_, fun i hi => ?_, fun q hq => ?_, fun i hi => ?_, fun j hj => ?_, (GK.cu (by omega) (by omega)).mpr a9⟩⟩
  · unfold Ok1 at p1 ⊢
    rw [e 0 0 (by decide), e 2 0 (by decide), e 3 0 (by decide), e 4 0 (by decide)]; exact p1
  · rw [e 1 0 (by decide)]; exact p2
  · have g := p3 i hi
    unfold OkL OkH at g ⊢
    rw [e 12 i (by decide), e 13 i (by decide), e 11 i (by decide), e 10 i (by decide), e 14 i (by decide), e 15 i (by decide), e 16 i (by decide), e 17 i (by decide)]; exact g
  · have g := p4 i hi
    unfold OkW at g ⊢
    rw [e 20 i (by decide), e 21 i (by decide), e 19 i (by decide), e 18 i (by decide)]
    by_cases q : i = w
    · subst q
      rw [es]
      exact ⟨g.1, g.2.1, g.2.2.1, g.2.2.2.1, g.2.2.2.2.1, g.2.2.2.2.2.1, g.2.2.2.2.2.2.1, fu_r g.2.2.2.2.2.2.2 (by omega)⟩
    · rw [e2 i q]; exact g
  · have g := p5 q hq
    unfold OkR at g ⊢
    rw [e 23 q (by decide), e 24 q (by decide)]; exact g
  · rw [f 1 0 (by decide), e 1 0 (by decide)]; exact a3
  · exact ⟨(a4 i hi).1.e (fun k j x y => e k j (by omega)) (fun k j x y => f k j (by omega)), (a4 i hi).2.e (fun k j x y => e k j (by omega)) (fun k j x y => f k j (by omega))⟩
  · have g := a5 i hi
    unfold SWk at g ⊢
    rw [f 15 0 (by decide), f 17 0 (by decide), f 18 0 (by decide), f 19 0 (by decide), f 20 0 (by decide), f 16 0 (by decide), fs, e 18 i (by decide), e 20 i (by decide), e 21 i (by decide), e 19 i (by decide)]
    refine ⟨g.1, g.2.1, g.2.2.1, g.2.2.2.1, g.2.2.2.2.1, g.2.2.2.2.2.1, fun q hq => ?_, g.2.2.2.2.2.2.2⟩
    by_cases r : i = w
    · subst r
      rw [es]
      by_cases r2 : q = p
      · subst r2; rw [fu_s, fu_s]
      · rw [fu_n (by omega), fu_n r2]; exact g.2.2.2.2.2.2.1 q hq
    · rw [e2 i r, fu_n (by omega)]; exact g.2.2.2.2.2.2.1 q hq
  · have g := a6 q hq
    unfold SR EW at g ⊢
    rw [f 22 0 (by decide), f 23 0 (by decide), f 24 0 (by decide), f 25 0 (by decide), f 26 0 (by decide), f 27 0 (by decide), e 23 q (by decide), e 24 q (by decide), e 20 _ (by decide), e 21 _ (by decide), e 19 _ (by decide)]
    exact g
  · rw [f 8 0 (by decide), f 11 0 (by decide)]; exact a7 i hi
  · rw [fs, fu_n (by omega)]; exact a8 j hj
def rcN (r n s : Int) : Int := if s = 2 then (if r < 0 ∨ n < r then n else r) else r
def rnC (c : CS) (p w : Nat) (x : B4) (n : Int) : CS := cu (cu (cu c 24 p (oF [0, x.1, x.2.1, ((x.2.2.1 : Nat) : Int), x.2.2.2])) 23 p (oF [0, ((w + 1 : Nat) : Int), x.2.2.2, n])) 18 w (oF [c 18 w 0, c 18 w 1, c 18 w 2, 0, c 18 w 4, 0, c 18 w 6, rcN (c 18 w 7) n x.2.2.2])
def rnM (m : CS) (p w : Nat) (x : B4) (n : Int) : CS := kpX (cu (cu m 23 0 (fu (m 23 0) p ((w : Nat) : Int))) 27 0 (fu (m 27 0) p n)) p w x
theorem kpR_e {E : Nat → Nat → Prop} {x x' : B4} (e : XF E x x') : kpR x' = kpR x := by
  unfold kpR; rw [e.1, e.2.2.2]
theorem sim_run (h : Sim c L W m) (hC : Cok c L W) {p w : Nat} (hw : w < W) (hp : p < 6) {x x' : B4} (hx : bOK x) (hX : XF (EW c w) x x') {n : Int} (hn : 0 ≤ n ∧ n ≤ 200) :
    Cok (rnC c p w x n) L W ∧ Sim (rnC c p w x n) L W (rnM m p w x' n) := by
  have e : ∀ k i, k ≠ 18 → k ≠ 23 → k ≠ 24 → rnC c p w x n k i = c k i := fun k i h1 h2 h3 => (cu_n (fun z => h1 z.1)).trans ((cu_n (fun z => h2 z.1)).trans (cu_n (fun z => h3 z.1)))
  have e18 : rnC c p w x n 18 w = oF [c 18 w 0, c 18 w 1, c 18 w 2, 0, c 18 w 4, 0, c 18 w 6, rcN (c 18 w 7) n x.2.2.2] := cu_s
  have e18n : ∀ i, i ≠ w → rnC c p w x n 18 i = c 18 i := fun i hi => (cu_n (fun z => hi z.2)).trans ((cu_n (fun z => absurd z.1 (by decide))).trans (cu_n (fun z => absurd z.1 (by decide))))
  have e23 : rnC c p w x n 23 p = oF [0, ((w + 1 : Nat) : Int), x.2.2.2, n] := (cu_n (fun z => absurd z.1 (by decide))).trans cu_s
  have e23n : ∀ i, i ≠ p → rnC c p w x n 23 i = c 23 i := fun i hi => (cu_n (fun z => absurd z.1 (by decide))).trans ((cu_n (fun z => hi z.2)).trans (cu_n (fun z => absurd z.1 (by decide))))
  have e24 : rnC c p w x n 24 p = oF [0, x.1, x.2.1, ((x.2.2.1 : Nat) : Int), x.2.2.2] := (cu_n (fun z => absurd z.1 (by decide))).trans ((cu_n (fun z => absurd z.1 (by decide))).trans cu_s)
  have e24n : ∀ i, i ≠ p → rnC c p w x n 24 i = c 24 i := fun i hi => (cu_n (fun z => absurd z.1 (by decide))).trans ((cu_n (fun z => absurd z.1 (by decide))).trans (cu_n (fun z => hi z.2)))
  have f : ∀ k i, k ≠ 20 → k ≠ 22 → k ≠ 23 → k ≠ 24 → k ≠ 25 → k ≠ 26 → k ≠ 27 → rnM m p w x' n k i = m k i := fun k i h1 h2 h3 h4 h5 h6 h7 => (cu_n (fun z => h1 z.1)).trans ((cu_n (fun z => h2 z.1)).trans ((cu_n (fun z => h6 z.1)).trans ((cu_n (fun z => h5 z.1)).trans ((cu_n (fun z => h4 z.1)).trans ((cu_n (fun z => h7 z.1)).trans (cu_n (fun z => h3 z.1)))))))
  have f22 : rnM m p w x' n 22 0 = fu (m 22 0) p x'.2.2.2 := rfl
  have f23 : rnM m p w x' n 23 0 = fu (m 23 0) p ((w : Nat) : Int) := rfl
  have f24 : rnM m p w x' n 24 0 = fu (m 24 0) p x'.1 := rfl
  have f25 : rnM m p w x' n 25 0 = fu (m 25 0) p x'.2.1 := rfl
  have f26 : rnM m p w x' n 26 0 = fu (m 26 0) p ((x'.2.2.1 : Nat) : Int) := rfl
  have f27 : rnM m p w x' n 27 0 = fu (m 27 0) p n := rfl
  have f20 : rnM m p w x' n 20 0 = if x'.2.2.2 = 2 ∧ (m 20 0 w = -1 ∨ fu (m 27 0) p n p < m 20 0 w) then fu (m 20 0) w (fu (m 27 0) p n p) else m 20 0 := rfl
  obtain ⟨p1, p2, p3, p4, p5⟩ := id hC
  obtain ⟨⟨a1, a2⟩, a3, a4, a5, a6, a7, a8, a9⟩ := id h
  obtain ⟨x1, x2, x3, x4, x5, x6, x7⟩ := hx
  obtain ⟨y1, y2, y3, y4⟩ := hX
  have hGw := (a5 w hw).2.2.2.2.2.2.2
  have hlt := EK.lt hGw y3
  obtain ⟨q1, q2, q3, q4, q5, q6, q7⟩ := (p4 w hw).2
  obtain ⟨_, _, _, _, _, o6, o7⟩ := id p1
  have hr : -1 ≤ rcN (c 18 w 7) n x.2.2.2 ∧ rcN (c 18 w 7) n x.2.2.2 ≤ 300 := by unfold rcN; split <;> (try split) <;> omega
  have hEW : ∀ v, EW (rnC c p w x n) v = EW c v := fun v => by
    unfold EW
    rw [e 20 v (by decide) (by decide) (by decide), e 21 v (by decide) (by decide) (by decide), e 19 v (by decide) (by decide) (by decide)]
  refine ⟨⟨?_, ?_, fun i hi => ?_, fun i hi => ?_, fun q hq => ?_⟩, ⟨⟨a1, a2⟩, ?_, fun i hi => ?_, fun i hi => ?_, fun q hq => ?_, fun i hi => ?_, fun j hj => ?_, ?_⟩⟩
  · unfold Ok1 at p1 ⊢
    rw [e 0 0 (by decide) (by decide) (by decide), e 2 0 (by decide) (by decide) (by decide), e 3 0 (by decide) (by decide) (by decide), e 4 0 (by decide) (by decide) (by decide)]; exact p1
  · rw [e 1 0 (by decide) (by decide) (by decide)]; exact p2
  · have g := p3 i hi
    unfold OkL OkH at g ⊢
    rw [e 12 i (by decide) (by decide) (by decide), e 13 i (by decide) (by decide) (by decide), e 11 i (by decide) (by decide) (by decide), e 10 i (by decide) (by decide) (by decide), e 14 i (by decide) (by decide) (by decide), e 15 i (by decide) (by decide) (by decide), e 16 i (by decide) (by decide) (by decide), e 17 i (by decide) (by decide) (by decide)]; exact g
  · have g := p4 i hi
    unfold OkW at g ⊢
    rw [e 20 i (by decide) (by decide) (by decide), e 21 i (by decide) (by decide) (by decide), e 19 i (by decide) (by decide) (by decide), e 22 i (by decide) (by decide) (by decide)]
    by_cases q : i = w
    · subst q
      rw [e18]
      exact ⟨g.1, q1, q2, q3, q4, q5, hr, q7⟩
    · rw [e18n i q]; exact g
  · have g := p5 q hq
    unfold OkR at g ⊢
    by_cases r : q = p
    · subst r
      rw [e23, e24]
      exact ⟨⟨by show (0 : Int) ≤ ((w + 1 : Nat) : Int); omega, by show ((w + 1 : Nat) : Int) ≤ (W : Int); omega⟩, ⟨x6, x7⟩, hn, fun z => ⟨by show (1 : Int) ≤ ((w + 1 : Nat) : Int); omega, z⟩, ⟨x1, x2⟩, ⟨x3, x4⟩, ⟨by show (0 : Int) ≤ ((x.2.2.1 : Nat) : Int); omega, by show ((x.2.2.1 : Nat) : Int) < 8; omega⟩, ⟨x6, x7⟩⟩
    · rw [e23n q r, e24n q r]; exact g
  · rw [f 1 0 (by decide) (by decide) (by decide) (by decide) (by decide) (by decide) (by decide), e 1 0 (by decide) (by decide) (by decide)]; exact a3
  · exact ⟨(a4 i hi).1.e (fun k j x y => e k j (by omega) (by omega) (by omega)) (fun k j x y => f k j (by omega) (by omega) (by omega) (by omega) (by omega) (by omega) (by omega)), (a4 i hi).2.e (fun k j x y => e k j (by omega) (by omega) (by omega)) (fun k j x y => f k j (by omega) (by omega) (by omega) (by omega) (by omega) (by omega) (by omega))⟩
  · have g := a5 i hi
    unfold SWk at g ⊢
    rw [f 15 0 (by decide) (by decide) (by decide) (by decide) (by decide) (by decide) (by decide), f 17 0 (by decide) (by decide) (by decide) (by decide) (by decide) (by decide) (by decide), f 18 0 (by decide) (by decide) (by decide) (by decide) (by decide) (by decide) (by decide), f 19 0 (by decide) (by decide) (by decide) (by decide) (by decide) (by decide) (by decide), f 16 0 (by decide) (by decide) (by decide) (by decide) (by decide) (by decide) (by decide), f 21 0 (by decide) (by decide) (by decide) (by decide) (by decide) (by decide) (by decide), e 20 i (by decide) (by decide) (by decide), e 21 i (by decide) (by decide) (by decide), e 19 i (by decide) (by decide) (by decide), e 22 i (by decide) (by decide) (by decide), f20, fu_s]
    by_cases q : i = w
    · subst q
      rw [e18]
      refine ⟨g.1, g.2.1, g.2.2.1, g.2.2.2.1, ?_, g.2.2.2.2.2⟩
      show _ = rcN (c 18 i 7) n x.2.2.2
      have g20 := g.2.2.2.2.1
      unfold rcN
      rw [← y4]
      by_cases s2 : x.2.2.2 = 2
      · rw [if_pos s2]
        by_cases s3 : m 20 0 i = -1 ∨ n < m 20 0 i
        · rw [if_pos ⟨s2, s3⟩, fu_s, if_pos (by omega)]
        · rw [if_neg (fun z => s3 z.2), if_neg (by omega)]; exact g20
      · rw [if_neg s2, if_neg (fun z => s2 z.1)]; exact g20
    · rw [e18n i q]
      refine ⟨g.1, g.2.1, g.2.2.1, g.2.2.2.1, ?_, g.2.2.2.2.2⟩
      rw [← g.2.2.2.2.1]
      split
      · exact fu_n q
      · rfl
  · have g := a6 q hq
    unfold SR at g ⊢
    rw [f22, f23, f24, f25, f26, f27, hEW]
    by_cases r : q = p
    · subst r
      rw [e23, e24, fu_s, fu_s, fu_s, fu_s, fu_s, fu_s]
      refine ⟨y4.symm, rfl, y1.symm, y2.symm, ⟨by omega, by omega⟩, ⟨by omega, by omega⟩, fun z => ?_, fun z => ⟨?_, ?_⟩⟩
      · have z2 : ((w + 1 : Nat) : Int) = 0 := z
        omega
      · show ((w : Nat) : Int) = ((w + 1 : Nat) : Int) - 1
        omega
      · show EW c (((w + 1 : Nat) : Int) - 1).toNat x.2.2.1 x'.2.2.1
        rw [show (((w + 1 : Nat) : Int) - 1).toNat = w by omega]
        exact y3
    · rw [e23n q r, e24n q r, fu_n r, fu_n r, fu_n r, fu_n r, fu_n r, fu_n r]; exact g
  · rw [f 8 0 (by decide) (by decide) (by decide) (by decide) (by decide) (by decide) (by decide), f 11 0 (by decide) (by decide) (by decide) (by decide) (by decide) (by decide) (by decide)]; exact a7 i hi
  · rw [f 21 0 (by decide) (by decide) (by decide) (by decide) (by decide) (by decide) (by decide)]; exact a8 j hj
  · unfold GK at a9 ⊢
    rw [f 28 0 (by decide) (by decide) (by decide) (by decide) (by decide) (by decide) (by decide), f 29 0 (by decide) (by decide) (by decide) (by decide) (by decide) (by decide) (by decide)]; exact a9
end wrk


/-! ===== a spring's rule changes, in both ===== -/
theorem erN_v {c : CS} {x : Nat} {p : Nat} : ∀ n, erN c x n 23 p = if p < n ∧ c 23 p 1 = (x : Int) + 1 ∧ c 23 p 2 = 1 then oF [0, (x : Int) + 1, 4, c 23 p 3] else c 23 p
  | 0 => (if_neg (by omega)).symm
  | n + 1 => by
    have ih := erN_v (c := c) (x := x) (p := p) n
    unfold erN
    by_cases h : c 23 n 1 = (x : Int) + 1 ∧ c 23 n 2 = 1
    · rw [if_pos h]
      by_cases q : p = n
      · subst q
        rw [cu_s, if_pos ⟨by omega, h⟩]
      · rw [cu_n (fun z => q z.2), ih]
        by_cases r : p < n ∧ c 23 p 1 = (x : Int) + 1 ∧ c 23 p 2 = 1
        · rw [if_pos r, if_pos ⟨by omega, r.2⟩]
        · rw [if_neg r, if_neg (fun z => r ⟨by omega, z.2⟩)]
    · rw [if_neg h, ih]
      by_cases r : p < n ∧ c 23 p 1 = (x : Int) + 1 ∧ c 23 p 2 = 1
      · rw [if_pos r, if_pos ⟨by omega, r.2⟩]
      · rw [if_neg r, if_neg (fun z => by
          by_cases q : p = n
          · subst q; exact h z.2
          · exact r ⟨by omega, z.2⟩)]
section sps
variable {c m : CS} {L W : Nat}
theorem sim_try (h : Sim c L W m) (hC : Cok c L W) {j : Nat} (hj : j < W) {w : Int} (hw : -1 ≤ w) : Sim (erU (bw c j w) j) L W (trN m j w) := by
  have b18 : bw c j w 18 j = oF [c 18 j 0, c 18 j 1, c 18 j 2, 0, c 18 j 4, 0, w, c 18 j 7] := cu_s
  have b18n : ∀ i, i ≠ j → bw c j w 18 i = c 18 i := fun i hi => cu_n (fun z => hi z.2)
  have bk : ∀ k i, k ≠ 18 → bw c j w k i = c k i := fun k i hk => cu_n (fun z => hk z.1)
  have ek : ∀ k i, k ≠ 23 → erU (bw c j w) j k i = bw c j w k i := fun k i hk => by
    unfold erU; split
    · rfl
    · exact erN_k hk 6
  have e23 : ∀ p, p < 6 → erU (bw c j w) j 23 p = if w = -1 ∧ c 23 p 1 = (j : Int) + 1 ∧ c 23 p 2 = 1 then oF [0, (j : Int) + 1, 4, c 23 p 3] else c 23 p := fun p hp => by
    unfold erU
    have hb6 : bw c j w 18 j 6 = w := by rw [b18]; rfl
    rw [hb6]
    by_cases q : 0 ≤ w
    · rw [if_pos q, if_neg (by omega), bk 23 p (by decide)]
    · rw [if_neg q, erN_v, bk 23 p (by decide)]
      by_cases r : c 23 p 1 = (j : Int) + 1 ∧ c 23 p 2 = 1
      · rw [if_pos ⟨hp, r⟩, if_pos ⟨by omega, r⟩]
      · rw [if_neg (fun z => r z.2), if_neg (fun z => r z.2)]
  have e : ∀ k i, k ≠ 18 → k ≠ 23 → erU (bw c j w) j k i = c k i := fun k i h1 h2 => (ek k i h2).trans (bk k i h1)
  have f : ∀ k i, k ≠ 18 → k ≠ 22 → trN m j w k i = m k i := fun k i h1 h2 => (cu_n (fun z => h2 z.1)).trans (cu_n (fun z => h1 z.1))
  have f18 : trN m j w 18 0 = fu (m 18 0) j w := rfl
  have f22 : trN m j w 22 0 = erF m j w 6 := rfl
  have hEW : ∀ v, EW (erU (bw c j w) j) v = EW c v := fun v => by
    unfold EW
    rw [e 20 v (by decide) (by decide), e 21 v (by decide) (by decide), e 19 v (by decide) (by decide)]
  obtain ⟨⟨a1, a2⟩, a3, a4, a5, a6, a7, a8, a9⟩ := id h
  refine ⟨⟨a1, a2⟩, ?_, fun i hi => ?_, fun i hi => ?_, fun p hp => ?_, fun i hi => ?_, fun i hi => ?_, ?_⟩
  · rw [f 1 0 (by decide) (by decide), e 1 0 (by decide) (by decide)]; exact a3
  · exact ⟨(a4 i hi).1.e (fun k j x y => e k j (by omega) (by omega)) (fun k j x y => f k j (by omega) (by omega)), (a4 i hi).2.e (fun k j x y => e k j (by omega) (by omega)) (fun k j x y => f k j (by omega) (by omega))⟩
  · have g := a5 i hi
    unfold SWk at g ⊢
    rw [f 15 0 (by decide) (by decide), f 16 0 (by decide) (by decide), f 17 0 (by decide) (by decide), f 19 0 (by decide) (by decide), f 20 0 (by decide) (by decide), f 21 0 (by decide) (by decide), f18, ek 18 i (by decide), e 20 i (by decide) (by decide), e 21 i (by decide) (by decide), e 19 i (by decide) (by decide), e 22 i (by decide) (by decide)]
    by_cases q : i = j
    · subst q
      rw [b18]
      exact ⟨g.1, g.2.1, fu_s, g.2.2.2.1, g.2.2.2.2.1, g.2.2.2.2.2⟩
    · rw [b18n i q, fu_n q]; exact g
  · have g := a6 p hp
    have hr := hC.2.2.2.2 p hp
    unfold SR at g ⊢
    rw [f22, f 23 0 (by decide) (by decide), f 24 0 (by decide) (by decide), f 25 0 (by decide) (by decide), f 26 0 (by decide) (by decide), f 27 0 (by decide) (by decide), hEW, e23 p hp, e 24 p (by decide) (by decide)]
    obtain ⟨g1, g2, g3, g4, g5, g6, g7, g8⟩ := g
    unfold erF
    by_cases q : w = -1 ∧ c 23 p 1 = (j : Int) + 1 ∧ c 23 p 2 = 1
    · have g9 := g8 (by omega)
      rw [if_pos q, if_pos ⟨hp, q.1, by omega, by omega⟩]
      refine ⟨rfl, g2, g3, g4, g5, g6, fun z => ?_, fun z => ?_⟩
      · have z2 : (j : Int) + 1 = 0 := z
        omega
      · rw [q.2.1] at g9
        exact g9
    · rw [if_neg q, if_neg (fun z => q ⟨z.2.1, by
        obtain ⟨z1, z2, z3, z4⟩ := z
        have h5 := hr.2.2.2.1 (by omega)
        have g9 := g8 h5.1
        exact ⟨by omega, by omega⟩⟩)]
      exact ⟨g1, g2, g3, g4, g5, g6, g7, g8⟩
  · rw [f 8 0 (by decide) (by decide), f 11 0 (by decide) (by decide)]; exact a7 i hi
  · rw [f 21 0 (by decide) (by decide)]; exact a8 i hi
  · unfold GK at a9 ⊢
    rw [f 28 0 (by decide) (by decide), f 29 0 (by decide) (by decide)]; exact a9
theorem sim_stepW (h : Sim c L W m) (hC : Cok c L W) {kd : Int} {j : Nat} (hj : j < W) {c4 m4 : CS} (h1 : StepW kd j c c4) (h2 : StepR kd j m m4) : Sim c4 L W m4 := by
  have g := h.2.2.2.1 j hj
  have hiff : (∃ x, x < 96 ∧ c 20 j x = kd) ↔ ∃ x, x < 96 ∧ m 16 0 (96 * j + x) = kd := by
    constructor
    · rintro ⟨x, x1, x2⟩; exact ⟨x, x1, by rw [g.2.2.2.2.2.1 x x1]; exact x2⟩
    · rintro ⟨x, x1, x2⟩; exact ⟨x, x1, by rw [← g.2.2.2.2.2.1 x x1]; exact x2⟩
  have hb : bI (∃ x, x < 96 ∧ c 20 j x = kd) = bI (∃ x, x < 96 ∧ m 16 0 (96 * j + x) = kd) := by rw [propext hiff]
  rcases h1 with ⟨q1, rfl⟩ | ⟨q1, c3, w, h3, h4, h5, rfl⟩
  · rcases h2 with ⟨_, rfl⟩ | ⟨r1, _⟩
    · exact h
    · rw [hb] at q1; exact absurd q1 r1
  · rcases h2 with ⟨r1, _⟩ | ⟨_, w', h6, h7, h8⟩
    · rw [← hb] at r1; exact absurd r1 q1
    · have hww : w = w' := g.2.2.2.2.2.2.2.found (h.r16 hj) h.2.1 h4 (by rw [← g.2.1]; exact h6)
      subst hww
      exact (sim_try (h.se h3 SM.rf) (h3.cok hC) hj h5.1).sm h8
theorem StepR.c6 {kd : Int} {j : Nat} {m1 m4 : CS} (F : Nat → Int) (h : StepR kd j m1 m4) : StepR kd j (cu m1 6 0 F) (cu m4 6 0 F) := by
  rcases h with ⟨r1, rfl⟩ | ⟨r1, w, h6, h7, h8⟩
  · exact Or.inl ⟨r1, rfl⟩
  · refine Or.inr ⟨r1, w, h6, h7, ?_⟩
    have e : trN (cu m1 6 0 F) j w = cu (trN m1 j w) 6 0 F := by
      unfold trN
      rw [cu_sw (m := cu m1 18 0 (fu (m1 18 0) j w)) (a := 22) (b := 6) (by decide), cu_sw (m := m1) (a := 18) (b := 6) (by decide)]
      rfl
    rw [e]
    exact SM.up (by decide) h8
theorem sim_SP {kd : Int} {F : Nat → Int} {c0 m0 : CS} (h : Sim c0 L W (cu m0 6 0 F)) (hC : Cok c0 L W) {b : Int} (hS : SB c0 b) : ∀ {n : Nat}, n ≤ W → ∀ {c2 m2 : CS}, SPW kd c0 n c2 → SPR kd m0 n m2 → Sim c2 L W (cu m2 6 0 F) ∧ Cok c2 L W ∧ SB c2 (b + n) ∧ (∀ i, c2 10 i = c0 10 i ∧ c2 12 i = c0 12 i)
  | 0, _, c2, m2, h1, h2 => by
    have e : c2 = c0 := h1
    subst e
    exact ⟨h.sm (SM.up (by decide) h2), hC, by rw [show b + ((0 : Nat) : Int) = b by omega]; exact hS, fun _ => ⟨rfl, rfl⟩⟩
  | n + 1, hn, c2, m2, h1, h2 => by
    obtain ⟨c1, h3, h4⟩ := h1
    obtain ⟨m1, h5, h6⟩ := h2
    obtain ⟨i1, i2, i3, i4⟩ := sim_SP h hC hS (show n ≤ W by omega) h3 h5
    have hk := h4.ok (by omega) i2 i3
    refine ⟨sim_stepW i1 i2 (by omega) h4 (h6.c6 F), hk.1, by rw [show b + ((n + 1 : Nat) : Int) = b + (n : Int) + 1 by omega]; exact hk.2.1, fun i => ?_⟩
    have hcc : c2 10 i = c1 10 i ∧ c2 12 i = c1 12 i := by
      rcases h4 with ⟨_, rfl⟩ | ⟨_, c3, w, h7, _, _, rfl⟩
      · exact ⟨rfl, rfl⟩
      · have ek : ∀ k, k ≠ 23 → erU (bw c3 n w) n k i = bw c3 n w k i := fun k hk => by
          unfold erU; split
          · rfl
          · exact erN_k hk 6
        rw [ek 10 (by decide), ek 12 (by decide)]
        exact ⟨(cu_n (fun z => absurd z.1 (by decide))).trans (h7.1 10 i (by decide)), (cu_n (fun z => absurd z.1 (by decide))).trans (h7.1 12 i (by decide))⟩
    exact ⟨hcc.1.trans (i4 i).1, hcc.2.trans (i4 i).2⟩
theorem sumN_c {f g : Nat → Int} : ∀ {n : Nat}, (∀ j, j < n → f j = g j) → sumN f n = sumN g n
  | 0, _ => rfl
  | n + 1, h => by
    show sumN f n + f n = sumN g n + g n
    rw [sumN_c (fun j hj => h j (by omega)), h n (by omega)]
theorem vpN_v {kd : Int} {i : Nat} : ∀ n, vpN c kd n 10 i = if i < n ∧ vpB c kd i ≠ 0 then oF [c 10 i 0, c 10 i 1, 0, 0, c 10 i 4, -2] else c 10 i
  | 0 => (if_neg (by omega)).symm
  | n + 1 => by
    have ih := vpN_v (kd := kd) (i := i) n
    unfold vpN
    by_cases h : vpB c kd n = 0
    · rw [if_pos h, ih]
      by_cases r : i < n ∧ vpB c kd i ≠ 0
      · rw [if_pos r, if_pos ⟨by omega, r.2⟩]
      · rw [if_neg r, if_neg (fun z => by
          by_cases q : i = n
          · subst q; exact z.2 h
          · exact r ⟨by omega, z.2⟩)]
    · rw [if_neg h]
      by_cases q : i = n
      · subst q
        rw [cu_s, if_pos ⟨by omega, h⟩]
      · rw [cu_n (fun z => q z.2), ih]
        by_cases r : i < n ∧ vpB c kd i ≠ 0
        · rw [if_pos r, if_pos ⟨by omega, r.2⟩]
        · rw [if_neg r, if_neg (fun z => r ⟨by omega, z.2⟩)]
theorem vp_cok (hC : Cok c L W) {kd : Int} {n : Nat} : Cok (vpN c kd n) L W := by
  obtain ⟨p1, p2, p3, p4, p5⟩ := hC
  have e : ∀ k i, k ≠ 10 → vpN c kd n k i = c k i := fun k i hk => vpN_k hk n
  refine ⟨p1.vp, by rw [e 1 0 (by decide)]; exact p2, fun i hi => ?_, fun i hi => ?_, fun p hp => ?_⟩
  · have g := p3 i hi
    unfold OkL OkH at g ⊢
    rw [e 12 i (by decide), e 13 i (by decide), e 11 i (by decide), e 14 i (by decide), e 15 i (by decide), e 16 i (by decide), e 17 i (by decide), vpN_v]
    refine ⟨g.1, ?_, g.2.2⟩
    split
    · exact ⟨g.2.1.1, g.2.1.2.1, g.2.1.2.2.1, by show (-2 : Int) ≤ -2; decide, by show (-2 : Int) ≤ 7000; decide⟩
    · exact g.2.1
  · have g := p4 i hi
    unfold OkW at g ⊢
    rw [e 18 i (by decide), e 19 i (by decide), e 20 i (by decide), e 21 i (by decide), e 22 i (by decide)]; exact g
  · have g := p5 p hp
    unfold OkR at g ⊢
    rw [e 23 p (by decide), e 24 p (by decide)]; exact g
theorem sim_vp {kd : Int} {m0 m3 : CS} (h : Sim c L W (cu m3 6 0 (m0 6 0))) (h4 : m3 4 0 = m0 4 0) (h6 : m3 6 0 = vdF m0 kd L) : (∀ i, i < L → vpB c kd i = vdB m0 kd i) ∧ Sim (vpN c kd L) L W m3 := by
  have e : ∀ k i, k ≠ 10 → vpN c kd L k i = c k i := fun k i hk => vpN_k hk L
  have f : ∀ k i, k ≠ 6 → cu m3 6 0 (m0 6 0) k i = m3 k i := fun k i hk => cu_n (fun z => hk z.1)
  obtain ⟨⟨a1, a2⟩, a3, a4, a5, a6, a7, a8, a9⟩ := id h
  have hB : ∀ i, i < L → vpB c kd i = vdB m0 kd i := fun i hi => by
    have g := (a4 i hi).1
    have g6 : m0 6 0 i = c 10 i 5 := g.2.2.1
    have g4 : ∀ z : Nat, z < 96 → m3 4 0 (96 * i + z) = c 12 i z := g.2.2.2.2.1
    rw [h4] at g4
    have hiff : (∃ x, x < 96 ∧ c 12 i x = kd) ↔ ∃ x, x < 96 ∧ m0 4 0 (96 * i + x) = kd := by
      constructor
      · rintro ⟨x, x1, x2⟩; exact ⟨x, x1, by rw [g4 x x1]; exact x2⟩
      · rintro ⟨x, x1, x2⟩; exact ⟨x, x1, by rw [← g4 x x1]; exact x2⟩
    unfold vpB vdB
    rw [g6, propext hiff]
  refine ⟨hB, ⟨a1, a2⟩, ?_, fun i hi => ⟨?_, ?_⟩, fun i hi => ?_, fun p hp => ?_, fun i hi => ?_, fun i hi => ?_, ?_⟩
  · have := a3
    rw [f 1 0 (by decide)] at this
    rw [this, e 1 0 (by decide)]
  · have g := (a4 i hi).1
    unfold SL at g ⊢
    rw [f 3 0 (by decide), f 5 0 (by decide), f 7 0 (by decide), f 4 0 (by decide)] at g
    rw [e 12 i (by decide), e 13 i (by decide), e 11 i (by decide), vpN_v, h6]
    have g6 : m0 6 0 i = c 10 i 5 := g.2.2.1
    have hbi := hB i hi
    unfold vdF
    rw [← hbi]
    by_cases q : i < L ∧ vpB c kd i ≠ 0
    · rw [if_pos q, if_pos q]
      exact ⟨g.1, g.2.1, rfl, g.2.2.2.1, g.2.2.2.2⟩
    · rw [if_neg q, if_neg q]
      exact ⟨g.1, g.2.1, g6, g.2.2.2.1, g.2.2.2.2⟩
  · exact (a4 i hi).2.e (fun k j x y => e k j (by omega)) (fun k j x y => (f k j (by omega)).symm)
  · exact (a5 i hi).e (fun k j x y => e k j (by omega)) (fun k j x y => (f k j (by omega)).symm)
  · exact (a6 p hp).e (fun k j x y => e k j (by omega)) (fun k j x y => (f k j (by omega)).symm)
  · have := a7 i hi
    rw [f 8 0 (by decide), f 11 0 (by decide)] at this; exact this
  · have := a8 i hi
    rw [f 21 0 (by decide)] at this; exact this
  · exact (GK.cu (by omega) (by omega)).mp a9
theorem sim_spring (h : Sim c L W m) (hC : Cok c L W) {b : Int} (hS : SB c b) {s : Nat} {n : Int} (hn : 1 ≤ n ∧ n ≤ 4) {kd : Int} {c2 m2 : CS} (h1 : SPW kd (cu c 1 0 (fu (c 1 0) s n)) W c2) (h2 : SPR kd (cu (cu m 1 0 (fu (m 1 0) s n)) 6 0 (vdF m kd L)) W m2) :
    sumN (vpB c2 kd) L = sumN (vdB m kd) L ∧ Cok (vpN c2 kd L) L W ∧ Sim (vpN c2 kd L) L W m2 := by
  have e : ∀ k i, k ≠ 1 → cu c 1 0 (fu (c 1 0) s n) k i = c k i := fun k i hk => cu_n (fun z => hk z.1)
  have f : ∀ k i, k ≠ 1 → cu m 1 0 (fu (m 1 0) s n) k i = m k i := fun k i hk => cu_n (fun z => hk z.1)
  have h0 : Sim (cu c 1 0 (fu (c 1 0) s n)) L W (cu m 1 0 (fu (m 1 0) s n)) := by
    obtain ⟨⟨a1, a2⟩, a3, a4, a5, a6, a7, a8, a9⟩ := id h
    refine ⟨⟨a1, a2⟩, ?_, fun i hi => ⟨(a4 i hi).1.e (fun k j x y => e k j (by omega)) (fun k j x y => f k j (by omega)), (a4 i hi).2.e (fun k j x y => e k j (by omega)) (fun k j x y => f k j (by omega))⟩, fun i hi => (a5 i hi).e (fun k j x y => e k j (by omega)) (fun k j x y => f k j (by omega)), fun p hp => (a6 p hp).e (fun k j x y => e k j (by omega)) (fun k j x y => f k j (by omega)), fun i hi => ?_, fun i hi => ?_, (GK.cu (by omega) (by omega)).mpr a9⟩
    · rw [cu_s, cu_s, a3]
    · rw [f 8 0 (by decide), f 11 0 (by decide)]; exact a7 i hi
    · rw [f 21 0 (by decide)]; exact a8 i hi
  have hM : cu (cu (cu m 1 0 (fu (m 1 0) s n)) 6 0 (vdF m kd L)) 6 0 (m 6 0) = cu m 1 0 (fu (m 1 0) s n) := by
    rw [cu_u]; exact cu_id rfl
  obtain ⟨i1, i2, i3, i4⟩ := sim_SP (F := m 6 0) (by rw [hM]; exact h0) (hC.spr hn) (b := b) hS (Nat.le_refl W) h1 h2
  have hk := SPR.kr h2
  have k4 : m2 4 0 = m 4 0 := hk.1 4 0 (by decide) (by decide) (by decide) (by decide)
  have k6 : m2 6 0 = vdF m kd L := hk.1 6 0 (by decide) (by decide) (by decide) (by decide)
  obtain ⟨j1, j2⟩ := sim_vp (m0 := m) i1 k4 k6
  exact ⟨sumN_c j1, vp_cok i2, j2⟩
end sps


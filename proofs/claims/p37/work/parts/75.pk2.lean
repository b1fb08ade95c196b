/-! ===== levels and works more; stars; runs ===== -/
section PKQ
variable {m m' : CS} {L W : Nat} {q : Nat → Int} {g g' : Nat → Int64} {l0 l1 u u' v v' n n' w w' p p' r r' : Nat → Int}
theorem Sy.zero {D : va_G} {x : Nat} {ar : Nat → Nat} {t : Nat} {h : vh} (hS : Sy D x ar m L W t h) : (∀ i, L ≤ i → m 8 0 i = 0 ∧ m 11 0 i = 0) ∧ (∀ j, 6 * W ≤ j → m 21 0 j = 0) ∧ (m 0 0 2).toNat = L ∧ (m 0 0 14).toNat = W := by
  obtain ⟨ad, c, hR, hx, hC, hs, hB, hn⟩ := hS
  have h1 := hs.1
  exact ⟨hs.2.2.2.2.2.1, hs.2.2.2.2.2.2.1, by omega, by omega⟩
theorem PKP.e {x : Nat} (h : PKP m r x) (ho : ∀ j, 22 ≤ j → m' j 0 = m j 0) : PKP m' r x := by
  unfold PKP at h ⊢
  rw [ho 22 (by decide), ho 23 (by decide), ho 24 (by decide), ho 25 (by decide), ho 26 (by decide), ho 27 (by decide)]
  exact h
theorem lB_v {l0 : Nat → Int} {k : Nat} {a b c : Int} : lB l0 k a b c (4 * k) = a ∧ lB l0 k a b c (4 * k + 1) = b ∧ lB l0 k a b c (4 * k + 2) = -2 ∧ lB l0 k a b c (4 * k + 3) = c ∧ ∀ j, (j < 4 * k ∨ 4 * k + 4 ≤ j) → lB l0 k a b c j = l0 j := by
  unfold lB
  refine ⟨?_, ?_, ?_, ?_, fun j hj => ?_⟩
  · rw [fu_n (by omega), fu_n (by omega), fu_n (by omega), fu_s]
  · rw [fu_n (by omega), fu_n (by omega), fu_s]
  · rw [fu_n (by omega), fu_s]
  · rw [fu_s]
  · rw [fu_n (by omega), fu_n (by omega), fu_n (by omega), fu_n (by omega)]
/-- a level more -/
theorem PK.op (hP : PK m L W q g l0 u v n w p r) (hE : ∀ i, i < L → EB m n i) (hL : L < 5) (hm2 : (m 0 0 2).toNat = L) (hz : m 8 0 L = 0 ∧ m 11 0 L = 0) {au st pa : Int} {f : Nat → Int} (hg1 : ∀ z, z < 96 → gk g' (6 * L) z = f z) (hg2 : ∀ i, i < 10 → i ≠ L → ∀ z, z < 96 → gk g' (6 * i) z = gk g (6 * i) z) : PK (opN (cu m 4 0 (rowG (m 4 0) (96 * (m 0 0 2).toNat) f 96)) au st pa) (L + 1) W (fu q 0 ((L + 1 : Nat) : Int)) g' (lB l0 L au st pa) u v n w p r := by
  obtain ⟨p1, p2, p3, p4, p5, p6, p7⟩ := hP
  obtain ⟨b0, b1, b2, b3, bo⟩ := lB_v (l0 := l0) (k := L) (a := au) (b := st) (c := pa)
  obtain ⟨mm, hmm⟩ : ∃ mm : CS, mm = opN (cu m 4 0 (rowG (m 4 0) (96 * (m 0 0 2).toNat) f 96)) au st pa := ⟨_, rfl⟩
  rw [← hmm]
  have e3 : mm 3 0 = fu (m 3 0) (m 0 0 2).toNat au := by rw [hmm]; rfl
  have e4 : mm 4 0 = rowG (m 4 0) (96 * (m 0 0 2).toNat) f 96 := by rw [hmm]; rfl
  have e5 : mm 5 0 = fu (m 5 0) (m 0 0 2).toNat st := by rw [hmm]; rfl
  have e6 : mm 6 0 = fu (m 6 0) (m 0 0 2).toNat (-2) := by rw [hmm]; rfl
  have e7 : mm 7 0 = fu (m 7 0) (m 0 0 2).toNat pa := by rw [hmm]; rfl
  rw [hm2] at e3 e4 e5 e6 e7
  have eo : ∀ a, a ≠ 0 → a ≠ 3 → a ≠ 4 → a ≠ 5 → a ≠ 6 → a ≠ 7 → mm a 0 = m a 0 := fun a h1 h2 h3 h4 h5 h6 => by
    rw [hmm]
    exact (cu_n (by omega)).trans ((cu_n (by omega)).trans ((cu_n (by omega)).trans ((cu_n (by omega)).trans ((cu_n (by omega)).trans (cu_n (by omega))))))
  have e8 : mm 8 0 = m 8 0 := eo 8 (by decide) (by decide) (by decide) (by decide) (by decide) (by decide)
  have e11 : mm 11 0 = m 11 0 := eo 11 (by decide) (by decide) (by decide) (by decide) (by decide) (by decide)
  refine ⟨⟨by omega, p1.2.1, by rw [fu_s], by rw [fu_n (by decide)]; exact p1.2.2.2⟩, fun s hs => by rw [fu_n (by omega), eo 1 (by decide) (by decide) (by decide) (by decide) (by decide) (by decide)]; exact p2 s hs, fun i hi => ?_, fun i hi hi5 => ?_, fun i hi => (p5 i hi).c (fun _ _ _ => rfl) (fun _ _ _ => rfl) (fun z hz9 => by rw [show 30 + 6 * i = 6 * (5 + i) by omega]; exact hg2 (5 + i) (by omega) (by omega) z hz9) ⟨by rw [eo 15] <;> decide, by rw [eo 17] <;> decide, by rw [eo 18] <;> decide, by rw [eo 19] <;> decide, by rw [eo 20] <;> decide⟩ (fun _ _ => by rw [eo 16] <;> decide) (fun _ _ => by rw [eo 21] <;> decide), p6, fun x hx => (p7 x hx).e (fun j hj => eo j (by omega) (by omega) (by omega) (by omega) (by omega) (by omega))⟩
  · by_cases e : i = L
    · subst e
      obtain ⟨a1, a2, a3⟩ := p4 i (Nat.le_refl _) hL
      refine ⟨by rw [b0, e3, fu_s], by rw [b1, e5, fu_s], by rw [b2, e6, fu_s], by rw [b3, e7, fu_s], fun z hz9 => ?_, by rw [a1, e8, hz.1], by rw [a2, e11, hz.2], by omega, fun j hj => (by omega), fun j hj => (by omega)⟩
      rw [hg1 z hz9, e4, rowG_v hz9]
    · have hEi := (hE i (by omega)).1
      refine (p3 i (by omega)).c (fun a h1 h2 => bo a (by omega)) ⟨rfl, rfl⟩ (fun z hz9 => hg2 i (by omega) e z hz9) (fun _ _ _ => rfl) (fun _ _ _ => rfl) ⟨by rw [e3]; exact fu_n e, by rw [e5]; exact fu_n e, by rw [e6]; exact fu_n e, by rw [e7]; exact fu_n e, by rw [e8], by rw [e11]⟩ (fun z hz9 => by rw [e4]; unfold rowG; rw [if_neg (by omega)]) (fun j hj => ⟨by rw [eo 9] <;> decide, by rw [eo 10] <;> decide, by rw [eo 12] <;> decide, by rw [eo 13] <;> decide⟩) ⟨hEi.1, hEi.2.1⟩
  · obtain ⟨a1, a2, a3⟩ := p4 i (by omega) hi5
    exact ⟨a1, a2, fun z hz9 => by rw [hg2 i (by omega) (by omega) z hz9]; exact a3 z hz9⟩
theorem EX.op (h : EX m) {au st pa : Int} {F : Nat → Int} : EX (opN (cu m 4 0 F) au st pa) := h.o fun j hj => (cu_n (by omega)).trans ((cu_n (by omega)).trans ((cu_n (by omega)).trans ((cu_n (by omega)).trans ((cu_n (by omega)).trans (cu_n (by omega))))))
/-- a work more -/
theorem PK.of (hP : PK m L W q g l0 u v n w p r) (hE : ∀ i, i < L → EB m n i) (hW : W < 5) (hm2 : (m 0 0 14).toNat = W) (hz : ∀ j, 6 * W ≤ j → m 21 0 j = 0) {k : Nat} (hk : k < L) (hg1 : ∀ z, z < 96 → gk g' (30 + 6 * W) z = gk g (6 * k) z) (hg2 : ∀ i, i < 10 → i ≠ 5 + W → ∀ z, z < 96 → gk g' (6 * i) z = gk g (6 * i) z) (hw : w' (5 * W) = l0 (4 * k) ∧ w' (5 * W + 1) = l0 (4 * k + 1) ∧ w' (5 * W + 2) = l0 (4 * k + 2) ∧ w' (5 * W + 3) = l0 (4 * k + 3) ∧ w' (5 * W + 4) = -1 ∧ ∀ j, j < 5 * W → w' j = w j) : PK (ofN m k) L (W + 1) (fu q 1 ((W + 1 : Nat) : Int)) g' l0 u v n w' p r := by
  obtain ⟨p1, p2, p3, p4, p5, p6, p7⟩ := hP
  obtain ⟨mm, hmm⟩ : ∃ mm : CS, mm = ofN m k := ⟨_, rfl⟩
  rw [← hmm]
  have e16 : mm 16 0 = rowG (m 16 0) (96 * (m 0 0 14).toNat) (fun j => m 4 0 (96 * k + j)) 96 := by rw [hmm]; rfl
  have e15 : mm 15 0 = fu (m 15 0) (m 0 0 14).toNat (m 3 0 k) := by rw [hmm]; rfl
  have e17 : mm 17 0 = fu (m 17 0) (m 0 0 14).toNat (m 5 0 k) := by rw [hmm]; rfl
  have e18 : mm 18 0 = fu (m 18 0) (m 0 0 14).toNat (m 6 0 k) := by rw [hmm]; rfl
  have e19 : mm 19 0 = fu (m 19 0) (m 0 0 14).toNat (m 7 0 k) := by rw [hmm]; rfl
  have e20 : mm 20 0 = fu (m 20 0) (m 0 0 14).toNat (-1) := by rw [hmm]; rfl
  rw [hm2] at e15 e16 e17 e18 e19 e20
  have eo : ∀ a, a ≠ 0 → (a < 15 ∨ 21 ≤ a) → mm a 0 = m a 0 := fun a h1 h2 => by
    rw [hmm]
    exact (cu_n (by omega)).trans ((cu_n (by omega)).trans ((cu_n (by omega)).trans ((cu_n (by omega)).trans ((cu_n (by omega)).trans ((cu_n (by omega)).trans (cu_n (by omega)))))))
  refine ⟨⟨p1.1, by omega, by rw [fu_n (by decide)]; exact p1.2.2.1, by rw [fu_s]⟩, fun s hs => by rw [fu_n (by omega), eo 1 (by decide) (by decide)]; exact p2 s hs, fun i hi => ?_, fun i hi hi5 => ?_, fun i hi => ?_, fun i hi hi5 => p6 i (by omega) hi5, fun x hx => (p7 x hx).e (fun j hj => eo j (by omega) (by omega))⟩
  · have hEi := (hE i hi).1
    exact (p3 i hi).c (fun _ _ _ => rfl) ⟨rfl, rfl⟩ (fun z hz9 => hg2 i (by omega) (by omega) z hz9) (fun _ _ _ => rfl) (fun _ _ _ => rfl) ⟨by rw [eo 3] <;> decide, by rw [eo 5] <;> decide, by rw [eo 6] <;> decide, by rw [eo 7] <;> decide, by rw [eo 8] <;> decide, by rw [eo 11] <;> decide⟩ (fun _ _ => by rw [eo 4] <;> decide) (fun j hj => ⟨by rw [eo 9] <;> decide, by rw [eo 10] <;> decide, by rw [eo 12] <;> decide, by rw [eo 13] <;> decide⟩) ⟨hEi.1, hEi.2.1⟩
  · obtain ⟨a1, a2, a3⟩ := p4 i hi hi5
    exact ⟨a1, a2, fun z hz9 => by rw [hg2 i (by omega) (by omega) z hz9]; exact a3 z hz9⟩
  · by_cases e : i = W
    · subst e
      obtain ⟨k1, k2, k3, k4, k5, _⟩ := p3 k hk
      refine ⟨by rw [hw.1, k1, e15, fu_s], by rw [hw.2.1, k2, e17, fu_s], by rw [hw.2.2.1, k3, e18, fu_s], by rw [hw.2.2.2.1, k4, e19, fu_s], by rw [hw.2.2.2.2.1, e20, fu_s], fun z hz9 => ?_, fun x hx => ?_, fun x h1 h2 => ?_⟩
      · rw [hg1 z hz9, e16, rowG_v hz9]; exact k5 z hz9
      · rw [eo 21 (by decide) (by decide), hz _ (by omega)]; exact p6 i (Nat.le_refl _) hW x hx
      · rw [eo 21 (by decide) (by decide)]; exact hz _ (by omega)
    · exact (p5 i (by omega)).c (fun a h1 h2 => hw.2.2.2.2.2 a (by omega)) (fun _ _ _ => rfl) (fun z hz9 => by rw [show 30 + 6 * i = 6 * (5 + i) by omega]; exact hg2 (5 + i) (by omega) (by omega) z hz9) ⟨by rw [e15]; exact fu_n e, by rw [e17]; exact fu_n e, by rw [e18]; exact fu_n e, by rw [e19]; exact fu_n e, by rw [e20]; exact fu_n e⟩ (fun z hz9 => by rw [e16]; unfold rowG; rw [if_neg (by omega)]) (fun _ _ => by rw [eo 21] <;> decide)
theorem rwM_c {F G : Nat → Int} {b : Nat} (h : ∀ z, z < 96 → F (b + z) = G (b + z)) : rwM F b = rwM G b := by
  funext z
  unfold rwM
  by_cases q : z < 96
  · rw [if_pos q, if_pos q, h z q]
  · rw [if_neg q, if_neg q]
theorem EX.of (h : EX m) (hm2 : (m 0 0 14).toNat = W) (hr : ∀ x, x < 3 → m 22 0 x = 1 → 0 ≤ m 23 0 x ∧ m 23 0 x < (W : Int)) {k : Nat} : EX (ofN m k) := by
  obtain ⟨h1, h2, h3⟩ := h
  refine ⟨h1, h2, fun x hx hs => ?_⟩
  have hs9 : m 22 0 x = 1 := hs
  have hx9 := hr x hx hs9
  obtain ⟨a1, a2⟩ := h3 x hx hs9
  refine ⟨?_, ?_⟩
  · show 0 ≤ fu (m 18 0) (m 0 0 14).toNat (m 6 0 k) (m 23 0 x).toNat
    rw [fu_n (by omega)]; exact a1
  · show (m 26 0 x).toNat ||| kbr (rwM (rowG (m 16 0) (96 * (m 0 0 14).toNat) (fun j => m 4 0 (96 * k + j)) 96) (96 * (m 23 0 x).toNat)) (fun _ => 0) (m 24 0 x) = (m 26 0 x).toNat
    rw [rwM_c (G := m 16 0) (fun z hz => by unfold rowG; rw [if_neg (by omega)])]
    exact a2
/-- stars -/
theorem PK.sr (hP : PK m L W q g l0 u v n w p r) (hE : ∀ i, i < L → EB m n i) {k x : Nat} {s : Int} (hk : k < W) (hx : x < 3) : PK (cu m 21 0 (fu (m 21 0) (6 * k + x) s)) L W q g l0 u v n w (fu p (3 * k + x) s) r := by
  obtain ⟨p1, p2, p3, p4, p5, p6, p7⟩ := hP
  refine ⟨p1, p2, fun i hi => ?_, p4, fun i hi => ?_, fun i hi hi5 y hy => by rw [fu_n (by omega)]; exact p6 i hi hi5 y hy, p7⟩
  · have hEi := (hE i hi).1
    exact (p3 i hi).c (fun _ _ _ => rfl) ⟨rfl, rfl⟩ (fun _ _ => rfl) (fun _ _ _ => rfl) (fun _ _ _ => rfl) ⟨rfl, rfl, rfl, rfl, rfl, rfl⟩ (fun _ _ => rfl) (fun _ _ => ⟨rfl, rfl, rfl, rfl⟩) ⟨hEi.1, hEi.2.1⟩
  · obtain ⟨k1, k2, k3, k4, k5, k6, k7, k8⟩ := p5 i hi
    refine ⟨k1, k2, k3, k4, k5, k6, fun y hy => ?_, fun y h1 h2 => ?_⟩
    · show _ = fu (m 21 0) (6 * k + x) s (6 * i + y)
      by_cases e : i = k ∧ y = x
      · obtain ⟨rfl, rfl⟩ := e; rw [fu_s, fu_s]
      · rw [fu_n (by omega), fu_n (by omega)]; exact k7 y hy
    · show fu (m 21 0) (6 * k + x) s (6 * i + y) = 0
      rw [fu_n (by omega)]; exact k8 y h1 h2
/-- a run: whose work it is, how many steps it has -/
theorem PK.rr (hP : PK m L W q g l0 u v n w p r) {y : Nat} {k s : Int} (hy : y < 3) (h1 : r' (6 * y + 1) = k ∧ r' (6 * y + 5) = s) (h2 : ∀ j, j ≠ 6 * y + 1 → j ≠ 6 * y + 5 → r' j = r j) (hE : ∀ i, i < L → EB m n i) : PK (cu (cu m 23 0 (fu (m 23 0) y k)) 27 0 (fu (m 27 0) y s)) L W q g l0 u v n w p r' := by
  obtain ⟨p1, p2, p3, p4, p5, p6, p7⟩ := hP
  refine ⟨p1, p2, fun i hi => (p3 i hi).c (fun _ _ _ => rfl) ⟨rfl, rfl⟩ (fun _ _ => rfl) (fun _ _ _ => rfl) (fun _ _ _ => rfl) ⟨rfl, rfl, rfl, rfl, rfl, rfl⟩ (fun _ _ => rfl) (fun _ _ => ⟨rfl, rfl, rfl, rfl⟩) ⟨(hE i hi).1.1, (hE i hi).1.2.1⟩, p4, fun i hi => (p5 i hi).c (fun _ _ _ => rfl) (fun _ _ _ => rfl) (fun _ _ => rfl) ⟨rfl, rfl, rfl, rfl, rfl⟩ (fun _ _ => rfl) (fun _ _ => rfl), p6, fun x hx => ?_⟩
  obtain ⟨b1, b2, b3, b4, b5, b6⟩ := p7 x hx
  refine ⟨by rw [h2 _ (by omega) (by omega)]; exact b1, ?_, by rw [h2 _ (by omega) (by omega)]; exact b3, by rw [h2 _ (by omega) (by omega)]; exact b4, by rw [h2 _ (by omega) (by omega)]; exact b5, ?_⟩
  · show r' (6 * x + 1) = fu (m 23 0) y k x
    by_cases e : x = y
    · subst e; rw [fu_s]; exact h1.1
    · rw [fu_n e, h2 _ (by omega) (by omega)]; exact b2
  · show r' (6 * x + 5) = fu (m 27 0) y s x
    by_cases e : x = y
    · subst e; rw [fu_s]; exact h1.2
    · rw [fu_n e, h2 _ (by omega) (by omega)]; exact b6
theorem rL_o {r : Nat → Int} {y j : Nat} {x : B4} (h : ¬ (6 * y ≤ j ∧ j < 6 * y + 6)) : rL r y x j = r j := by
  unfold rL
  rw [fu_n (by omega), fu_n (by omega), fu_n (by omega), fu_n (by omega)]
/-- a run: what the body is -/
theorem PK.kp (hP : PK m L W q g l0 u v n w p r) (hE : ∀ i, i < L → EB m n i) {y k : Nat} {x : B4} (hy : y < 3) (hk : k < W) (hrec : -1 ≤ m 20 0 k) : PK (kpX m y k x) L W q g l0 u v n (wL w k x.2.2.2 (r (6 * y + 5))) p (rL r y x) := by
  obtain ⟨p1, p2, p3, p4, p5, p6, p7⟩ := hP
  obtain ⟨mm, hmm⟩ : ∃ mm : CS, mm = kpX m y k x := ⟨_, rfl⟩
  rw [← hmm]
  have e24 : mm 24 0 = fu (m 24 0) y x.1 := by rw [hmm]; rfl
  have e25 : mm 25 0 = fu (m 25 0) y x.2.1 := by rw [hmm]; rfl
  have e26 : mm 26 0 = fu (m 26 0) y ((x.2.2.1 : Nat) : Int) := by rw [hmm]; rfl
  have e22 : mm 22 0 = fu (m 22 0) y x.2.2.2 := by rw [hmm]; rfl
  have e20 : mm 20 0 = if x.2.2.2 = 2 ∧ (m 20 0 k = -1 ∨ m 27 0 y < m 20 0 k) then fu (m 20 0) k (m 27 0 y) else m 20 0 := by rw [hmm]; rfl
  have eo : ∀ a, a ≠ 24 → a ≠ 25 → a ≠ 26 → a ≠ 22 → a ≠ 20 → mm a 0 = m a 0 := fun a h1 h2 h3 h4 h5 => by
    rw [hmm]
    exact (cu_n (by omega)).trans ((cu_n (by omega)).trans ((cu_n (by omega)).trans ((cu_n (by omega)).trans (cu_n (by omega)))))
  have r6 := (p7 y hy).2.2.2.2.2
  refine ⟨p1, fun s hs => by rw [eo 1 (by decide) (by decide) (by decide) (by decide) (by decide)]; exact p2 s hs, fun i hi => (p3 i hi).c (fun _ _ _ => rfl) ⟨rfl, rfl⟩ (fun _ _ => rfl) (fun _ _ _ => rfl) (fun _ _ _ => rfl) ⟨by rw [eo 3] <;> decide, by rw [eo 5] <;> decide, by rw [eo 6] <;> decide, by rw [eo 7] <;> decide, by rw [eo 8] <;> decide, by rw [eo 11] <;> decide⟩ (fun _ _ => by rw [eo 4] <;> decide) (fun j hj => ⟨by rw [eo 9] <;> decide, by rw [eo 10] <;> decide, by rw [eo 12] <;> decide, by rw [eo 13] <;> decide⟩) ⟨(hE i hi).1.1, (hE i hi).1.2.1⟩, p4, fun i hi => ?_, p6, fun z hz => ?_⟩
  · obtain ⟨k1, k2, k3, k4, k5, k6, k7, k8⟩ := p5 i hi
    have ew : ∀ j, j ≠ 5 * k + 4 → wL w k x.2.2.2 (r (6 * y + 5)) j = w j := fun j hj => fu_n hj
    unfold PKW
    rw [eo 15 (by decide) (by decide) (by decide) (by decide) (by decide), eo 17 (by decide) (by decide) (by decide) (by decide) (by decide), eo 18 (by decide) (by decide) (by decide) (by decide) (by decide), eo 19 (by decide) (by decide) (by decide) (by decide) (by decide), eo 16 (by decide) (by decide) (by decide) (by decide) (by decide), eo 21 (by decide) (by decide) (by decide) (by decide) (by decide), ew _ (by omega), ew _ (by omega), ew _ (by omega), ew _ (by omega)]
    refine ⟨k1, k2, k3, k4, ?_, k6, k7, k8⟩
    by_cases e : i = k
    · subst e
      show fu w (5 * i + 4) _ (5 * i + 4) = _
      rw [fu_s, e20, k5, r6]
      by_cases q9 : x.2.2.2 = 2 ∧ (m 20 0 i < 0 ∨ m 27 0 y < m 20 0 i)
      · rw [if_pos q9, if_pos ⟨q9.1, by omega⟩, fu_s]
      · rw [if_neg q9, if_neg (fun z9 => q9 ⟨z9.1, by omega⟩)]
    · rw [ew _ (by omega), k5, e20]
      split
      · rw [fu_n e]
      · rfl
  · obtain ⟨b1, b2, b3, b4, b5, b6⟩ := p7 z hz
    unfold PKP
    rw [e22, e24, e25, e26, eo 23 (by decide) (by decide) (by decide) (by decide) (by decide), eo 27 (by decide) (by decide) (by decide) (by decide) (by decide)]
    by_cases e : z = y
    · subst e
      obtain ⟨v1, v2, v3, v4, v5, v6⟩ := rL_v (r := r) (p := z) (x := x)
      rw [v1, v2, v3, v4, v5, v6, fu_s, fu_s, fu_s, fu_s]
      exact ⟨rfl, b2, rfl, rfl, rfl, b6⟩
    · rw [rL_o (by omega), rL_o (by omega), rL_o (by omega), rL_o (by omega), rL_o (by omega), rL_o (by omega), fu_n e, fu_n e, fu_n e, fu_n e]
      exact ⟨b1, b2, b3, b4, b5, b6⟩
/-- the run that is laid has the keys where it is -/
theorem EX.kp (h : EX m) {y k : Nat} {x : B4} {s : Int} (hk : 0 ≤ m 18 0 k) (hg : x.2.2.1 ||| kbr (rwM (m 16 0) (96 * k)) (fun _ => 0) x.1 = x.2.2.1) : EX (kpX (cu (cu m 23 0 (fu (m 23 0) y ((k : Nat) : Int))) 27 0 (fu (m 27 0) y s)) y k x) := by
  obtain ⟨h1, h2, h3⟩ := h
  refine ⟨h1, h2, fun z hz hs => ?_⟩
  have hs9 : fu (m 22 0) y x.2.2.2 z = 1 := hs
  show 0 ≤ m 18 0 (fu (m 23 0) y ((k : Nat) : Int) z).toNat ∧ (fu (m 26 0) y ((x.2.2.1 : Nat) : Int) z).toNat ||| kbr (rwM (m 16 0) (96 * (fu (m 23 0) y ((k : Nat) : Int) z).toNat)) (fun _ => 0) (fu (m 24 0) y x.1 z) = (fu (m 26 0) y ((x.2.2.1 : Nat) : Int) z).toNat
  by_cases e : z = y
  · subst e
    rw [fu_s, fu_s, fu_s, Int.toNat_natCast, Int.toNat_natCast]
    exact ⟨hk, hg⟩
  · rw [fu_n e] at hs9
    rw [fu_n e, fu_n e, fu_n e]
    exact h3 z hz hs9
theorem rnM_e {m : CS} {p w : Nat} {x : B4} {s : Int} : rnM m p w x s = kpX (cu (cu m 23 0 (fu (m 23 0) p ((w : Nat) : Int))) 27 0 (fu (m 27 0) p s)) p w x := rfl
end PKQ

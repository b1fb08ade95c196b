/-! ===== how the arrays follow the numbers ===== -/
section PKO
variable {m m' : CS} {L W : Nat} {q : Nat → Int} {g g' : Nat → Int64} {l0 l1 u u' v v' n n' w w' p p' r r' : Nat → Int}
theorem PKL.c {i : Nat} (h : PKL m g l0 u v n i) (el : ∀ a, 4 * i ≤ a → a < 4 * i + 4 → l1 a = l0 a) (en : n' i = n i ∧ n' (5 + i) = n (5 + i)) (eg : ∀ z, z < 96 → gk g' (6 * i) z = gk g (6 * i) z) (eu : ∀ j, 12 * i ≤ j → j < 12 * i + 12 → u' j = u j) (ev : ∀ j, 12 * i ≤ j → j < 12 * i + 12 → v' j = v j) (em : m' 3 0 i = m 3 0 i ∧ m' 5 0 i = m 5 0 i ∧ m' 6 0 i = m 6 0 i ∧ m' 7 0 i = m 7 0 i ∧ m' 8 0 i = m 8 0 i ∧ m' 11 0 i = m 11 0 i) (e4 : ∀ z, z < 96 → m' 4 0 (96 * i + z) = m 4 0 (96 * i + z))
    (e9 : ∀ j, j < 12 → m' 9 0 (40 * i + j) = m 9 0 (40 * i + j) ∧ m' 10 0 (40 * i + j) = m 10 0 (40 * i + j) ∧ m' 12 0 (40 * i + j) = m 12 0 (40 * i + j) ∧ m' 13 0 (40 * i + j) = m 13 0 (40 * i + j)) (h0 : 0 ≤ n i ∧ 0 ≤ n (5 + i)) : PKL m' g' l1 u' v' n' i := by
  obtain ⟨k1, k2, k3, k4, k5, k6, k7, k8, k9, k10⟩ := h
  obtain ⟨f1, f2, f3, f4, f5, f6⟩ := em
  refine ⟨by rw [el _ (by omega) (by omega), f1]; exact k1, by rw [el _ (by omega) (by omega), f2]; exact k2, by rw [el _ (by omega) (by omega), f3]; exact k3, by rw [el _ (by omega) (by omega), f4]; exact k4, fun z hz => by rw [eg z hz, e4 z hz]; exact k5 z hz, by rw [en.1, f5]; exact k6, by rw [en.2, f6]; exact k7, by rw [en.1, en.2]; exact k8, fun j hj => ?_, fun j hj => ?_⟩
  · rw [en.1] at hj
    obtain ⟨d1, d2, d3, d4⟩ := e9 j (by omega)
    rw [eu _ (by omega) (by omega), d1, d2]; exact k9 j hj
  · rw [en.2] at hj
    obtain ⟨d1, d2, d3, d4⟩ := e9 j (by omega)
    rw [ev _ (by omega) (by omega), d3, d4]; exact k10 j hj
theorem PKW.c {i : Nat} (h : PKW m g w p i) (ew : ∀ a, 5 * i ≤ a → a < 5 * i + 5 → w' a = w a) (ep : ∀ a, 3 * i ≤ a → a < 3 * i + 3 → p' a = p a) (eg : ∀ z, z < 96 → gk g' (30 + 6 * i) z = gk g (30 + 6 * i) z) (em : m' 15 0 i = m 15 0 i ∧ m' 17 0 i = m 17 0 i ∧ m' 18 0 i = m 18 0 i ∧ m' 19 0 i = m 19 0 i ∧ m' 20 0 i = m 20 0 i) (e16 : ∀ z, z < 96 → m' 16 0 (96 * i + z) = m 16 0 (96 * i + z)) (e21 : ∀ x, x < 6 → m' 21 0 (6 * i + x) = m 21 0 (6 * i + x)) : PKW m' g' w' p' i := by
  obtain ⟨k1, k2, k3, k4, k5, k6, k7, k8⟩ := h
  obtain ⟨f1, f2, f3, f4, f5⟩ := em
  exact ⟨by rw [ew _ (by omega) (by omega), f1]; exact k1, by rw [ew _ (by omega) (by omega), f2]; exact k2, by rw [ew _ (by omega) (by omega), f3]; exact k3, by rw [ew _ (by omega) (by omega), f4]; exact k4, by rw [ew _ (by omega) (by omega), f5]; exact k5, fun z hz => by rw [eg z hz, e16 z hz]; exact k6 z hz, fun x hx => by rw [ep _ (by omega) (by omega), e21 x (by omega)]; exact k7 x hx, fun x h1 h2 => by rw [e21 x h2]; exact k8 x h1 h2⟩
/-- the edits as they are packed: small numbers -/
def EB (m : CS) (n : Nat → Int) (k : Nat) : Prop := (0 ≤ n k ∧ 0 ≤ n (5 + k) ∧ n k + n (5 + k) ≤ 12) ∧ (∀ j : Nat, (j : Int) < n k → (0 ≤ m 9 0 (40 * k + j) ∧ m 9 0 (40 * k + j) ≤ 95) ∧ (0 ≤ m 10 0 (40 * k + j) ∧ m 10 0 (40 * k + j) ≤ 88)) ∧ ∀ j : Nat, (j : Int) < n (5 + k) → (0 ≤ m 12 0 (40 * k + j) ∧ m 12 0 (40 * k + j) ≤ 95) ∧ (0 ≤ m 13 0 (40 * k + j) ∧ m 13 0 (40 * k + j) ≤ 88)
theorem Sy.eb {D : va_G} {x : Nat} {ar : Nat → Nat} {t : Nat} {h : vh} (hS : Sy D x ar m L W t h) (hP : PK m L W q g l0 u v n w p r) : ∀ i, i < L → EB m n i := fun i hi => by
  obtain ⟨h1, h2, h3⟩ := hS.eds hP hi
  exact ⟨h1, fun j hj => ⟨(h2 j hj).1, (h2 j hj).2.1⟩, fun j hj => ⟨(h3 j hj).1, (h3 j hj).2.1⟩⟩
theorem rmF_lo {F : Nat → Int} {b d : Nat} {x : Int} (h : d < 40) : rmF F b d x = fu F (b + d) x := by
  unfold rmF hd40
  rw [if_pos h, if_pos h]
/-- an edit -/
theorem PK.ed (hP : PK m L W q g l0 u v n w p r) (hE : ∀ i, i < L → EB m n i) {k z kd : Nat} (hk : k < L) (hz : z < 96) (hkd : kd ≤ 8) (hn : n k < 12) : PK (edM m k (96 * k + z) (z : Int) (kd : Int) (m 4 0 (96 * k + z))) L W q (gput g (6 * k) z kd) (fu l0 (4 * k + 2) (-2)) (fu u (12 * k + (n k).toNat) (100 * (z : Int) + 10 * m 4 0 (96 * k + z) + (kd : Int))) v (fu (fu n k (n k + 1)) (5 + k) 0) w p r := by
  obtain ⟨p1, p2, p3, p4, p5, p6, p7⟩ := hP
  have hEk := (hE k hk).1
  have k6 := (p3 k hk).2.2.2.2.2.1
  have hd : (m 8 0 k).toNat < 40 := by omega
  refine ⟨p1, p2, fun i hi => ?_, fun i hi hi5 => ?_, fun i hi => (p5 i hi).c (fun _ _ _ => rfl) (fun _ _ _ => rfl) (fun z' hz' => gk_gputW (by omega) hz hz' (by omega)) ⟨rfl, rfl, rfl, rfl, rfl⟩ (fun _ _ => rfl) (fun _ _ => rfl), p6, p7⟩
  · have e4 : (edM m k (96 * k + z) (z : Int) (kd : Int) (m 4 0 (96 * k + z))) 4 0 = fu (m 4 0) (96 * k + z) (kd : Int) := rfl
    have e8 : (edM m k (96 * k + z) (z : Int) (kd : Int) (m 4 0 (96 * k + z))) 8 0 = fu (m 8 0) k ((hd40 (m 8 0 k).toNat + 1 : Nat) : Int) := rfl
    have e9 : (edM m k (96 * k + z) (z : Int) (kd : Int) (m 4 0 (96 * k + z))) 9 0 = rmF (m 9 0) (40 * k) (m 8 0 k).toNat (z : Int) := rfl
    have e10 : (edM m k (96 * k + z) (z : Int) (kd : Int) (m 4 0 (96 * k + z))) 10 0 = rmF (m 10 0) (40 * k) (m 8 0 k).toNat (10 * m 4 0 (96 * k + z) + (kd : Int)) := rfl
    have e11 : (edM m k (96 * k + z) (z : Int) (kd : Int) (m 4 0 (96 * k + z))) 11 0 = fu (m 11 0) k 0 := rfl
    have e6 : (edM m k (96 * k + z) (z : Int) (kd : Int) (m 4 0 (96 * k + z))) 6 0 = fu (m 6 0) k (-2) := rfl
    rw [rmF_lo hd] at e9 e10
    by_cases e : i = k
    · subst e
      obtain ⟨k1, k2, k3, k4, k5, _, k7, k8, k9, k10⟩ := p3 i hk
      have hd0 : hd40 (m 8 0 i).toNat = (m 8 0 i).toNat := if_pos hd
      refine ⟨by rw [fu_n (by omega)]; exact k1, by rw [fu_n (by omega)]; exact k2, by rw [fu_s, e6, fu_s], by rw [fu_n (by omega)]; exact k4, fun z' hz' => ?_, ?_, ?_, ?_, fun j hj => ?_, fun j hj => ?_⟩
      · rw [gk_gput hz hz' (by omega), e4]
        by_cases q9 : z' = z
        · rw [if_pos ⟨rfl, q9⟩, q9, fu_s]
        · rw [if_neg (by omega), fu_n (by omega)]; exact k5 z' hz'
      · rw [fu_n (by omega), fu_s, e8, fu_s, hd0]; omega
      · rw [fu_s, e11, fu_s]
      · rw [fu_n (by omega), fu_s, fu_s]; omega
      · rw [fu_n (by omega), fu_s] at hj
        rw [e9, e10]
        by_cases q9 : j = (n i).toNat
        · rw [q9, fu_s, show 40 * i + (n i).toNat = 40 * i + (m 8 0 i).toNat by omega, fu_s, fu_s]; omega
        · rw [fu_n (by omega), fu_n (by omega), fu_n (by omega)]; exact k9 j (by omega)
      · rw [fu_s] at hj; omega
    · have hEi := (hE i hi).1
      refine (p3 i hi).c (fun a _ _ => fu_n (by omega)) ⟨by rw [fu_n (by omega), fu_n (by omega)], by rw [fu_n (by omega), fu_n (by omega)]⟩ (fun z' hz' => ?_) (fun j _ _ => fu_n (by omega)) (fun _ _ _ => rfl) ⟨rfl, rfl, by rw [e6]; exact fu_n e, rfl, by rw [e8]; exact fu_n e, by rw [e11]; exact fu_n e⟩ (fun z' hz' => by rw [e4]; exact fu_n (by omega)) (fun j hj => ⟨by rw [e9]; exact fu_n (by omega), by rw [e10]; exact fu_n (by omega), rfl, rfl⟩) ⟨hEi.1, hEi.2.1⟩
      rw [gk_gput hz hz' (by omega), if_neg (by omega)]
  · obtain ⟨a1, a2, a3⟩ := p4 i hi hi5
    refine ⟨by rw [fu_n (by omega), fu_n (by omega)]; exact a1, by rw [fu_n (by omega), fu_n (by omega)]; exact a2, fun z' hz' => ?_⟩
    rw [gk_gput hz hz' (by omega), if_neg (by omega)]; exact a3 z' hz'
/-- undone -/
theorem PK.un (hP : PK m L W q g l0 u v n w p r) (hE : ∀ i, i < L → EB m n i) {k d s : Nat} (hk : k < L) (hd : n k = ((d + 1 : Nat) : Int)) (hs : n (5 + k) = ((s : Nat) : Int)) : PK (unM m k (40 * k + d) (40 * k + s) (96 * k + (m 9 0 (40 * k + d)).toNat) 0 (m 10 0 (40 * k + d) / 10)) L W q (gput g (6 * k) (m 9 0 (40 * k + d)).toNat (m 10 0 (40 * k + d) / 10).toNat) (fu l0 (4 * k + 2) (-2)) u (fu v (12 * k + s) (u (12 * k + d))) (fu (fu n k ((d : Nat) : Int)) (5 + k) ((s + 1 : Nat) : Int)) w p r := by
  obtain ⟨p1, p2, p3, p4, p5, p6, p7⟩ := hP
  obtain ⟨c1, c2, c3⟩ := hE k hk
  have hz := c2 d (by omega)
  have hz9 : (m 9 0 (40 * k + d)).toNat < 96 := by omega
  have hk9 : (m 10 0 (40 * k + d) / 10).toNat < 16 := by omega
  have hk8 : (((m 10 0 (40 * k + d) / 10).toNat : Nat) : Int) = m 10 0 (40 * k + d) / 10 := by omega
  obtain ⟨mm, hmm⟩ : ∃ mm : CS, mm = unM m k (40 * k + d) (40 * k + s) (96 * k + (m 9 0 (40 * k + d)).toNat) 0 (m 10 0 (40 * k + d) / 10) := ⟨_, rfl⟩
  rw [← hmm]
  have e4 : mm 4 0 = fu (m 4 0) (96 * k + (m 9 0 (40 * k + d)).toNat) (m 10 0 (40 * k + d) / 10) := by rw [hmm]; rfl
  have e8 : mm 8 0 = fu (m 8 0) k (m 8 0 k - 1) := by rw [hmm]; rfl
  have e11 : mm 11 0 = fu (m 11 0) k (m 11 0 k + 1) := by rw [hmm]; rfl
  have e12 : mm 12 0 = fu (m 12 0) (40 * k + s) (m 9 0 (40 * k + d)) := by rw [hmm]; rfl
  have e13 : mm 13 0 = fu (m 13 0) (40 * k + s) (m 10 0 (40 * k + d)) := by rw [hmm]; rfl
  have e6 : mm 6 0 = fu (m 6 0) k (-2) := by rw [hmm]; rfl
  have eo : ∀ a, a ≠ 4 → a ≠ 8 → a ≠ 11 → a ≠ 12 → a ≠ 13 → a ≠ 6 → mm a 0 = m a 0 := fun a h1 h2 h3 h4 h5 h6 => by
    rw [hmm]
    exact (cu_n (by omega)).trans ((cu_n (by omega)).trans ((cu_n (by omega)).trans ((cu_n (by omega)).trans ((cu_n (by omega)).trans (cu_n (by omega))))))
  refine ⟨p1, fun s hs => by rw [eo 1 (by decide) (by decide) (by decide) (by decide) (by decide) (by decide)]; exact p2 s hs, fun i hi => ?_, fun i hi hi5 => ?_, fun i hi => (p5 i hi).c (fun _ _ _ => rfl) (fun _ _ _ => rfl) (fun z' hz' => gk_gputW (by omega) hz9 hz' hk9) ⟨by rw [eo 15] <;> decide, by rw [eo 17] <;> decide, by rw [eo 18] <;> decide, by rw [eo 19] <;> decide, by rw [eo 20] <;> decide⟩ (fun _ _ => by rw [eo 16] <;> decide) (fun _ _ => by rw [eo 21] <;> decide), p6, fun x hx => ?_⟩
  · by_cases e : i = k
    · subst e
      obtain ⟨k1, k2, k3, k4, k5, k6, k7, k8, k9, k10⟩ := p3 i hk
      refine ⟨by rw [fu_n (by omega), eo 3] <;> first | exact k1 | decide, by rw [fu_n (by omega), eo 5] <;> first | exact k2 | decide, by rw [fu_s, e6, fu_s], by rw [fu_n (by omega), eo 7] <;> first | exact k4 | decide, fun z' hz' => ?_, ?_, ?_, ?_, fun j hj => ?_, fun j hj => ?_⟩
      · rw [gk_gput hz9 hz' hk9, e4]
        by_cases q9 : z' = (m 9 0 (40 * i + d)).toNat
        · rw [if_pos ⟨rfl, q9⟩, q9, fu_s, hk8]
        · rw [if_neg (by omega), fu_n (by omega)]; exact k5 z' hz'
      · rw [fu_n (by omega), fu_s, e8, fu_s]; omega
      · rw [fu_s, e11, fu_s]; omega
      · rw [fu_n (by omega), fu_s, fu_s]; omega
      · rw [fu_n (by omega), fu_s] at hj
        rw [eo 9 (by decide) (by decide) (by decide) (by decide) (by decide) (by decide), eo 10 (by decide) (by decide) (by decide) (by decide) (by decide) (by decide)]
        exact k9 j (by omega)
      · rw [fu_s] at hj
        rw [e12, e13]
        by_cases q9 : j = s
        · rw [q9, fu_s, fu_s, fu_s]; exact k9 d (by omega)
        · rw [fu_n (by omega), fu_n (by omega), fu_n (by omega)]; exact k10 j (by omega)
    · have hEi := (hE i hi).1
      refine (p3 i hi).c (fun a _ _ => fu_n (by omega)) ⟨by rw [fu_n (by omega), fu_n (by omega)], by rw [fu_n (by omega), fu_n (by omega)]⟩ (fun z' hz' => ?_) (fun _ _ _ => rfl) (fun j _ _ => fu_n (by omega)) ⟨by rw [eo 3] <;> decide, by rw [eo 5] <;> decide, by rw [e6]; exact fu_n e, by rw [eo 7] <;> decide, by rw [e8]; exact fu_n e, by rw [e11]; exact fu_n e⟩ (fun z' hz' => by rw [e4]; exact fu_n (by omega)) (fun j hj => ⟨by rw [eo 9] <;> decide, by rw [eo 10] <;> decide, by rw [e12]; exact fu_n (by omega), by rw [e13]; exact fu_n (by omega)⟩) ⟨hEi.1, hEi.2.1⟩
      rw [gk_gput hz9 hz' hk9, if_neg (by omega)]
  · obtain ⟨a1, a2, a3⟩ := p4 i hi hi5
    refine ⟨by rw [fu_n (by omega), fu_n (by omega)]; exact a1, by rw [fu_n (by omega), fu_n (by omega)]; exact a2, fun z' hz' => ?_⟩
    rw [gk_gput hz9 hz' hk9, if_neg (by omega)]; exact a3 z' hz'
  · obtain ⟨b1, b2, b3, b4, b5, b6⟩ := p7 x hx
    unfold PKP
    rw [eo 22 (by decide) (by decide) (by decide) (by decide) (by decide) (by decide), eo 23 (by decide) (by decide) (by decide) (by decide) (by decide) (by decide), eo 24 (by decide) (by decide) (by decide) (by decide) (by decide) (by decide), eo 25 (by decide) (by decide) (by decide) (by decide) (by decide) (by decide), eo 26 (by decide) (by decide) (by decide) (by decide) (by decide) (by decide), eo 27 (by decide) (by decide) (by decide) (by decide) (by decide) (by decide)]
    exact ⟨b1, b2, b3, b4, b5, b6⟩
/-- done again -/
theorem PK.re (hP : PK m L W q g l0 u v n w p r) (hE : ∀ i, i < L → EB m n i) {k d s : Nat} (hk : k < L) (hd : n k = ((d : Nat) : Int)) (hs : n (5 + k) = ((s + 1 : Nat) : Int)) : PK (reM m k (40 * k + s) (96 * k + (m 12 0 (40 * k + s)).toNat) (m 13 0 (40 * k + s) % 10)) L W q (gput g (6 * k) (m 12 0 (40 * k + s)).toNat (m 13 0 (40 * k + s) % 10).toNat) (fu l0 (4 * k + 2) (-2)) (fu u (12 * k + d) (v (12 * k + s))) v (fu (fu n (5 + k) ((s : Nat) : Int)) k ((d + 1 : Nat) : Int)) w p r := by
  obtain ⟨p1, p2, p3, p4, p5, p6, p7⟩ := hP
  obtain ⟨c1, c2, c3⟩ := hE k hk
  have hz := c3 s (by omega)
  have k6 := (p3 k hk).2.2.2.2.2.1
  have hz9 : (m 12 0 (40 * k + s)).toNat < 96 := by omega
  have hk9 : (m 13 0 (40 * k + s) % 10).toNat < 16 := by omega
  have hk8 : (((m 13 0 (40 * k + s) % 10).toNat : Nat) : Int) = m 13 0 (40 * k + s) % 10 := by omega
  have hdl : (m 8 0 k).toNat < 40 := by omega
  have hdd : (m 8 0 k).toNat = d := by omega
  have hd0 : hd40 (m 8 0 k).toNat = (m 8 0 k).toNat := if_pos hdl
  obtain ⟨mm, hmm⟩ : ∃ mm : CS, mm = reM m k (40 * k + s) (96 * k + (m 12 0 (40 * k + s)).toNat) (m 13 0 (40 * k + s) % 10) := ⟨_, rfl⟩
  rw [← hmm]
  have e4 : mm 4 0 = fu (m 4 0) (96 * k + (m 12 0 (40 * k + s)).toNat) (m 13 0 (40 * k + s) % 10) := by rw [hmm]; rfl
  have e8 : mm 8 0 = fu (m 8 0) k ((hd40 (m 8 0 k).toNat + 1 : Nat) : Int) := by rw [hmm]; rfl
  have e11 : mm 11 0 = fu (m 11 0) k (m 11 0 k - 1) := by rw [hmm]; rfl
  have e9 : mm 9 0 = rmF (m 9 0) (40 * k) (m 8 0 k).toNat (m 12 0 (40 * k + s)) := by rw [hmm]; rfl
  have e10 : mm 10 0 = rmF (m 10 0) (40 * k) (m 8 0 k).toNat (m 13 0 (40 * k + s)) := by rw [hmm]; rfl
  have e6 : mm 6 0 = fu (m 6 0) k (-2) := by rw [hmm]; rfl
  rw [rmF_lo hdl, hdd] at e9 e10
  have eo : ∀ a, a ≠ 4 → a ≠ 8 → a ≠ 11 → a ≠ 9 → a ≠ 10 → a ≠ 6 → mm a 0 = m a 0 := fun a h1 h2 h3 h4 h5 h6 => by
    rw [hmm]
    exact (cu_n (by omega)).trans ((cu_n (by omega)).trans ((cu_n (by omega)).trans ((cu_n (by omega)).trans ((cu_n (by omega)).trans (cu_n (by omega))))))
  refine ⟨p1, fun s hs => by rw [eo 1 (by decide) (by decide) (by decide) (by decide) (by decide) (by decide)]; exact p2 s hs, fun i hi => ?_, fun i hi hi5 => ?_, fun i hi => (p5 i hi).c (fun _ _ _ => rfl) (fun _ _ _ => rfl) (fun z' hz' => gk_gputW (by omega) hz9 hz' hk9) ⟨by rw [eo 15] <;> decide, by rw [eo 17] <;> decide, by rw [eo 18] <;> decide, by rw [eo 19] <;> decide, by rw [eo 20] <;> decide⟩ (fun _ _ => by rw [eo 16] <;> decide) (fun _ _ => by rw [eo 21] <;> decide), p6, fun x hx => ?_⟩
  · by_cases e : i = k
    · subst e
      obtain ⟨k1, k2, k3, k4, k5, k6, k7, k8, k9, k10⟩ := p3 i hk
      refine ⟨by rw [fu_n (by omega), eo 3] <;> first | exact k1 | decide, by rw [fu_n (by omega), eo 5] <;> first | exact k2 | decide, by rw [fu_s, e6, fu_s], by rw [fu_n (by omega), eo 7] <;> first | exact k4 | decide, fun z' hz' => ?_, ?_, ?_, ?_, fun j hj => ?_, fun j hj => ?_⟩
      · rw [gk_gput hz9 hz' hk9, e4]
        by_cases q9 : z' = (m 12 0 (40 * i + s)).toNat
        · rw [if_pos ⟨rfl, q9⟩, q9, fu_s, hk8]
        · rw [if_neg (by omega), fu_n (by omega)]; exact k5 z' hz'
      · rw [fu_s, e8, fu_s, hd0]; omega
      · rw [fu_n (by omega), fu_s, e11, fu_s]; omega
      · rw [fu_s, fu_n (by omega), fu_s]; omega
      · rw [fu_s] at hj
        rw [e9, e10]
        by_cases q9 : j = d
        · rw [q9, fu_s, fu_s, fu_s]; exact k10 s (by omega)
        · rw [fu_n (by omega), fu_n (by omega), fu_n (by omega)]; exact k9 j (by omega)
      · rw [fu_n (by omega), fu_s] at hj
        rw [eo 12 (by decide) (by decide) (by decide) (by decide) (by decide) (by decide), eo 13 (by decide) (by decide) (by decide) (by decide) (by decide) (by decide)]
        exact k10 j (by omega)
    · have hEi := (hE i hi).1
      refine (p3 i hi).c (fun a _ _ => fu_n (by omega)) ⟨by rw [fu_n (by omega), fu_n (by omega)], by rw [fu_n (by omega), fu_n (by omega)]⟩ (fun z' hz' => ?_) (fun j _ _ => fu_n (by omega)) (fun _ _ _ => rfl) ⟨by rw [eo 3] <;> decide, by rw [eo 5] <;> decide, by rw [e6]; exact fu_n e, by rw [eo 7] <;> decide, by rw [e8]; exact fu_n e, by rw [e11]; exact fu_n e⟩ (fun z' hz' => by rw [e4]; exact fu_n (by omega)) (fun j hj => ⟨by rw [e9]; exact fu_n (by omega), by rw [e10]; exact fu_n (by omega), by rw [eo 12] <;> decide, by rw [eo 13] <;> decide⟩) ⟨hEi.1, hEi.2.1⟩
      rw [gk_gput hz9 hz' hk9, if_neg (by omega)]
  · obtain ⟨a1, a2, a3⟩ := p4 i hi hi5
    refine ⟨by rw [fu_n (by omega), fu_n (by omega)]; exact a1, by rw [fu_n (by omega), fu_n (by omega)]; exact a2, fun z' hz' => ?_⟩
    rw [gk_gput hz9 hz' hk9, if_neg (by omega)]; exact a3 z' hz'
  · obtain ⟨b1, b2, b3, b4, b5, b6⟩ := p7 x hx
    unfold PKP
    rw [eo 22 (by decide) (by decide) (by decide) (by decide) (by decide) (by decide), eo 23 (by decide) (by decide) (by decide) (by decide) (by decide) (by decide), eo 24 (by decide) (by decide) (by decide) (by decide) (by decide) (by decide), eo 25 (by decide) (by decide) (by decide) (by decide) (by decide) (by decide), eo 26 (by decide) (by decide) (by decide) (by decide) (by decide) (by decide), eo 27 (by decide) (by decide) (by decide) (by decide) (by decide) (by decide)]
    exact ⟨b1, b2, b3, b4, b5, b6⟩
/-- the start is set; a proof is written -/
theorem PK.lv (hP : PK m L W q g l0 u v n w p r) (hE : ∀ i, i < L → EB m n i) {k : Nat} (hk : k < L) {m' : CS} {a b : Int} (ha : m' 5 0 = fu (m 5 0) k a) (hb : m' 6 0 = fu (m 6 0) k b) (ho : ∀ j, j ≠ 5 → j ≠ 6 → m' j 0 = m j 0) (e1 : ∀ j, l1 j = if j = 4 * k + 1 then a else if j = 4 * k + 2 then b else l0 j) : PK m' L W q g l1 u v n w p r := by
  obtain ⟨p1, p2, p3, p4, p5, p6, p7⟩ := hP
  refine ⟨p1, fun s hs => by rw [ho 1 (by decide) (by decide)]; exact p2 s hs, fun i hi => ?_, p4, fun i hi => (p5 i hi).c (fun _ _ _ => rfl) (fun _ _ _ => rfl) (fun _ _ => rfl) ⟨by rw [ho 15] <;> decide, by rw [ho 17] <;> decide, by rw [ho 18] <;> decide, by rw [ho 19] <;> decide, by rw [ho 20] <;> decide⟩ (fun _ _ => by rw [ho 16] <;> decide) (fun _ _ => by rw [ho 21] <;> decide), p6, fun x hx => ?_⟩
  · by_cases e : i = k
    · subst e
      obtain ⟨k1, k2, k3, k4, k5, k6, k7, k8, k9, k10⟩ := p3 i hk
      unfold PKL
      rw [ho 3 (by decide) (by decide), ho 7 (by decide) (by decide), ho 4 (by decide) (by decide), ho 8 (by decide) (by decide), ho 11 (by decide) (by decide), ho 9 (by decide) (by decide), ho 10 (by decide) (by decide), ho 12 (by decide) (by decide), ho 13 (by decide) (by decide), ha, hb, fu_s, fu_s, e1, e1, e1, e1]
      refine ⟨?_, ?_, ?_, ?_, k5, k6, k7, k8, k9, k10⟩
      · rw [if_neg (by omega), if_neg (by omega)]; exact k1
      · rw [if_pos rfl]
      · rw [if_neg (by omega), if_pos rfl]
      · rw [if_neg (by omega), if_neg (by omega)]; exact k4
    · have hEi := (hE i hi).1
      exact (p3 i hi).c (fun a _ _ => by rw [e1, if_neg (by omega), if_neg (by omega)]) ⟨rfl, rfl⟩ (fun _ _ => rfl) (fun _ _ _ => rfl) (fun _ _ _ => rfl) ⟨by rw [ho 3] <;> decide, by rw [ha]; exact fu_n e, by rw [hb]; exact fu_n e, by rw [ho 7] <;> decide, by rw [ho 8] <;> decide, by rw [ho 11] <;> decide⟩ (fun _ _ => by rw [ho 4] <;> decide) (fun j hj => ⟨by rw [ho 9] <;> decide, by rw [ho 10] <;> decide, by rw [ho 12] <;> decide, by rw [ho 13] <;> decide⟩) ⟨hEi.1, hEi.2.1⟩
  · obtain ⟨b1, b2, b3, b4, b5, b6⟩ := p7 x hx
    unfold PKP
    rw [ho 22 (by decide) (by decide), ho 23 (by decide) (by decide), ho 24 (by decide) (by decide), ho 25 (by decide) (by decide), ho 26 (by decide) (by decide), ho 27 (by decide) (by decide)]
    exact ⟨b1, b2, b3, b4, b5, b6⟩
end PKO
theorem EX.o {m m' : CS} (h : EX m) (ho : ∀ j, 15 ≤ j → m' j 0 = m j 0) : EX m' := by
  unfold EX at h ⊢
  rw [ho 28 (by decide), ho 29 (by decide), ho 22 (by decide), ho 23 (by decide), ho 18 (by decide), ho 26 (by decide), ho 16 (by decide), ho 24 (by decide)]
  exact h

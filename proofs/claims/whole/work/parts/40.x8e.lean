/-- the reference as it searches -/
def srM (m : CS) (c v : Int) (t : Nat) (s : Int) (Q F R : Nat → Int) : CS := cu (cu (cu (bM m c v t s) 36 0 F) 37 0 R) 35 0 Q
theorem cu_sw {m : CS} {a b : Nat} {f g : Nat → Int} (n : ¬ a = b) : cu (cu m a 0 f) b 0 g = cu (cu m b 0 g) a 0 f := by
  funext k i
  by_cases h1 : k = a ∧ i = 0
  · have h2 : ¬ (k = b ∧ i = 0) := fun z => n (h1.1.symm.trans z.1)
    simp only [cu, if_pos h1, if_neg h2]
  · simp only [cu, if_neg h1]
theorem sr_Q {m : CS} {c v : Int} {t : Nat} {s : Int} {Q F R Q' : Nat → Int} : cu (srM m c v t s Q F R) 35 0 Q' = srM m c v t s Q' F R := by
  unfold srM; rw [cu_u]
theorem sr_R {m : CS} {c v : Int} {t : Nat} {s : Int} {Q F R R' : Nat → Int} : cu (srM m c v t s Q F R) 37 0 R' = srM m c v t s Q F R' := by
  unfold srM; rw [cu_sw (by decide), cu_u]
theorem sr_F {m : CS} {c v : Int} {t : Nat} {s : Int} {Q F R F' : Nat → Int} : cu (srM m c v t s Q F R) 36 0 F' = srM m c v t s Q F' R := by
  unfold srM; rw [cu_sw (a := 35) (by decide), cu_sw (a := 37) (by decide), cu_u]
theorem bM_cu {m : CS} {a : Nat} {f : Nat → Int} (n : ¬ a = 0) {c v : Int} {t : Nat} {s : Int} : bM (cu m a 0 f) c v t s = cu (bM m c v t s) a 0 f := by
  have e : cu m a 0 f 0 0 = m 0 0 := cu_n (fun z => n z.1.symm)
  unfold bM
  rw [e, cu_sw n]
theorem bM_b {m : CS} {a b a' b' : Int} {c c' : Nat} {d d' : Int} : bM (bM m a b c d) a' b' c' d' = bM m a' b' c' d' := bM_up
theorem sr_b {m : CS} {c v c' v' : Int} {t t' : Nat} {s s' : Int} {Q F R : Nat → Int} : bM (srM m c v t s Q F R) c' v' t' s' = srM m c' v' t' s' Q F R := by
  unfold srM
  rw [bM_cu (by decide), bM_cu (by decide), bM_cu (by decide), bM_b]
theorem sr_mk {m : CS} {c v : Int} {t : Nat} {s : Int} {F R : Nat → Int} : bM (cu (cu m 36 0 F) 37 0 R) c v t s = srM m c v t s (m 35 0) F R := by
  rw [bM_cu (by decide), bM_cu (by decide)]
  unfold srM
  funext k i
  by_cases h : k = 35 ∧ i = 0
  · obtain ⟨rfl, rfl⟩ := h
    rfl
  · rw [cu_n (c := cu (cu (bM m c v t s) 36 0 F) 37 0 R) h]
theorem sr_o {m : CS} {c v c' v' : Int} {t t' : Nat} {s s' : Int} {Q F R : Nat → Int} : cu (srM m c v t s Q F R) 0 0 (fu (fu (fu (fu (srM m c v t s Q F R 0 0) 31 c') 32 v') 33 ((t' : Nat) : Int)) 34 s') = srM m c' v' t' s' Q F R := sr_b
theorem sr_mv {m : CS} {c v : Int} {t : Nat} {s : Int} {Q F R : Nat → Int} {x : B4} : mvM (srM m c v t s Q F R) x = srM m x.1 x.2.1 x.2.2.1 x.2.2.2 Q F R := sr_b
theorem stM_b {m : CS} {z : Int} : stM m z = bM m (cm (m 28 0) (KBm m) z (z, 0, 1)).1 0 (cm (m 28 0) (KBm m) z (z, 0, 1)).2.1 (cm (m 28 0) (KBm m) z (z, 0, 1)).2.2 := by
  unfold stM bdM bM
  rw [cu_u, cu_s]
  refine congrArg (cu m 0 0) ?_
  funext j
  unfold fu
  by_cases h1 : j = 34
  · rw [if_pos h1, if_pos h1]
  · rw [if_neg h1, if_neg h1]
    by_cases h2 : j = 33
    · rw [if_pos h2, if_pos h2]
    · rw [if_neg h2, if_neg h2]
      by_cases h3 : j = 31
      · subst h3; rfl
      · rw [if_neg h3, if_neg h2]
        by_cases h4 : j = 32
        · rw [if_pos h4, if_pos h4]
        · rw [if_neg h4, if_neg h4, if_neg h3]
def rzM (F : Nat → Int) (n : Nat) : Nat → Int := fun j => if j < n then -1 else F j
theorem rzM_0 {F : Nat → Int} : rzM F 0 = F := by funext j; exact if_neg (Nat.not_lt_zero _)
theorem rzM_s {F : Nat → Int} {n : Nat} : fu (rzM F n) n (-1) = rzM F (n + 1) := by
  funext j
  unfold fu rzM
  by_cases q : j = n
  · rw [if_pos q, if_pos (by omega)]
  · rw [if_neg q]
    by_cases r : j < n
    · rw [if_pos r, if_pos (by omega)]
    · rw [if_neg r, if_neg (by omega)]
theorem cu_id {m : CS} {k : Nat} {f : Nat → Int} (h : f = m k 0) : cu m k 0 f = m := by
  subst h
  funext a b
  by_cases q : a = k ∧ b = 0
  · simp only [cu, if_pos q]; rw [q.1, q.2]
  · simp only [cu, if_neg q]
/-- what a body can do, by bits that are given -/
def TTr (f : Nat → Int) (B : Int → Nat) (al : Nat) (S : Nat → Int) : Nat → Nat → B4 := fun n i => mv f B al S ((i : Nat) : Int) ((n / 64 : Nat) : Int) (((n / 8 % 8 : Nat) : Int) - 4) (n % 8)
def X0r (f : Nat → Int) (B : Int → Nat) (z : Int) : B4 := ((cm f B z (z, 0, 1)).1, 0, (cm f B z (z, 0, 1)).2.1, (cm f B z (z, 0, 1)).2.2)
theorem mv_b9 {f : Nat → Int} {B : Int → Nat} {al : Nat} {S : Nat → Int} {i c v : Int} {t : Nat} : b123 (mv f B al S i c v t) := by
  unfold mv
  have h : b3 (sd f B al (i % 3 - 1) (c, t, 1)) := sd_b3 (Or.inl rfl)
  split
  · exact vt_b3 _ _ h
  · exact h
theorem TTr_ok {f : Nat → Int} {B : Int → Nat} {al : Nat} {S : Nat → Int} (hB : ∀ p, B p < 8) (hS : ∀ j, 0 ≤ S j ∧ S j ≤ 4) : ∀ n, n < 6144 → ∀ i, i < 6 → bOK (TTr f B al S n i) ∧ b123 (TTr f B al S n i) := fun n hn i _ => ⟨mv_r hB hS ⟨by omega, by omega⟩ ⟨by omega, by omega⟩ (by omega), mv_b9⟩
theorem X0r_ok {f : Nat → Int} {B : Int → Nat} (hB : ∀ p, B p < 8) {z : Int} (hz : 0 ≤ z ∧ z ≤ 95) : bOK (X0r f B z) := by
  obtain ⟨h1, h2, h3, h4, h5⟩ := cm_r (f := f) hB (p := z) (x := (z, 0, 1)) ⟨hz.1, hz.2, by show (0 : Nat) < 8; decide, by dsimp only; omega, by dsimp only; omega⟩
  exact ⟨h1, h2, by show (-4 : Int) ≤ 0; omega, by show (0 : Int) ≤ 3; omega, h3, h4, h5⟩
theorem X0r_b {f : Nat → Int} {B : Int → Nat} {z : Int} : b123 (X0r f B z) := cm_b3 (x := (z, 0, 1)) (Or.inl rfl)
theorem X0r_1 {f : Nat → Int} {B : Int → Nat} {z : Int} (hz : 0 ≤ z ∧ z ≤ 95) : (X0r f B z).1 = z := by
  unfold X0r cm; dsimp only; rw [if_pos (by omega)]
/-- the start of a search that keeps its distances -/
theorem BI.begin {T : Nat → Nat → B4} {x0 : B4} (hx : bOK x0) (h3 : b123 x0) {Q F R : Nat → Int} (hF : ∀ n, n < 6144 → F n = -1) (hR0 : ∀ n, n < 96 → R n = 0) {m' : Nat} {Q' F' R' : Nat → Int} {w : Int}
    (hR : (x0.2.2.2 = 3 ∧ R' = R) ∨ (x0.2.2.2 ≠ 3 ∧ R' = fu R x0.1.toNat 1)) (hw : (x0.2.2.2 = 2 ∧ w = 0) ∨ (x0.2.2.2 ≠ 2 ∧ w = -1))
    (hq : (x0.2.2.2 = 1 ∧ m' = 1 ∧ Q' = fu Q 0 ((cd x0 : Nat) : Int) ∧ F' = fu F (cd x0) 0) ∨ (x0.2.2.2 ≠ 1 ∧ m' = 0 ∧ Q' = Q ∧ F' = F)) : BI T x0 m' Q' F' R' w 0 0 := by
  have hc := cd_lt hx
  have hR1 : ∀ c : Nat, c < 96 → fu R x0.1.toNat 1 c = 1 → (c : Int) = x0.1 := fun c hc h => by
    unfold fu at h
    by_cases q : c = x0.1.toNat
    · have := hx.1; omega
    · rw [if_neg q, hR0 c hc] at h; omega
  rcases h3 with h3 | h3 | h3
  · obtain ⟨_, rfl⟩ := hR.resolve_left (fun z => absurd z.1 (by omega))
    obtain ⟨_, rfl⟩ := hw.resolve_left (fun z => absurd z.1 (by omega))
    obtain ⟨_, rfl, rfl, rfl⟩ := hq.resolve_right (fun z => absurd h3 z.1)
    refine ⟨fun j hj => ?_, fun n h1 h2 => ?_, fun j j' h1 h2 => ?_, fun j hj _ => ?_, fun j i' hj hi' hp => ?_, fun c hc96 hc1 => Or.inl ⟨by omega, hR1 c hc96 hc1⟩, fun _ => ⟨fu_s, by omega, fu_s⟩, fun _ => fu_s, fun q => ?_, Or.inl rfl, fun q => absurd rfl q⟩
    · obtain rfl : j = 0 := by omega
      have e1 : fu Q 0 ((cd x0 : Nat) : Int) 0 = ((cd x0 : Nat) : Int) := fu_s
      have e2 : fu F (cd x0) 0 ((cd x0 : Nat) : Int).toNat = 0 := fu_s
      rw [e1, e2]
      exact ⟨by omega, by omega, by omega, h3, rfl⟩
    · by_cases q : n = cd x0
      · exact ⟨0, by omega, by rw [q]; exact fu_s⟩
      · rw [fu_n q, hF n h1] at h2; exact absurd rfl h2
    · omega
    · obtain rfl : j = 0 := by omega
      omega
    · omega
    · omega
  · obtain ⟨_, rfl⟩ := hR.resolve_left (fun z => absurd z.1 (by omega))
    obtain ⟨_, rfl⟩ := hw.resolve_right (fun z => absurd h3 z.1)
    obtain ⟨_, e1, e2, e3⟩ := hq.resolve_left (fun z => absurd z.1 (by omega))
    rw [e1, e2, e3]
    exact ⟨fun j hj => by omega, fun n h1 h2 => absurd (hF n h1) h2, fun j j' h1 h2 => by omega, fun j hj _ => by omega, fun j i' hj hi' hp => by omega, fun c hc96 hc1 => Or.inl ⟨by omega, hR1 c hc96 hc1⟩, fun q => by omega, fun _ => fu_s, fun _ => rfl, Or.inr ⟨by omega, h3⟩, fun _ j hj => by omega⟩
  · obtain ⟨_, e0⟩ := hR.resolve_right (fun z => absurd h3 z.1)
    obtain ⟨_, rfl⟩ := hw.resolve_left (fun z => absurd z.1 (by omega))
    obtain ⟨_, e1, e2, e3⟩ := hq.resolve_left (fun z => absurd z.1 (by omega))
    rw [e0, e1, e2, e3]
    exact ⟨fun j hj => by omega, fun n h1 h2 => absurd (hF n h1) h2, fun j j' h1 h2 => by omega, fun j hj _ => by omega, fun j i' hj hi' hp => by omega, fun c hc96 hc1 => by rw [hR0 c hc96] at hc1; omega, fun q => by omega, fun q => absurd h3 q, fun q => by omega, Or.inl rfl, fun q => absurd rfl q⟩
/-- a pair is tried, in the reference's way -/
theorem BI.tryM {T : Nat → Nat → B4} {x0 : B4} (hT : ∀ n, n < 6144 → ∀ i, i < 6 → bOK (T n i) ∧ b123 (T n i)) {m : Nat} {Q far R : Nat → Int} {w : Int} {k i : Nat} (h : BI T x0 m Q far R w k i) (hk : k < m) (hi : i < 6) {p : Nat} (hp : Q k = ((p : Nat) : Int)) {F : B4} (hF : F = T p i) {m' : Nat} {Q' far' R' : Nat → Int} {w' : Int}
    (hR : (F.2.2.2 = 3 ∧ R' = R) ∨ (F.2.2.2 ≠ 3 ∧ R' = fu R F.1.toNat 1))
    (hw : (F.2.2.2 = 2 ∧ w = -1 ∧ w' = far p + 1) ∨ (¬ (F.2.2.2 = 2 ∧ w = -1) ∧ w' = w))
    (hq : (F.2.2.2 = 1 ∧ far (cd F) = -1 ∧ m' = m + 1 ∧ Q' = fu Q m ((cd F : Nat) : Int) ∧ far' = fu far (cd F) (far p + 1)) ∨ (¬ (F.2.2.2 = 1 ∧ far (cd F) = -1) ∧ m' = m ∧ Q' = Q ∧ far' = far)) : BI T x0 m' Q' far' R' w' k (i + 1) := by
  have hAk := h.1 k hk
  have hQk : (Q k).toNat = p := by rw [hp]; rfl
  rw [← hQk] at hF hw hq
  obtain ⟨hok, h3⟩ := hT (Q k).toNat (by omega) i hi
  have hcd := cd_lt hok
  have hseen : (T (Q k).toNat i).2.2.2 ≠ 3 → Seen T x0 (T (Q k).toNat i).1 := fun q => Or.inr ⟨_, _, i, hAk.2.2.2, hi, q, rfl⟩
  subst hF
  by_cases q3 : (T (Q k).toNat i).2.2.2 = 3
  · obtain ⟨_, e0⟩ := hR.resolve_right (fun z => absurd q3 z.1)
    obtain ⟨_, e4⟩ := hw.resolve_left (fun z => absurd z.1 (by omega))
    obtain ⟨_, e1, e2, e3⟩ := hq.resolve_left (fun z => absurd z.1 (by omega))
    rw [e0, e1, e2, e3, e4]
    exact h.pair ⟨fun q => by omega, fun q => absurd q3 q, fun q => by omega⟩
  · obtain ⟨_, e0⟩ := hR.resolve_left (fun z => q3 z.1)
    have hm := h.mark hok.1 (hseen q3)
    rcases hq with ⟨q1, hf, e1, e2, e3⟩ | ⟨hn, e1, e2, e3⟩
    · obtain ⟨_, e4⟩ := hw.resolve_left (fun z => absurd z.1 (by omega))
      rw [e0, e1, e2, e3, e4]
      have hlt := h.lt hcd hf
      have hp := hm.push hk hi q1 hcd hf
      have hQk : fu Q m ((cd (T (Q k).toNat i) : Nat) : Int) k = Q k := fu_n (by omega)
      have hne : ∀ j, j < m → (Q j).toNat ≠ cd (T (Q k).toNat i) := fun j hj e => by have := h.1 j hj; rw [e, hf] at this; omega
      have hfk : fu far (cd (T (Q k).toNat i)) (far (Q k).toNat + 1) (Q k).toNat = far (Q k).toNat := fu_n (hne k hk)
      have hfn : fu far (cd (T (Q k).toNat i)) (far (Q k).toNat + 1) (cd (T (Q k).toNat i)) = far (Q k).toNat + 1 := fu_s
      refine hp.pair ?_
      rw [hQk]
      refine ⟨fun _ => ?_, fun _ => fu_s, fun q => by omega⟩
      rw [hfn, hfk]
      omega
    · rw [e0, e1, e2, e3]
      by_cases q1 : (T (Q k).toNat i).2.2.2 = 1
      · obtain ⟨_, e4⟩ := hw.resolve_left (fun z => absurd z.1 (by omega))
        rw [e4]
        have hf : far (cd (T (Q k).toNat i)) ≠ -1 := fun z => hn ⟨q1, z⟩
        refine hm.pair ⟨fun _ => ⟨hf, ?_⟩, fun _ => fu_s, fun q => by omega⟩
        obtain ⟨j, g1, g2⟩ := h.2.1 _ hcd hf
        have := h.2.2.2.1 j g1 hk
        rw [g2] at this
        exact this
      · have q2 : (T (Q k).toNat i).2.2.2 = 2 := by rcases h3 with z | z | z <;> omega
        rcases hw with ⟨_, e5, e4⟩ | ⟨hw1, e4⟩
        · rw [e4]
          rw [e5] at hm
          have hp := hm.win hk hi q2
          exact hp.pair ⟨fun q => by omega, fun _ => fu_s, fun _ => ⟨by omega, by omega⟩⟩
        · rw [e4]
          have hw9 : w ≠ -1 := fun z => hw1 ⟨q2, z⟩
          have hw := hm.2.2.2.2.2.2.2.2.2.2 hw9 k hk (Nat.le_refl k)
          exact hm.pair ⟨fun q => by omega, fun _ => fu_s, fun _ => ⟨hw9, hw⟩⟩
/-- the bounds of distances -/
def BQ (m : Nat) (Q F : Nat → Int) (w : Int) : Prop := (∀ j, j < m → F (Q j).toNat ≤ (j : Int)) ∧ -1 ≤ w ∧ w ≤ 6145
theorem BQ.far {T : Nat → Nat → B4} {x0 : B4} {m : Nat} {Q F R : Nat → Int} {w w9 : Int} {k i : Nat} (h : BI T x0 m Q F R w k i) (g : BQ m Q F w9) {n : Nat} (hn : n < 6144) : -1 ≤ F n ∧ F n ≤ 6144 := by
  by_cases q : F n = -1
  · omega
  · obtain ⟨j, j1, j2⟩ := h.2.1 n hn q
    have h1 := h.1 j j1
    have h2 := g.1 j j1
    have h3 := h.le
    rw [j2, show ((n : Nat) : Int).toNat = n from rfl] at h1 h2
    omega
theorem BQ.tryM {T : Nat → Nat → B4} {x0 : B4} {m : Nat} {Q far R : Nat → Int} {w : Int} {k i : Nat} (h : BI T x0 m Q far R w k i) (g : BQ m Q far w) (hk : k < m) {p : Nat} (hp : Q k = ((p : Nat) : Int)) {F : B4} {m' : Nat} {Q' far' : Nat → Int} {w' : Int}
    (hw : (F.2.2.2 = 2 ∧ w = -1 ∧ w' = far p + 1) ∨ (¬ (F.2.2.2 = 2 ∧ w = -1) ∧ w' = w))
    (hq : (F.2.2.2 = 1 ∧ far (cd F) = -1 ∧ m' = m + 1 ∧ Q' = fu Q m ((cd F : Nat) : Int) ∧ far' = fu far (cd F) (far p + 1)) ∨ (¬ (F.2.2.2 = 1 ∧ far (cd F) = -1) ∧ m' = m ∧ Q' = Q ∧ far' = far)) : BQ m' Q' far' w' := by
  have hQk : (Q k).toNat = p := by rw [hp]; rfl
  have g1 := g.1 k hk
  have a1 := h.1 k hk
  have a2 := h.le
  have a3 := g.2
  rw [hQk] at g1 a1
  refine ⟨?_, ?_⟩
  · rcases hq with ⟨q1, hf, rfl, rfl, rfl⟩ | ⟨hn, rfl, rfl, rfl⟩
    · intro j hj
      by_cases q : j = m
      · subst q
        have e1 : fu Q j ((cd F : Nat) : Int) j = ((cd F : Nat) : Int) := fu_s
        have e2 : fu far (cd F) (far p + 1) ((cd F : Nat) : Int).toNat = far p + 1 := fu_s
        rw [e1, e2]
        omega
      · have e1 : fu Q m ((cd F : Nat) : Int) j = Q j := fu_n q
        have hne : (Q j).toNat ≠ cd F := fun e => by have := h.1 j (by omega); rw [e, hf] at this; omega
        have e2 : fu far (cd F) (far p + 1) (Q j).toNat = far (Q j).toNat := fu_n hne
        rw [e1, e2]
        exact g.1 j (by omega)
    · exact g.1
  · rcases hw with ⟨_, _, rfl⟩ | ⟨_, rfl⟩
    · omega
    · exact a3
theorem R01 {R : Nat → Int} (h : ∀ j, j < 96 → 0 ≤ R j ∧ R j ≤ 1) (i : Nat) : ∀ j, j < 96 → 0 ≤ fu R i 1 j ∧ fu R i 1 j ≤ 1 := fun j hj => by
  unfold fu; split
  · omega
  · exact h j hj

theorem kX8_searches_0 : Cond.fieldLink "LedgeLevelsModel" 91 "LedgeLevelsModel" "queue" "[I" ∈ wsX8_searches := by decide +kernel
theorem kX8_searches_1 : ∀ w ∈ wsX80, w ∈ wsX8_searches := by decide +kernel
theorem kX8_searches_2 : Cond.fieldLink "LedgeLevelsModel" 124 "LedgeLevelsModel" "cell" "I" ∈ wsX8_searches := by decide +kernel
theorem kX8_searches_3 : Cond.fieldLink "LedgeLevelsModel" 127 "LedgeLevelsModel" "speed" "I" ∈ wsX8_searches := by decide +kernel
theorem kX8_searches_4 : Cond.fieldLink "LedgeLevelsModel" 118 "LedgeLevelsModel" "taken" "I" ∈ wsX8_searches := by decide +kernel
theorem kX8_searches_5 : Cond.fieldLink "LedgeLevelsModel" 121 "LedgeLevelsModel" "state" "I" ∈ wsX8_searches := by decide +kernel
theorem kX8_searches_6 : Cond.fieldLink "LedgeLevelsModel" 94 "LedgeLevelsModel" "far" "[I" ∈ wsX8_searches := by decide +kernel
theorem kX8_searches_7 : Cond.fieldLink "LedgeLevelsModel" 97 "LedgeLevelsModel" "reached" "[Z" ∈ wsX8_searches := by decide +kernel
set_option maxRecDepth 100000 in
set_option maxHeartbeats 4000000 in
theorem c_X8_searches {l : Launch} {D : va_G} {A : Nat → Prop} {h : vh} {am : AD} {m : CS} {z : Int}  (hR : RepM D am m h) (hz : 0 ≤ z ∧ z ≤ 95) (hG : ∀ j, 0 ≤ m 28 0 j ∧ m 28 0 j ≤ 8) (hKB : ∀ j, 0 ≤ m 29 0 j ∧ m 29 0 j ≤ 7) (hal : 0 ≤ m 0 0 30 ∧ m 0 0 30 < 8) (hSS : ∀ j, 0 ≤ m 1 0 j ∧ m 1 0 j ≤ 4) : MX l D A yX8_searches wsX8_searches { frames := 3, cells := 0, slots := 0, locals := 72 } [.ref (am 0 0), vI z] h (fun rv h' => ∃ (c1 v1 s1 w1 : Int) (t1 : Nat) (Q1 F1 R1 : Nat → Int), rv = some (vI w1) ∧ MP D am h (srM m c1 v1 t1 s1 Q1 F1 R1) h' ∧ (Found (TTr (m 28 0) (KBm m) (m 0 0 30).toNat (m 1 0)) (X0r (m 28 0) (KBm m) z) w1) ∧ (∀ x : Nat, x < 96 → (R1 x = 1 ↔ Seen (TTr (m 28 0) (KBm m) (m 0 0 30).toNat (m 1 0)) (X0r (m 28 0) (KBm m) z) x)) ∧ (∀ j, j < 96 → 0 ≤ R1 j ∧ R1 j ≤ 1) ∧ (-1 ≤ w1 ∧ w1 ≤ 6145) ∧ (bOK (c1, v1, t1, s1))) := by
  refine MX.of (cc := cX8_searches) (maxL := 6) (ret := (some .int)) [(0, .ref (am 0 0)), (1, vI z)] (by decide +kernel) rfl rfl (Nat.le_of_ble_eq_true rfl) ?_
  intro κ C hkl G
  subst hkl
  have C : CX κ "LedgeLevelsModel" "searches" cX8_searches wsX8_searches { frames := 3, cells := 0, slots := 0, locals := 72 } D A 6 := C
  have hiz : nq (D.1 20) (D.1 21) := cx_iz C
  have hBr : ∀ p, KBm m p < 8 := fun p => by have := hKB p.toNat; unfold KBm; omega
  have hTok := TTr_ok (f := m 28 0) (al := (m 0 0 30).toNat) hBr hSS
  have hXok := X0r_ok (f := m 28 0) hBr hz
  have hX1 := X0r_1 (f := m 28 0) (B := KBm m) hz
  obtain ⟨T9, hT9⟩ : ∃ T9, T9 = (TTr (m 28 0) (KBm m) (m 0 0 30).toNat (m 1 0)) := ⟨_, rfl⟩
  obtain ⟨x9, hx9⟩ : ∃ x9, x9 = (X0r (m 28 0) (KBm m) z) := ⟨_, rfl⟩
  have OUT : ∀ (N : Nat) (c1 v1 s1 w1 : Int) (t1 m1 k : Nat) (Q1 F1 R1 : Nat → Int) (h1 : vh)   (hBI : BI (TTr (m 28 0) (KBm m) (m 0 0 30).toNat (m 1 0)) (X0r (m 28 0) (KBm m) z) m1 Q1 F1 R1 w1 k 0) (hk9 : k ≤ m1) (hb1 : bOK (c1, v1, t1, s1)) (hR8 : ∀ j, j < 96 → 0 ≤ R1 j ∧ R1 j ≤ 1) (hBQ : BQ m1 Q1 F1 w1) (hN : 6145 - k < N) (hcp : MP D am h (srM m c1 v1 t1 s1 Q1 F1 R1) h1), X κ 0 0 h1 [(0, .ref (am 0 0)), (1, vI z), (2, vI w1), (3, vI ((m1 : Nat) : Int)), (4, vI ((k : Nat) : Int))] 122 [] := by
    intro N
    induction N with
    | zero => intro c1 v1 s1 w1 t1 m1 k Q1 F1 R1 h1 hBI hk9 hb1 hR8 hBQ hN hcp; exfalso; omega
    | succ N ihOUT =>
      intro c1 v1 s1 w1 t1 m1 k Q1 F1 R1 h1 hBI hk9 hb1 hR8 hBQ hN hcp
      have hmm := hBI.le
      obtain ⟨y1, y2⟩ := hBQ.2
      refine x_iload C dX8_searches_122 4 rfl ?_
      refine x_iload_n C dX8_searches_124 3 rfl ?_
      refine x_icmp_ge (tgt := 311) C dX8_searches_125 (by decide) (by omega) (by omega) (fun c2 => ?_) (fun c2 => ?_)
      · skip
        refine x_iload_n C dX8_searches_311 2 rfl ?_
        refine x_iret C G dX8_searches_312 ?_ (by decide) (by decide)
        have hkm : k = m1 := by omega
        rw [hkm] at hBI
        have hfin := hBI.fin (fun n hn i hi => cd_lt (hTok n hn i hi).1) (cd_lt hXok) (fun n hn i hi => (hTok n hn i hi).1.1) hXok.1
        exact ⟨c1, v1, s1, w1, t1, Q1, F1, R1, rfl, hcp, hfin.1, hfin.2, hR8, hBQ.2, hb1⟩
      · skip
        refine x_iconst C dX8_searches_128 0 (by decide) ?_
        refine x_istore C (ls' := [(0, .ref (am 0 0)), (1, vI z), (2, vI w1), (3, vI ((m1 : Nat) : Int)), (4, vI ((k : Nat) : Int)), (5, vI 0)]) dX8_searches_129 (by decide) rfl ?_
        have INN : ∀ (M : Nat) (c1 v1 s1 w1 : Int) (t1 m1 k : Nat) (Q1 F1 R1 : Nat → Int) (i : Nat) (h3 : vh)   (hBI : BI (TTr (m 28 0) (KBm m) (m 0 0 30).toNat (m 1 0)) (X0r (m 28 0) (KBm m) z) m1 Q1 F1 R1 w1 k i) (hk9 : k < m1) (hi9 : i ≤ 6) (hb1 : bOK (c1, v1, t1, s1)) (hR8 : ∀ j, j < 96 → 0 ≤ R1 j ∧ R1 j ≤ 1) (hBQ : BQ m1 Q1 F1 w1) (hN2 : 6145 - k ≤ N) (hM : 6 - i < M) (hcp : MP D am h (srM m c1 v1 t1 s1 Q1 F1 R1) h3), X κ 0 0 h3 [(0, .ref (am 0 0)), (1, vI z), (2, vI w1), (3, vI ((m1 : Nat) : Int)), (4, vI ((k : Nat) : Int)), (5, vI ((i : Nat) : Int))] 131 [] := by
          intro M
          induction M with
          | zero => intro c1 v1 s1 w1 t1 m1 k Q1 F1 R1 i h3 hBI hk9 hi9 hb1 hR8 hBQ hN2 hM hcp; exfalso; omega
          | succ M ihINN =>
            intro c1 v1 s1 w1 t1 m1 k Q1 F1 R1 i h3 hBI hk9 hi9 hb1 hR8 hBQ hN2 hM hcp
            have hmm := hBI.le
            obtain ⟨y1, y2⟩ := hBQ.2
            have hAk := hBI.1 k hk9
            obtain ⟨p, hp9⟩ : ∃ p : Nat, Q1 k = ((p : Nat) : Int) := ⟨(Q1 k).toNat, by omega⟩
            have hp8 : p < 6144 := by omega
            have hfp := BQ.far hBI hBQ hp8
            refine x_iload C dX8_searches_131 5 rfl ?_
            refine x_bipush C dX8_searches_133 6 (by decide) ?_
            refine x_icmp_ge (tgt := 305) C dX8_searches_135 (by decide) (by omega) (by omega) (fun c4 => ?_) (fun c4 => ?_)
            · skip
              refine x_iinc C (x := ((k : Nat) : Int)) (ls' := [(0, .ref (am 0 0)), (1, vI z), (2, vI w1), (3, vI ((m1 : Nat) : Int)), (4, vI ((((k : Nat) : Int)) + 1)), (5, vI ((i : Nat) : Int))]) dX8_searches_305 4 rfl (by decide) rfl ?_
              refine x_goto (tgt := 122) C dX8_searches_308 (by decide) ?_
              refine x_sub [0, 1, 2, 3, 4] (ls' := [(0, .ref (am 0 0)), (1, vI z), (2, vI w1), (3, vI ((m1 : Nat) : Int)), (4, vI ((((k : Nat) : Int)) + 1))]) rfl ?_
              refine x_widen (m1 := 0) (m2 := 0) (by first | omega | (dsimp only; omega)) (by first | omega | (dsimp only; omega)) ?_
              exact ihOUT c1 v1 s1 w1 t1 m1 (k + 1) Q1 F1 R1 h3 (((show i = 6 by omega) ▸ hBI).next) (by omega) (hb1) (hR8) (hBQ) (by omega) (hcp)
            · skip
              have f5 : h3 (am 0 0) = some (eO 8 [vI (((srM m c1 v1 t1 s1 Q1 F1 R1) 0 0) 0), .ref (am 1 0), vI (((srM m c1 v1 t1 s1 Q1 F1 R1) 0 0) 2), .ref (am 3 0), .ref (am 4 0), .ref (am 5 0), .ref (am 6 0), .ref (am 7 0), .ref (am 8 0), .ref (am 9 0), .ref (am 10 0), .ref (am 11 0), .ref (am 12 0), .ref (am 13 0), vI (((srM m c1 v1 t1 s1 Q1 F1 R1) 0 0) 14), .ref (am 15 0), .ref (am 16 0), .ref (am 17 0), .ref (am 18 0), .ref (am 19 0), .ref (am 20 0), .ref (am 21 0), .ref (am 22 0), .ref (am 23 0), .ref (am 24 0), .ref (am 25 0), .ref (am 26 0), .ref (am 27 0), .ref (am 28 0), .ref (am 29 0), vI (((((srM m c1 v1 t1 s1 Q1 F1 R1) 0 0) 30).toNat : Nat) : Int), vI (((srM m c1 v1 t1 s1 Q1 F1 R1) 0 0) 31), vI (((srM m c1 v1 t1 s1 Q1 F1 R1) 0 0) 32), vI (((((srM m c1 v1 t1 s1 Q1 F1 R1) 0 0) 33).toNat : Nat) : Int), vI (((srM m c1 v1 t1 s1 Q1 F1 R1) 0 0) 34), .ref (am 35 0), .ref (am 36 0), .ref (am 37 0)]) := hcp.1.1 0 0 (lm0 (by decide))
              have f6 : h3 (am 0 0) = some (eO 8 [vI (((srM m c1 v1 t1 s1 Q1 F1 R1) 0 0) 0), .ref (am 1 0), vI (((srM m c1 v1 t1 s1 Q1 F1 R1) 0 0) 2), .ref (am 3 0), .ref (am 4 0), .ref (am 5 0), .ref (am 6 0), .ref (am 7 0), .ref (am 8 0), .ref (am 9 0), .ref (am 10 0), .ref (am 11 0), .ref (am 12 0), .ref (am 13 0), vI (((srM m c1 v1 t1 s1 Q1 F1 R1) 0 0) 14), .ref (am 15 0), .ref (am 16 0), .ref (am 17 0), .ref (am 18 0), .ref (am 19 0), .ref (am 20 0), .ref (am 21 0), .ref (am 22 0), .ref (am 23 0), .ref (am 24 0), .ref (am 25 0), .ref (am 26 0), .ref (am 27 0), .ref (am 28 0), .ref (am 29 0), vI (((((srM m c1 v1 t1 s1 Q1 F1 R1) 0 0) 30).toNat : Nat) : Int), vI c1, vI v1, vI ((t1 : Nat) : Int), vI s1, .ref (am 35 0), .ref (am 36 0), .ref (am 37 0)]) := by have q9 := f5; exact q9
              have f7 : h3 (am 35 0) = some (eI D 6144 (((srM m c1 v1 t1 s1 Q1 F1 R1) 35 0))) := hcp.1.1 35 0 (lm0 (by decide))
              have f8 : h3 (am 35 0) = some (eI D 6144 Q1) := by have q9 := f7; exact q9
              have f9 : h3 (am 36 0) = some (eI D 6144 (((srM m c1 v1 t1 s1 Q1 F1 R1) 36 0))) := hcp.1.1 36 0 (lm0 (by decide))
              have f10 : h3 (am 36 0) = some (eI D 6144 F1) := by have q9 := f9; exact q9
              have f11 : h3 (am 37 0) = some (eZ D 96 (((srM m c1 v1 t1 s1 Q1 F1 R1) 37 0))) := hcp.1.1 37 0 (lm0 (by decide))
              have f12 : h3 (am 37 0) = some (eZ D 96 R1) := by have q9 := f11; exact q9
              refine x_aload_n C dX8_searches_138 0 rfl ?_
              refine x_aload_n C dX8_searches_139 0 rfl ?_
              refine x_get C (v := .ref (am 35 0)) f6 (T := TX8) rfl kX8_searches_1 35 (by decide) kX8_searches_0 rfl dX8_searches_140 ?_
              refine x_iload C dX8_searches_143 4 rfl ?_
              refine x_iald C f8 ⟨by omega, by omega⟩ (by decide) dX8_searches_145 ?_
              refine x_topv (show Q1 (Int.toNat (((k : Nat) : Int))) = ((p : Nat) : Int) from by exact hp9) ?_
              refine x_bipush C dX8_searches_146 64 (by decide) ?_
              refine x_idiv C dX8_searches_148 (by omega) (by omega) (by omega) (by omega) ?_
              refine x_topv (show (((p : Nat) : Int)) / 64 = ((p / 64 : Nat) : Int) from by omega) ?_
              refine x_put C f6 (T := TX8) rfl tyX8_ok nmX8 kX8_searches_1 31 (by decide) kX8_searches_2 rfl (fs' := [vI (((srM m c1 v1 t1 s1 Q1 F1 R1) 0 0) 0), .ref (am 1 0), vI (((srM m c1 v1 t1 s1 Q1 F1 R1) 0 0) 2), .ref (am 3 0), .ref (am 4 0), .ref (am 5 0), .ref (am 6 0), .ref (am 7 0), .ref (am 8 0), .ref (am 9 0), .ref (am 10 0), .ref (am 11 0), .ref (am 12 0), .ref (am 13 0), vI (((srM m c1 v1 t1 s1 Q1 F1 R1) 0 0) 14), .ref (am 15 0), .ref (am 16 0), .ref (am 17 0), .ref (am 18 0), .ref (am 19 0), .ref (am 20 0), .ref (am 21 0), .ref (am 22 0), .ref (am 23 0), .ref (am 24 0), .ref (am 25 0), .ref (am 26 0), .ref (am 27 0), .ref (am 28 0), .ref (am 29 0), vI (((((srM m c1 v1 t1 s1 Q1 F1 R1) 0 0) 30).toNat : Nat) : Int), vI ((p / 64 : Nat) : Int), vI v1, vI ((t1 : Nat) : Int), vI s1, .ref (am 35 0), .ref (am 36 0), .ref (am 37 0)]) rfl rfl (by simp) rfl dX8_searches_149 (x_hn (fun h13 e14 => ?_))
              have f15 : h13 (am 0 0) = some (eO 8 [vI (((srM m c1 v1 t1 s1 Q1 F1 R1) 0 0) 0), .ref (am 1 0), vI (((srM m c1 v1 t1 s1 Q1 F1 R1) 0 0) 2), .ref (am 3 0), .ref (am 4 0), .ref (am 5 0), .ref (am 6 0), .ref (am 7 0), .ref (am 8 0), .ref (am 9 0), .ref (am 10 0), .ref (am 11 0), .ref (am 12 0), .ref (am 13 0), vI (((srM m c1 v1 t1 s1 Q1 F1 R1) 0 0) 14), .ref (am 15 0), .ref (am 16 0), .ref (am 17 0), .ref (am 18 0), .ref (am 19 0), .ref (am 20 0), .ref (am 21 0), .ref (am 22 0), .ref (am 23 0), .ref (am 24 0), .ref (am 25 0), .ref (am 26 0), .ref (am 27 0), .ref (am 28 0), .ref (am 29 0), vI (((((srM m c1 v1 t1 s1 Q1 F1 R1) 0 0) 30).toNat : Nat) : Int), vI ((p / 64 : Nat) : Int), vI v1, vI ((t1 : Nat) : Int), vI s1, .ref (am 35 0), .ref (am 36 0), .ref (am 37 0)]) := by rw [e14]; exact hu_s
              refine x_aload_n C dX8_searches_152 0 rfl ?_
              refine x_aload_n C dX8_searches_153 0 rfl ?_
              refine x_get C (v := .ref (am 35 0)) f15 (T := TX8) rfl kX8_searches_1 35 (by decide) kX8_searches_0 rfl dX8_searches_154 ?_
              refine x_iload C dX8_searches_157 4 rfl ?_
              have f16 : h13 (am 35 0) = some (eI D 6144 Q1) := by rw [e14, hu_n (hcp.1.ne (lm0 (by decide)) (lm0 (by decide)) (fun zz9 => absurd zz9.1 (by decide)))]; exact f8
              refine x_iald C f16 ⟨by omega, by omega⟩ (by decide) dX8_searches_159 ?_
              refine x_topv (show Q1 (Int.toNat (((k : Nat) : Int))) = ((p : Nat) : Int) from by exact hp9) ?_
              refine x_bipush C dX8_searches_160 8 (by decide) ?_
              refine x_idiv C dX8_searches_162 (by omega) (by omega) (by omega) (by omega) ?_
              refine x_bipush C dX8_searches_163 8 (by decide) ?_
              refine x_irem C dX8_searches_165 (by omega) (by omega) (by omega) (by omega) ?_
              refine x_iconst C dX8_searches_166 4 (by decide) ?_
              refine x_isub C dX8_searches_167 ?_
              refine x_topv (show (((((p : Nat) : Int)) / 8) % 8) - 4 = ((p / 8 % 8 : Nat) : Int) - 4 from by omega) ?_
              refine x_put C f15 (T := TX8) rfl tyX8_ok nmX8 kX8_searches_1 32 (by decide) kX8_searches_3 rfl (fs' := [vI (((srM m c1 v1 t1 s1 Q1 F1 R1) 0 0) 0), .ref (am 1 0), vI (((srM m c1 v1 t1 s1 Q1 F1 R1) 0 0) 2), .ref (am 3 0), .ref (am 4 0), .ref (am 5 0), .ref (am 6 0), .ref (am 7 0), .ref (am 8 0), .ref (am 9 0), .ref (am 10 0), .ref (am 11 0), .ref (am 12 0), .ref (am 13 0), vI (((srM m c1 v1 t1 s1 Q1 F1 R1) 0 0) 14), .ref (am 15 0), .ref (am 16 0), .ref (am 17 0), .ref (am 18 0), .ref (am 19 0), .ref (am 20 0), .ref (am 21 0), .ref (am 22 0), .ref (am 23 0), .ref (am 24 0), .ref (am 25 0), .ref (am 26 0), .ref (am 27 0), .ref (am 28 0), .ref (am 29 0), vI (((((srM m c1 v1 t1 s1 Q1 F1 R1) 0 0) 30).toNat : Nat) : Int), vI ((p / 64 : Nat) : Int), vI (((p / 8 % 8 : Nat) : Int) - 4), vI ((t1 : Nat) : Int), vI s1, .ref (am 35 0), .ref (am 36 0), .ref (am 37 0)]) rfl rfl (by simp) rfl dX8_searches_168 (x_hn (fun h17 e18 => ?_))
              have f19 : h17 (am 0 0) = some (eO 8 [vI (((srM m c1 v1 t1 s1 Q1 F1 R1) 0 0) 0), .ref (am 1 0), vI (((srM m c1 v1 t1 s1 Q1 F1 R1) 0 0) 2), .ref (am 3 0), .ref (am 4 0), .ref (am 5 0), .ref (am 6 0), .ref (am 7 0), .ref (am 8 0), .ref (am 9 0), .ref (am 10 0), .ref (am 11 0), .ref (am 12 0), .ref (am 13 0), vI (((srM m c1 v1 t1 s1 Q1 F1 R1) 0 0) 14), .ref (am 15 0), .ref (am 16 0), .ref (am 17 0), .ref (am 18 0), .ref (am 19 0), .ref (am 20 0), .ref (am 21 0), .ref (am 22 0), .ref (am 23 0), .ref (am 24 0), .ref (am 25 0), .ref (am 26 0), .ref (am 27 0), .ref (am 28 0), .ref (am 29 0), vI (((((srM m c1 v1 t1 s1 Q1 F1 R1) 0 0) 30).toNat : Nat) : Int), vI ((p / 64 : Nat) : Int), vI (((p / 8 % 8 : Nat) : Int) - 4), vI ((t1 : Nat) : Int), vI s1, .ref (am 35 0), .ref (am 36 0), .ref (am 37 0)]) := by rw [e18]; exact hu_s
              refine x_aload_n C dX8_searches_171 0 rfl ?_
              refine x_aload_n C dX8_searches_172 0 rfl ?_
              refine x_get C (v := .ref (am 35 0)) f19 (T := TX8) rfl kX8_searches_1 35 (by decide) kX8_searches_0 rfl dX8_searches_173 ?_
              refine x_iload C dX8_searches_176 4 rfl ?_
              have f20 : h17 (am 35 0) = some (eI D 6144 Q1) := by rw [e18, hu_n (hcp.1.ne (lm0 (by decide)) (lm0 (by decide)) (fun zz9 => absurd zz9.1 (by decide)))]; exact f16
              refine x_iald C f20 ⟨by omega, by omega⟩ (by decide) dX8_searches_178 ?_
              refine x_topv (show Q1 (Int.toNat (((k : Nat) : Int))) = ((p : Nat) : Int) from by exact hp9) ?_
              refine x_bipush C dX8_searches_179 8 (by decide) ?_
              refine x_irem C dX8_searches_181 (by omega) (by omega) (by omega) (by omega) ?_
              refine x_topv (show (((p : Nat) : Int)) % 8 = ((p % 8 : Nat) : Int) from by omega) ?_
              refine x_put C f19 (T := TX8) rfl tyX8_ok nmX8 kX8_searches_1 33 (by decide) kX8_searches_4 rfl (fs' := [vI (((srM m c1 v1 t1 s1 Q1 F1 R1) 0 0) 0), .ref (am 1 0), vI (((srM m c1 v1 t1 s1 Q1 F1 R1) 0 0) 2), .ref (am 3 0), .ref (am 4 0), .ref (am 5 0), .ref (am 6 0), .ref (am 7 0), .ref (am 8 0), .ref (am 9 0), .ref (am 10 0), .ref (am 11 0), .ref (am 12 0), .ref (am 13 0), vI (((srM m c1 v1 t1 s1 Q1 F1 R1) 0 0) 14), .ref (am 15 0), .ref (am 16 0), .ref (am 17 0), .ref (am 18 0), .ref (am 19 0), .ref (am 20 0), .ref (am 21 0), .ref (am 22 0), .ref (am 23 0), .ref (am 24 0), .ref (am 25 0), .ref (am 26 0), .ref (am 27 0), .ref (am 28 0), .ref (am 29 0), vI (((((srM m c1 v1 t1 s1 Q1 F1 R1) 0 0) 30).toNat : Nat) : Int), vI ((p / 64 : Nat) : Int), vI (((p / 8 % 8 : Nat) : Int) - 4), vI ((p % 8 : Nat) : Int), vI s1, .ref (am 35 0), .ref (am 36 0), .ref (am 37 0)]) rfl rfl (by simp) rfl dX8_searches_182 (x_hn (fun h21 e22 => ?_))
              have f23 : h21 (am 0 0) = some (eO 8 [vI (((srM m c1 v1 t1 s1 Q1 F1 R1) 0 0) 0), .ref (am 1 0), vI (((srM m c1 v1 t1 s1 Q1 F1 R1) 0 0) 2), .ref (am 3 0), .ref (am 4 0), .ref (am 5 0), .ref (am 6 0), .ref (am 7 0), .ref (am 8 0), .ref (am 9 0), .ref (am 10 0), .ref (am 11 0), .ref (am 12 0), .ref (am 13 0), vI (((srM m c1 v1 t1 s1 Q1 F1 R1) 0 0) 14), .ref (am 15 0), .ref (am 16 0), .ref (am 17 0), .ref (am 18 0), .ref (am 19 0), .ref (am 20 0), .ref (am 21 0), .ref (am 22 0), .ref (am 23 0), .ref (am 24 0), .ref (am 25 0), .ref (am 26 0), .ref (am 27 0), .ref (am 28 0), .ref (am 29 0), vI (((((srM m c1 v1 t1 s1 Q1 F1 R1) 0 0) 30).toNat : Nat) : Int), vI ((p / 64 : Nat) : Int), vI (((p / 8 % 8 : Nat) : Int) - 4), vI ((p % 8 : Nat) : Int), vI s1, .ref (am 35 0), .ref (am 36 0), .ref (am 37 0)]) := by rw [e22]; exact hu_s
              refine x_aload_n C dX8_searches_185 0 rfl ?_
              refine x_iconst C dX8_searches_186 1 (by decide) ?_
              refine x_put C f23 (T := TX8) rfl tyX8_ok nmX8 kX8_searches_1 34 (by decide) kX8_searches_5 rfl (fs' := [vI (((srM m c1 v1 t1 s1 Q1 F1 R1) 0 0) 0), .ref (am 1 0), vI (((srM m c1 v1 t1 s1 Q1 F1 R1) 0 0) 2), .ref (am 3 0), .ref (am 4 0), .ref (am 5 0), .ref (am 6 0), .ref (am 7 0), .ref (am 8 0), .ref (am 9 0), .ref (am 10 0), .ref (am 11 0), .ref (am 12 0), .ref (am 13 0), vI (((srM m c1 v1 t1 s1 Q1 F1 R1) 0 0) 14), .ref (am 15 0), .ref (am 16 0), .ref (am 17 0), .ref (am 18 0), .ref (am 19 0), .ref (am 20 0), .ref (am 21 0), .ref (am 22 0), .ref (am 23 0), .ref (am 24 0), .ref (am 25 0), .ref (am 26 0), .ref (am 27 0), .ref (am 28 0), .ref (am 29 0), vI (((((srM m c1 v1 t1 s1 Q1 F1 R1) 0 0) 30).toNat : Nat) : Int), vI ((p / 64 : Nat) : Int), vI (((p / 8 % 8 : Nat) : Int) - 4), vI ((p % 8 : Nat) : Int), vI 1, .ref (am 35 0), .ref (am 36 0), .ref (am 37 0)]) rfl rfl (by simp) rfl dX8_searches_187 (x_hn (fun h24 e25 => ?_))
              have f26 : h24 (am 0 0) = some (eO 8 [vI (((srM m c1 v1 t1 s1 Q1 F1 R1) 0 0) 0), .ref (am 1 0), vI (((srM m c1 v1 t1 s1 Q1 F1 R1) 0 0) 2), .ref (am 3 0), .ref (am 4 0), .ref (am 5 0), .ref (am 6 0), .ref (am 7 0), .ref (am 8 0), .ref (am 9 0), .ref (am 10 0), .ref (am 11 0), .ref (am 12 0), .ref (am 13 0), vI (((srM m c1 v1 t1 s1 Q1 F1 R1) 0 0) 14), .ref (am 15 0), .ref (am 16 0), .ref (am 17 0), .ref (am 18 0), .ref (am 19 0), .ref (am 20 0), .ref (am 21 0), .ref (am 22 0), .ref (am 23 0), .ref (am 24 0), .ref (am 25 0), .ref (am 26 0), .ref (am 27 0), .ref (am 28 0), .ref (am 29 0), vI (((((srM m c1 v1 t1 s1 Q1 F1 R1) 0 0) 30).toNat : Nat) : Int), vI ((p / 64 : Nat) : Int), vI (((p / 8 % 8 : Nat) : Int) - 4), vI ((p % 8 : Nat) : Int), vI 1, .ref (am 35 0), .ref (am 36 0), .ref (am 37 0)]) := by rw [e25]; exact hu_s
              have cp27 : MP D am h (cu (srM m c1 v1 t1 s1 Q1 F1 R1) 0 0 ((fu (fu (fu (fu ((srM m c1 v1 t1 s1 Q1 F1 R1) 0 0) 31 (((p / 64 : Nat) : Int))) 32 (((p / 8 % 8 : Nat) : Int) - 4)) 33 ((p % 8 : Nat) : Int)) 34 1))) h24 := by rw [e25, e22, e18, e14]; simp only [hu_u]; exact (MP.up hcp (lm0 (by decide)) ((fu (fu (fu (fu ((srM m c1 v1 t1 s1 Q1 F1 R1) 0 0) 31 (((p / 64 : Nat) : Int))) 32 (((p / 8 % 8 : Nat) : Int) - 4)) 33 ((p % 8 : Nat) : Int)) 34 1)) rfl)
              have cp28 : MP D am h (srM m ((p / 64 : Nat) : Int) (((p / 8 % 8 : Nat) : Int) - 4) (p % 8) 1 Q1 F1 R1) h24 := by have q9 := cp27; rw [sr_o] at q9; exact q9
              refine x_aload_n C dX8_searches_190 0 rfl ?_
              refine x_iload C dX8_searches_191 5 rfl ?_
              have f29 : h24 (am 0 0) = some (eO 8 [vI (((srM m ((p / 64 : Nat) : Int) (((p / 8 % 8 : Nat) : Int) - 4) (p % 8) 1 Q1 F1 R1) 0 0) 0), .ref (am 1 0), vI (((srM m ((p / 64 : Nat) : Int) (((p / 8 % 8 : Nat) : Int) - 4) (p % 8) 1 Q1 F1 R1) 0 0) 2), .ref (am 3 0), .ref (am 4 0), .ref (am 5 0), .ref (am 6 0), .ref (am 7 0), .ref (am 8 0), .ref (am 9 0), .ref (am 10 0), .ref (am 11 0), .ref (am 12 0), .ref (am 13 0), vI (((srM m ((p / 64 : Nat) : Int) (((p / 8 % 8 : Nat) : Int) - 4) (p % 8) 1 Q1 F1 R1) 0 0) 14), .ref (am 15 0), .ref (am 16 0), .ref (am 17 0), .ref (am 18 0), .ref (am 19 0), .ref (am 20 0), .ref (am 21 0), .ref (am 22 0), .ref (am 23 0), .ref (am 24 0), .ref (am 25 0), .ref (am 26 0), .ref (am 27 0), .ref (am 28 0), .ref (am 29 0), vI (((((srM m ((p / 64 : Nat) : Int) (((p / 8 % 8 : Nat) : Int) - 4) (p % 8) 1 Q1 F1 R1) 0 0) 30).toNat : Nat) : Int), vI (((srM m ((p / 64 : Nat) : Int) (((p / 8 % 8 : Nat) : Int) - 4) (p % 8) 1 Q1 F1 R1) 0 0) 31), vI (((srM m ((p / 64 : Nat) : Int) (((p / 8 % 8 : Nat) : Int) - 4) (p % 8) 1 Q1 F1 R1) 0 0) 32), vI (((((srM m ((p / 64 : Nat) : Int) (((p / 8 % 8 : Nat) : Int) - 4) (p % 8) 1 Q1 F1 R1) 0 0) 33).toNat : Nat) : Int), vI (((srM m ((p / 64 : Nat) : Int) (((p / 8 % 8 : Nat) : Int) - 4) (p % 8) 1 Q1 F1 R1) 0 0) 34), .ref (am 35 0), .ref (am 36 0), .ref (am 37 0)]) := cp28.1.1 0 0 (lm0 (by decide))
              refine x_callV C (n := 1) (qc := (RX8, TX8, 38)) (As := [vI ((i : Nat) : Int)]) (rest := []) (c_X8_moves (cp28.1) (⟨by omega, by omega⟩) (⟨by show (0 : Int) ≤ ((p / 64 : Nat) : Int); omega, by show ((p / 64 : Nat) : Int) ≤ 95; omega⟩) (⟨by show (-4 : Int) ≤ ((p / 8 % 8 : Nat) : Int) - 4; omega, by show ((p / 8 % 8 : Nat) : Int) - 4 ≤ 3; omega⟩) (hG) (hKB) (⟨by show (0 : Int) ≤ ((p % 8 : Nat) : Int); omega, by show ((p % 8 : Nat) : Int) < 8; omega⟩) (hal) (hSS) (rfl)) gX8_searches_X8_moves (by decide +kernel) f29 rfl rfl rfl rfl (Nat.le_of_ble_eq_true rfl) ⟨by decide, by decide⟩ ⟨(by decide), (by decide)⟩ dX8_searches_193 (fun rv30 h31 hp32 => ?_)
              obtain ⟨rfl, cp34⟩ := hp32
              have cp35 : MP D am h (mvM ((srM m ((p / 64 : Nat) : Int) (((p / 8 % 8 : Nat) : Int) - 4) (p % 8) 1 Q1 F1 R1)) (mv (((srM m ((p / 64 : Nat) : Int) (((p / 8 % 8 : Nat) : Int) - 4) (p % 8) 1 Q1 F1 R1)) 28 0) (KBm ((srM m ((p / 64 : Nat) : Int) (((p / 8 % 8 : Nat) : Int) - 4) (p % 8) 1 Q1 F1 R1))) (((srM m ((p / 64 : Nat) : Int) (((p / 8 % 8 : Nat) : Int) - 4) (p % 8) 1 Q1 F1 R1)) 0 0 30).toNat (((srM m ((p / 64 : Nat) : Int) (((p / 8 % 8 : Nat) : Int) - 4) (p % 8) 1 Q1 F1 R1)) 1 0) (((i : Nat) : Int)) (((srM m ((p / 64 : Nat) : Int) (((p / 8 % 8 : Nat) : Int) - 4) (p % 8) 1 Q1 F1 R1)) 0 0 31) (((srM m ((p / 64 : Nat) : Int) (((p / 8 % 8 : Nat) : Int) - 4) (p % 8) 1 Q1 F1 R1)) 0 0 32) (((srM m ((p / 64 : Nat) : Int) (((p / 8 % 8 : Nat) : Int) - 4) (p % 8) 1 Q1 F1 R1)) 0 0 33).toNat)) h31 := MP.trans cp28 cp34
              obtain ⟨F9, hF9⟩ : ∃ F9, F9 = (TTr (m 28 0) (KBm m) (m 0 0 30).toNat (m 1 0)) p i := ⟨_, rfl⟩
              have cp36 : MP D am h (srM m F9.1 F9.2.1 F9.2.2.1 F9.2.2.2 Q1 F1 R1) h31 := by have q9 := cp35; rw [sr_mv] at q9; rw [hF9]; exact q9
              have hF8 := hTok p hp8 i (by omega)
              rw [← hF9] at hF8
              obtain ⟨hF7, hF6⟩ := hF8
              unfold b123 at hF6
              obtain ⟨b1, b2, b3_, b4, b5, b6, b7⟩ := id hF7
              have hcd := cd_lt hF7
              have hfc := BQ.far hBI hBQ hcd
              have f37 : h31 (am 0 0) = some (eO 8 [vI (((srM m F9.1 F9.2.1 F9.2.2.1 F9.2.2.2 Q1 F1 R1) 0 0) 0), .ref (am 1 0), vI (((srM m F9.1 F9.2.1 F9.2.2.1 F9.2.2.2 Q1 F1 R1) 0 0) 2), .ref (am 3 0), .ref (am 4 0), .ref (am 5 0), .ref (am 6 0), .ref (am 7 0), .ref (am 8 0), .ref (am 9 0), .ref (am 10 0), .ref (am 11 0), .ref (am 12 0), .ref (am 13 0), vI (((srM m F9.1 F9.2.1 F9.2.2.1 F9.2.2.2 Q1 F1 R1) 0 0) 14), .ref (am 15 0), .ref (am 16 0), .ref (am 17 0), .ref (am 18 0), .ref (am 19 0), .ref (am 20 0), .ref (am 21 0), .ref (am 22 0), .ref (am 23 0), .ref (am 24 0), .ref (am 25 0), .ref (am 26 0), .ref (am 27 0), .ref (am 28 0), .ref (am 29 0), vI (((((srM m F9.1 F9.2.1 F9.2.2.1 F9.2.2.2 Q1 F1 R1) 0 0) 30).toNat : Nat) : Int), vI (((srM m F9.1 F9.2.1 F9.2.2.1 F9.2.2.2 Q1 F1 R1) 0 0) 31), vI (((srM m F9.1 F9.2.1 F9.2.2.1 F9.2.2.2 Q1 F1 R1) 0 0) 32), vI (((((srM m F9.1 F9.2.1 F9.2.2.1 F9.2.2.2 Q1 F1 R1) 0 0) 33).toNat : Nat) : Int), vI (((srM m F9.1 F9.2.1 F9.2.2.1 F9.2.2.2 Q1 F1 R1) 0 0) 34), .ref (am 35 0), .ref (am 36 0), .ref (am 37 0)]) := cp36.1.1 0 0 (lm0 (by decide))
              have f38 : h31 (am 0 0) = some (eO 8 [vI (((srM m F9.1 F9.2.1 F9.2.2.1 F9.2.2.2 Q1 F1 R1) 0 0) 0), .ref (am 1 0), vI (((srM m F9.1 F9.2.1 F9.2.2.1 F9.2.2.2 Q1 F1 R1) 0 0) 2), .ref (am 3 0), .ref (am 4 0), .ref (am 5 0), .ref (am 6 0), .ref (am 7 0), .ref (am 8 0), .ref (am 9 0), .ref (am 10 0), .ref (am 11 0), .ref (am 12 0), .ref (am 13 0), vI (((srM m F9.1 F9.2.1 F9.2.2.1 F9.2.2.2 Q1 F1 R1) 0 0) 14), .ref (am 15 0), .ref (am 16 0), .ref (am 17 0), .ref (am 18 0), .ref (am 19 0), .ref (am 20 0), .ref (am 21 0), .ref (am 22 0), .ref (am 23 0), .ref (am 24 0), .ref (am 25 0), .ref (am 26 0), .ref (am 27 0), .ref (am 28 0), .ref (am 29 0), vI (((((srM m F9.1 F9.2.1 F9.2.2.1 F9.2.2.2 Q1 F1 R1) 0 0) 30).toNat : Nat) : Int), vI (F9.1), vI (F9.2.1), vI ((F9.2.2.1 : Nat) : Int), vI (F9.2.2.2), .ref (am 35 0), .ref (am 36 0), .ref (am 37 0)]) := by have q9 := f37; exact q9
              have f39 : h31 (am 35 0) = some (eI D 6144 (((srM m F9.1 F9.2.1 F9.2.2.1 F9.2.2.2 Q1 F1 R1) 35 0))) := cp36.1.1 35 0 (lm0 (by decide))
              have f40 : h31 (am 35 0) = some (eI D 6144 Q1) := by have q9 := f39; exact q9
              have f41 : h31 (am 36 0) = some (eI D 6144 (((srM m F9.1 F9.2.1 F9.2.2.1 F9.2.2.2 Q1 F1 R1) 36 0))) := cp36.1.1 36 0 (lm0 (by decide))
              have f42 : h31 (am 36 0) = some (eI D 6144 F1) := by have q9 := f41; exact q9
              have f43 : h31 (am 37 0) = some (eZ D 96 (((srM m F9.1 F9.2.1 F9.2.2.1 F9.2.2.2 Q1 F1 R1) 37 0))) := cp36.1.1 37 0 (lm0 (by decide))
              have f44 : h31 (am 37 0) = some (eZ D 96 R1) := by have q9 := f43; exact q9
              refine x_aload_n C dX8_searches_196 0 rfl ?_
              refine x_get C (v := vI (F9.2.2.2)) f38 (T := TX8) rfl kX8_searches_1 34 (by decide) kX8_searches_5 rfl dX8_searches_197 ?_
              refine x_iconst C dX8_searches_200 3 (by decide) ?_
              refine x_icmp_eq (tgt := 214) C dX8_searches_201 (by decide) (by omega) (by omega) (fun c45 => ?_) (fun c45 => ?_)
              · skip
                refine x_aload_n C dX8_searches_214 0 rfl ?_
                refine x_get C (v := vI (F9.2.2.2)) f38 (T := TX8) rfl kX8_searches_1 34 (by decide) kX8_searches_5 rfl dX8_searches_215 ?_
                refine x_iconst C dX8_searches_218 2 (by decide) ?_
                refine x_icmp_ne (tgt := 242) C dX8_searches_219 (by decide) (by omega) (by omega) (fun c46 => ?_) (fun c46 => ?_)
                · skip
                  refine x_aload_n C dX8_searches_242 0 rfl ?_
                  refine x_get C (v := vI (F9.2.2.2)) f38 (T := TX8) rfl kX8_searches_1 34 (by decide) kX8_searches_5 rfl dX8_searches_243 ?_
                  refine x_iconst C dX8_searches_246 1 (by decide) ?_
                  refine x_icmp_ne (tgt := 299) C dX8_searches_247 (by decide) (by omega) (by omega) (fun c47 => ?_) (fun c47 => ?_)
                  · skip
                    refine x_iinc C (x := ((i : Nat) : Int)) (ls' := [(0, .ref (am 0 0)), (1, vI z), (2, vI w1), (3, vI ((m1 : Nat) : Int)), (4, vI ((k : Nat) : Int)), (5, vI ((((i : Nat) : Int)) + 1))]) dX8_searches_299 5 rfl (by decide) rfl ?_
                    refine x_goto (tgt := 131) C dX8_searches_302 (by decide) ?_
                    exact ihINN F9.1 F9.2.1 F9.2.2.2 w1 F9.2.2.1 m1 k Q1 F1 R1 (i + 1) h31 (BI.tryM hTok hBI hk9 (by omega) hp9 hF9 (by first | exact Or.inl ⟨by omega, rfl⟩ | exact Or.inr ⟨by omega, rfl⟩) (by first | exact Or.inl ⟨by omega, by omega, rfl⟩ | exact Or.inr ⟨by omega, rfl⟩) (by first | exact Or.inl ⟨by omega, by omega, rfl, rfl, rfl⟩ | exact Or.inr ⟨by omega, rfl, rfl, rfl⟩)) (by omega) (by omega) (hF7) (by first | exact R01 hR8 _ | exact hR8) (BQ.tryM (F := F9) hBI hBQ hk9 hp9 (by first | exact Or.inl ⟨by omega, by omega, rfl⟩ | exact Or.inr ⟨by omega, rfl⟩) (by first | exact Or.inl ⟨by omega, by omega, rfl, rfl, rfl⟩ | exact Or.inr ⟨by omega, rfl, rfl, rfl⟩)) (by omega) (by omega) (cp36)
                  · skip
                    refine x_aload_n C dX8_searches_250 0 rfl ?_
                    refine x_get C (v := .ref (am 36 0)) f38 (T := TX8) rfl kX8_searches_1 36 (by decide) kX8_searches_6 rfl dX8_searches_251 ?_
                    refine x_aload_n C dX8_searches_254 0 rfl ?_
                    refine x_callV C (n := 0) (qc := (RX8, TX8, 38)) (As := []) (rest := [.ref (am 36 0)]) (c_X8_code (cp36.1) (⟨b1, b2⟩) (⟨b3_, b4⟩) (⟨by show (0 : Int) ≤ ((F9.2.2.1 : Nat) : Int); omega, by show ((F9.2.2.1 : Nat) : Int) < 8; omega⟩)) gX8_searches_X8_code (by decide +kernel) f38 rfl rfl rfl rfl (Nat.le_of_ble_eq_true rfl) ⟨by decide, by decide⟩ ⟨(by decide), (by decide)⟩ dX8_searches_255 (fun rv48 h49 hp50 => ?_)
                    obtain ⟨rfl, e51⟩ := hp50
                    obtain rfl := e51.symm
                    refine x_topv (show ((pkc (((srM m F9.1 F9.2.1 F9.2.2.1 F9.2.2.2 Q1 F1 R1)) 0 0 31) (((srM m F9.1 F9.2.1 F9.2.2.1 F9.2.2.2 Q1 F1 R1)) 0 0 32) (((srM m F9.1 F9.2.1 F9.2.2.1 F9.2.2.2 Q1 F1 R1)) 0 0 33).toNat : Nat) : Int) = ((cd F9 : Nat) : Int) from by rfl) ?_
                    refine x_iald C f42 ⟨by omega, by omega⟩ (by decide) dX8_searches_258 ?_
                    refine x_topv (show F1 (Int.toNat (((cd F9 : Nat) : Int))) = F1 (cd F9) from by rfl) ?_
                    refine x_iconst C dX8_searches_259 (-1) (by decide) ?_
                    refine x_icmp_ne (tgt := 299) C dX8_searches_260 (by decide) (by omega) (by omega) (fun c52 => ?_) (fun c52 => ?_)
                    · skip
                      skip
                      refine x_iinc C (x := ((i : Nat) : Int)) (ls' := [(0, .ref (am 0 0)), (1, vI z), (2, vI w1), (3, vI ((m1 : Nat) : Int)), (4, vI ((k : Nat) : Int)), (5, vI ((((i : Nat) : Int)) + 1))]) dX8_searches_299 5 rfl (by decide) rfl ?_
                      refine x_goto (tgt := 131) C dX8_searches_302 (by decide) ?_
                      exact ihINN F9.1 F9.2.1 F9.2.2.2 w1 F9.2.2.1 m1 k Q1 F1 R1 (i + 1) h31 (BI.tryM hTok hBI hk9 (by omega) hp9 hF9 (by first | exact Or.inl ⟨by omega, rfl⟩ | exact Or.inr ⟨by omega, rfl⟩) (by first | exact Or.inl ⟨by omega, by omega, rfl⟩ | exact Or.inr ⟨by omega, rfl⟩) (by first | exact Or.inl ⟨by omega, by omega, rfl, rfl, rfl⟩ | exact Or.inr ⟨by omega, rfl, rfl, rfl⟩)) (by omega) (by omega) (hF7) (by first | exact R01 hR8 _ | exact hR8) (BQ.tryM (F := F9) hBI hBQ hk9 hp9 (by first | exact Or.inl ⟨by omega, by omega, rfl⟩ | exact Or.inr ⟨by omega, rfl⟩) (by first | exact Or.inl ⟨by omega, by omega, rfl, rfl, rfl⟩ | exact Or.inr ⟨by omega, rfl, rfl, rfl⟩)) (by omega) (by omega) (cp36)
                    · skip
                      refine x_aload_n C dX8_searches_263 0 rfl ?_
                      refine x_get C (v := .ref (am 36 0)) f38 (T := TX8) rfl kX8_searches_1 36 (by decide) kX8_searches_6 rfl dX8_searches_264 ?_
                      refine x_aload_n C dX8_searches_267 0 rfl ?_
                      refine x_callV C (n := 0) (qc := (RX8, TX8, 38)) (As := []) (rest := [.ref (am 36 0)]) (c_X8_code (cp36.1) (⟨b1, b2⟩) (⟨b3_, b4⟩) (⟨by show (0 : Int) ≤ ((F9.2.2.1 : Nat) : Int); omega, by show ((F9.2.2.1 : Nat) : Int) < 8; omega⟩)) gX8_searches_X8_code (by decide +kernel) f38 rfl rfl rfl rfl (Nat.le_of_ble_eq_true rfl) ⟨by decide, by decide⟩ ⟨(by decide), (by decide)⟩ dX8_searches_268 (fun rv53 h54 hp55 => ?_)
                      obtain ⟨rfl, e56⟩ := hp55
                      obtain rfl := e56.symm
                      refine x_topv (show ((pkc (((srM m F9.1 F9.2.1 F9.2.2.1 F9.2.2.2 Q1 F1 R1)) 0 0 31) (((srM m F9.1 F9.2.1 F9.2.2.1 F9.2.2.2 Q1 F1 R1)) 0 0 32) (((srM m F9.1 F9.2.1 F9.2.2.1 F9.2.2.2 Q1 F1 R1)) 0 0 33).toNat : Nat) : Int) = ((cd F9 : Nat) : Int) from by rfl) ?_
                      refine x_aload_n C dX8_searches_271 0 rfl ?_
                      refine x_get C (v := .ref (am 36 0)) f38 (T := TX8) rfl kX8_searches_1 36 (by decide) kX8_searches_6 rfl dX8_searches_272 ?_
                      refine x_aload_n C dX8_searches_275 0 rfl ?_
                      refine x_get C (v := .ref (am 35 0)) f38 (T := TX8) rfl kX8_searches_1 35 (by decide) kX8_searches_0 rfl dX8_searches_276 ?_
                      refine x_iload C dX8_searches_279 4 rfl ?_
                      refine x_iald C f40 ⟨by omega, by omega⟩ (by decide) dX8_searches_281 ?_
                      refine x_topv (show Q1 (Int.toNat (((k : Nat) : Int))) = ((p : Nat) : Int) from by exact hp9) ?_
                      refine x_iald C f42 ⟨by omega, by omega⟩ (by decide) dX8_searches_282 ?_
                      refine x_topv (show F1 (Int.toNat (((p : Nat) : Int))) = F1 p from by rfl) ?_
                      refine x_iconst C dX8_searches_283 1 (by decide) ?_
                      refine x_iadd C dX8_searches_284 ?_
                      refine x_iast C f42 ⟨by omega, by omega⟩ (by decide) dX8_searches_285 (x_hn (fun h57 e58 => ?_))
                      have f59 : h57 (am 36 0) = some (eI D 6144 (fu F1 (Int.toNat (((cd F9 : Nat) : Int))) ((F1 p) + 1))) := by rw [e58]; exact hu_s
                      have hlt9 := hBI.lt hcd (show F1 (cd F9) = -1 by omega)
                      refine x_aload_n C dX8_searches_286 0 rfl ?_
                      have f60 : h57 (am 0 0) = some (eO 8 [vI (((srM m F9.1 F9.2.1 F9.2.2.1 F9.2.2.2 Q1 F1 R1) 0 0) 0), .ref (am 1 0), vI (((srM m F9.1 F9.2.1 F9.2.2.1 F9.2.2.2 Q1 F1 R1) 0 0) 2), .ref (am 3 0), .ref (am 4 0), .ref (am 5 0), .ref (am 6 0), .ref (am 7 0), .ref (am 8 0), .ref (am 9 0), .ref (am 10 0), .ref (am 11 0), .ref (am 12 0), .ref (am 13 0), vI (((srM m F9.1 F9.2.1 F9.2.2.1 F9.2.2.2 Q1 F1 R1) 0 0) 14), .ref (am 15 0), .ref (am 16 0), .ref (am 17 0), .ref (am 18 0), .ref (am 19 0), .ref (am 20 0), .ref (am 21 0), .ref (am 22 0), .ref (am 23 0), .ref (am 24 0), .ref (am 25 0), .ref (am 26 0), .ref (am 27 0), .ref (am 28 0), .ref (am 29 0), vI (((((srM m F9.1 F9.2.1 F9.2.2.1 F9.2.2.2 Q1 F1 R1) 0 0) 30).toNat : Nat) : Int), vI (F9.1), vI (F9.2.1), vI ((F9.2.2.1 : Nat) : Int), vI (F9.2.2.2), .ref (am 35 0), .ref (am 36 0), .ref (am 37 0)]) := by rw [e58, hu_n (cp36.1.ne (lm0 (by decide)) (lm0 (by decide)) (fun zz9 => absurd zz9.1 (by decide)))]; exact f38
                      refine x_get C (v := .ref (am 35 0)) f60 (T := TX8) rfl kX8_searches_1 35 (by decide) kX8_searches_0 rfl dX8_searches_287 ?_
                      refine x_iload_n C dX8_searches_290 3 rfl ?_
                      refine x_aload_n C dX8_searches_291 0 rfl ?_
                      have cp61 : MP D am h (cu (srM m F9.1 F9.2.1 F9.2.2.1 F9.2.2.2 Q1 F1 R1) 36 0 (fu F1 (Int.toNat (((cd F9 : Nat) : Int))) ((F1 p) + 1))) h57 := by rw [e58]; exact (MP.up cp36 (lm0 (by decide)) (fu F1 (Int.toNat (((cd F9 : Nat) : Int))) ((F1 p) + 1)) rfl)
                      refine x_callV C (n := 0) (qc := (RX8, TX8, 38)) (As := []) (rest := [vI ((m1 : Nat) : Int), .ref (am 35 0)]) (c_X8_code (cp61.1) (⟨b1, b2⟩) (⟨b3_, b4⟩) (⟨by show (0 : Int) ≤ ((F9.2.2.1 : Nat) : Int); omega, by show ((F9.2.2.1 : Nat) : Int) < 8; omega⟩)) gX8_searches_X8_code (by decide +kernel) f60 rfl rfl rfl rfl (Nat.le_of_ble_eq_true rfl) ⟨by decide, by decide⟩ ⟨(by decide), (by decide)⟩ dX8_searches_292 (fun rv62 h63 hp64 => ?_)
                      obtain ⟨rfl, e65⟩ := hp64
                      obtain rfl := e65.symm
                      refine x_topv (show ((pkc (((cu (srM m F9.1 F9.2.1 F9.2.2.1 F9.2.2.2 Q1 F1 R1) 36 0 (fu F1 (Int.toNat (((cd F9 : Nat) : Int))) ((F1 p) + 1)))) 0 0 31) (((cu (srM m F9.1 F9.2.1 F9.2.2.1 F9.2.2.2 Q1 F1 R1) 36 0 (fu F1 (Int.toNat (((cd F9 : Nat) : Int))) ((F1 p) + 1)))) 0 0 32) (((cu (srM m F9.1 F9.2.1 F9.2.2.1 F9.2.2.2 Q1 F1 R1) 36 0 (fu F1 (Int.toNat (((cd F9 : Nat) : Int))) ((F1 p) + 1)))) 0 0 33).toNat : Nat) : Int) = ((cd F9 : Nat) : Int) from by rfl) ?_
                      have f66 : h57 (am 35 0) = some (eI D 6144 Q1) := by rw [e58, hu_n (cp36.1.ne (lm0 (by decide)) (lm0 (by decide)) (fun zz9 => absurd zz9.1 (by decide)))]; exact f40
                      refine x_iast C f66 ⟨by omega, by omega⟩ (by decide) dX8_searches_295 (x_hn (fun h67 e68 => ?_))
                      have f69 : h67 (am 35 0) = some (eI D 6144 (fu Q1 (Int.toNat (((m1 : Nat) : Int))) (((cd F9 : Nat) : Int)))) := by rw [e68]; exact hu_s
                      refine x_iinc C (x := ((m1 : Nat) : Int)) (ls' := [(0, .ref (am 0 0)), (1, vI z), (2, vI w1), (3, vI ((((m1 : Nat) : Int)) + 1)), (4, vI ((k : Nat) : Int)), (5, vI ((i : Nat) : Int))]) dX8_searches_296 3 rfl (by decide) rfl ?_
                      refine x_iinc C (x := ((i : Nat) : Int)) (ls' := [(0, .ref (am 0 0)), (1, vI z), (2, vI w1), (3, vI ((((m1 : Nat) : Int)) + 1)), (4, vI ((k : Nat) : Int)), (5, vI ((((i : Nat) : Int)) + 1))]) dX8_searches_299 5 rfl (by decide) rfl ?_
                      refine x_goto (tgt := 131) C dX8_searches_302 (by decide) ?_
                      have cp70 : MP D am h (cu (cu (srM m F9.1 F9.2.1 F9.2.2.1 F9.2.2.2 Q1 F1 R1) 36 0 (fu F1 (Int.toNat (((cd F9 : Nat) : Int))) ((F1 p) + 1))) 35 0 (fu Q1 (Int.toNat (((m1 : Nat) : Int))) (((cd F9 : Nat) : Int)))) h67 := by rw [e68, e58]; exact (MP.up (MP.up cp36 (lm0 (by decide)) (fu F1 (Int.toNat (((cd F9 : Nat) : Int))) ((F1 p) + 1)) rfl) (lm0 (by decide)) (fu Q1 (Int.toNat (((m1 : Nat) : Int))) (((cd F9 : Nat) : Int))) rfl)
                      exact ihINN F9.1 F9.2.1 F9.2.2.2 w1 F9.2.2.1 (m1 + 1) k (fu Q1 (Int.toNat (((m1 : Nat) : Int))) (((cd F9 : Nat) : Int))) (fu F1 (Int.toNat (((cd F9 : Nat) : Int))) ((F1 p) + 1)) R1 (i + 1) h67 (BI.tryM hTok hBI hk9 (by omega) hp9 hF9 (by first | exact Or.inl ⟨by omega, rfl⟩ | exact Or.inr ⟨by omega, rfl⟩) (by first | exact Or.inl ⟨by omega, by omega, rfl⟩ | exact Or.inr ⟨by omega, rfl⟩) (by first | exact Or.inl ⟨by omega, by omega, rfl, rfl, rfl⟩ | exact Or.inr ⟨by omega, rfl, rfl, rfl⟩)) (by omega) (by omega) (hF7) (by first | exact R01 hR8 _ | exact hR8) (BQ.tryM (F := F9) hBI hBQ hk9 hp9 (by first | exact Or.inl ⟨by omega, by omega, rfl⟩ | exact Or.inr ⟨by omega, rfl⟩) (by first | exact Or.inl ⟨by omega, by omega, rfl, rfl, rfl⟩ | exact Or.inr ⟨by omega, rfl, rfl, rfl⟩)) (by omega) (by omega) (by have q9 := cp70; simp only [sr_R, sr_F, sr_Q] at q9; exact q9)
                · skip
                  refine x_iload_n C dX8_searches_222 2 rfl ?_
                  refine x_iconst C dX8_searches_223 (-1) (by decide) ?_
                  refine x_icmp_ne (tgt := 242) C dX8_searches_224 (by decide) (by omega) (by omega) (fun c71 => ?_) (fun c71 => ?_)
                  · skip
                    refine x_aload_n C dX8_searches_242 0 rfl ?_
                    refine x_get C (v := vI (F9.2.2.2)) f38 (T := TX8) rfl kX8_searches_1 34 (by decide) kX8_searches_5 rfl dX8_searches_243 ?_
                    refine x_iconst C dX8_searches_246 1 (by decide) ?_
                    refine x_icmp_ne (tgt := 299) C dX8_searches_247 (by decide) (by omega) (by omega) (fun c72 => ?_) (fun c72 => ?_)
                    · skip
                      refine x_iinc C (x := ((i : Nat) : Int)) (ls' := [(0, .ref (am 0 0)), (1, vI z), (2, vI w1), (3, vI ((m1 : Nat) : Int)), (4, vI ((k : Nat) : Int)), (5, vI ((((i : Nat) : Int)) + 1))]) dX8_searches_299 5 rfl (by decide) rfl ?_
                      refine x_goto (tgt := 131) C dX8_searches_302 (by decide) ?_
                      exact ihINN F9.1 F9.2.1 F9.2.2.2 w1 F9.2.2.1 m1 k Q1 F1 R1 (i + 1) h31 (BI.tryM hTok hBI hk9 (by omega) hp9 hF9 (by first | exact Or.inl ⟨by omega, rfl⟩ | exact Or.inr ⟨by omega, rfl⟩) (by first | exact Or.inl ⟨by omega, by omega, rfl⟩ | exact Or.inr ⟨by omega, rfl⟩) (by first | exact Or.inl ⟨by omega, by omega, rfl, rfl, rfl⟩ | exact Or.inr ⟨by omega, rfl, rfl, rfl⟩)) (by omega) (by omega) (hF7) (by first | exact R01 hR8 _ | exact hR8) (BQ.tryM (F := F9) hBI hBQ hk9 hp9 (by first | exact Or.inl ⟨by omega, by omega, rfl⟩ | exact Or.inr ⟨by omega, rfl⟩) (by first | exact Or.inl ⟨by omega, by omega, rfl, rfl, rfl⟩ | exact Or.inr ⟨by omega, rfl, rfl, rfl⟩)) (by omega) (by omega) (cp36)
                    · skip
                      refine x_aload_n C dX8_searches_250 0 rfl ?_
                      refine x_get C (v := .ref (am 36 0)) f38 (T := TX8) rfl kX8_searches_1 36 (by decide) kX8_searches_6 rfl dX8_searches_251 ?_
                      refine x_aload_n C dX8_searches_254 0 rfl ?_
                      refine x_callV C (n := 0) (qc := (RX8, TX8, 38)) (As := []) (rest := [.ref (am 36 0)]) (c_X8_code (cp36.1) (⟨b1, b2⟩) (⟨b3_, b4⟩) (⟨by show (0 : Int) ≤ ((F9.2.2.1 : Nat) : Int); omega, by show ((F9.2.2.1 : Nat) : Int) < 8; omega⟩)) gX8_searches_X8_code (by decide +kernel) f38 rfl rfl rfl rfl (Nat.le_of_ble_eq_true rfl) ⟨by decide, by decide⟩ ⟨(by decide), (by decide)⟩ dX8_searches_255 (fun rv73 h74 hp75 => ?_)
                      obtain ⟨rfl, e76⟩ := hp75
                      obtain rfl := e76.symm
                      refine x_topv (show ((pkc (((srM m F9.1 F9.2.1 F9.2.2.1 F9.2.2.2 Q1 F1 R1)) 0 0 31) (((srM m F9.1 F9.2.1 F9.2.2.1 F9.2.2.2 Q1 F1 R1)) 0 0 32) (((srM m F9.1 F9.2.1 F9.2.2.1 F9.2.2.2 Q1 F1 R1)) 0 0 33).toNat : Nat) : Int) = ((cd F9 : Nat) : Int) from by rfl) ?_
                      refine x_iald C f42 ⟨by omega, by omega⟩ (by decide) dX8_searches_258 ?_
                      refine x_topv (show F1 (Int.toNat (((cd F9 : Nat) : Int))) = F1 (cd F9) from by rfl) ?_
                      refine x_iconst C dX8_searches_259 (-1) (by decide) ?_
                      refine x_icmp_ne (tgt := 299) C dX8_searches_260 (by decide) (by omega) (by omega) (fun c77 => ?_) (fun c77 => ?_)
                      · skip
                        skip
                        refine x_iinc C (x := ((i : Nat) : Int)) (ls' := [(0, .ref (am 0 0)), (1, vI z), (2, vI w1), (3, vI ((m1 : Nat) : Int)), (4, vI ((k : Nat) : Int)), (5, vI ((((i : Nat) : Int)) + 1))]) dX8_searches_299 5 rfl (by decide) rfl ?_
                        refine x_goto (tgt := 131) C dX8_searches_302 (by decide) ?_
                        exact ihINN F9.1 F9.2.1 F9.2.2.2 w1 F9.2.2.1 m1 k Q1 F1 R1 (i + 1) h31 (BI.tryM hTok hBI hk9 (by omega) hp9 hF9 (by first | exact Or.inl ⟨by omega, rfl⟩ | exact Or.inr ⟨by omega, rfl⟩) (by first | exact Or.inl ⟨by omega, by omega, rfl⟩ | exact Or.inr ⟨by omega, rfl⟩) (by first | exact Or.inl ⟨by omega, by omega, rfl, rfl, rfl⟩ | exact Or.inr ⟨by omega, rfl, rfl, rfl⟩)) (by omega) (by omega) (hF7) (by first | exact R01 hR8 _ | exact hR8) (BQ.tryM (F := F9) hBI hBQ hk9 hp9 (by first | exact Or.inl ⟨by omega, by omega, rfl⟩ | exact Or.inr ⟨by omega, rfl⟩) (by first | exact Or.inl ⟨by omega, by omega, rfl, rfl, rfl⟩ | exact Or.inr ⟨by omega, rfl, rfl, rfl⟩)) (by omega) (by omega) (cp36)
                      · skip
                        refine x_aload_n C dX8_searches_263 0 rfl ?_
                        refine x_get C (v := .ref (am 36 0)) f38 (T := TX8) rfl kX8_searches_1 36 (by decide) kX8_searches_6 rfl dX8_searches_264 ?_
                        refine x_aload_n C dX8_searches_267 0 rfl ?_
                        refine x_callV C (n := 0) (qc := (RX8, TX8, 38)) (As := []) (rest := [.ref (am 36 0)]) (c_X8_code (cp36.1) (⟨b1, b2⟩) (⟨b3_, b4⟩) (⟨by show (0 : Int) ≤ ((F9.2.2.1 : Nat) : Int); omega, by show ((F9.2.2.1 : Nat) : Int) < 8; omega⟩)) gX8_searches_X8_code (by decide +kernel) f38 rfl rfl rfl rfl (Nat.le_of_ble_eq_true rfl) ⟨by decide, by decide⟩ ⟨(by decide), (by decide)⟩ dX8_searches_268 (fun rv78 h79 hp80 => ?_)
                        obtain ⟨rfl, e81⟩ := hp80
                        obtain rfl := e81.symm
                        refine x_topv (show ((pkc (((srM m F9.1 F9.2.1 F9.2.2.1 F9.2.2.2 Q1 F1 R1)) 0 0 31) (((srM m F9.1 F9.2.1 F9.2.2.1 F9.2.2.2 Q1 F1 R1)) 0 0 32) (((srM m F9.1 F9.2.1 F9.2.2.1 F9.2.2.2 Q1 F1 R1)) 0 0 33).toNat : Nat) : Int) = ((cd F9 : Nat) : Int) from by rfl) ?_
                        refine x_aload_n C dX8_searches_271 0 rfl ?_
                        refine x_get C (v := .ref (am 36 0)) f38 (T := TX8) rfl kX8_searches_1 36 (by decide) kX8_searches_6 rfl dX8_searches_272 ?_
                        refine x_aload_n C dX8_searches_275 0 rfl ?_
                        refine x_get C (v := .ref (am 35 0)) f38 (T := TX8) rfl kX8_searches_1 35 (by decide) kX8_searches_0 rfl dX8_searches_276 ?_
                        refine x_iload C dX8_searches_279 4 rfl ?_
                        refine x_iald C f40 ⟨by omega, by omega⟩ (by decide) dX8_searches_281 ?_
                        refine x_topv (show Q1 (Int.toNat (((k : Nat) : Int))) = ((p : Nat) : Int) from by exact hp9) ?_
                        refine x_iald C f42 ⟨by omega, by omega⟩ (by decide) dX8_searches_282 ?_
                        refine x_topv (show F1 (Int.toNat (((p : Nat) : Int))) = F1 p from by rfl) ?_
                        refine x_iconst C dX8_searches_283 1 (by decide) ?_
                        refine x_iadd C dX8_searches_284 ?_
                        refine x_iast C f42 ⟨by omega, by omega⟩ (by decide) dX8_searches_285 (x_hn (fun h82 e83 => ?_))
                        have f84 : h82 (am 36 0) = some (eI D 6144 (fu F1 (Int.toNat (((cd F9 : Nat) : Int))) ((F1 p) + 1))) := by rw [e83]; exact hu_s
                        have hlt9 := hBI.lt hcd (show F1 (cd F9) = -1 by omega)
                        refine x_aload_n C dX8_searches_286 0 rfl ?_
                        have f85 : h82 (am 0 0) = some (eO 8 [vI (((srM m F9.1 F9.2.1 F9.2.2.1 F9.2.2.2 Q1 F1 R1) 0 0) 0), .ref (am 1 0), vI (((srM m F9.1 F9.2.1 F9.2.2.1 F9.2.2.2 Q1 F1 R1) 0 0) 2), .ref (am 3 0), .ref (am 4 0), .ref (am 5 0), .ref (am 6 0), .ref (am 7 0), .ref (am 8 0), .ref (am 9 0), .ref (am 10 0), .ref (am 11 0), .ref (am 12 0), .ref (am 13 0), vI (((srM m F9.1 F9.2.1 F9.2.2.1 F9.2.2.2 Q1 F1 R1) 0 0) 14), .ref (am 15 0), .ref (am 16 0), .ref (am 17 0), .ref (am 18 0), .ref (am 19 0), .ref (am 20 0), .ref (am 21 0), .ref (am 22 0), .ref (am 23 0), .ref (am 24 0), .ref (am 25 0), .ref (am 26 0), .ref (am 27 0), .ref (am 28 0), .ref (am 29 0), vI (((((srM m F9.1 F9.2.1 F9.2.2.1 F9.2.2.2 Q1 F1 R1) 0 0) 30).toNat : Nat) : Int), vI (F9.1), vI (F9.2.1), vI ((F9.2.2.1 : Nat) : Int), vI (F9.2.2.2), .ref (am 35 0), .ref (am 36 0), .ref (am 37 0)]) := by rw [e83, hu_n (cp36.1.ne (lm0 (by decide)) (lm0 (by decide)) (fun zz9 => absurd zz9.1 (by decide)))]; exact f38
                        refine x_get C (v := .ref (am 35 0)) f85 (T := TX8) rfl kX8_searches_1 35 (by decide) kX8_searches_0 rfl dX8_searches_287 ?_
                        refine x_iload_n C dX8_searches_290 3 rfl ?_
                        refine x_aload_n C dX8_searches_291 0 rfl ?_
                        have cp86 : MP D am h (cu (srM m F9.1 F9.2.1 F9.2.2.1 F9.2.2.2 Q1 F1 R1) 36 0 (fu F1 (Int.toNat (((cd F9 : Nat) : Int))) ((F1 p) + 1))) h82 := by rw [e83]; exact (MP.up cp36 (lm0 (by decide)) (fu F1 (Int.toNat (((cd F9 : Nat) : Int))) ((F1 p) + 1)) rfl)
                        refine x_callV C (n := 0) (qc := (RX8, TX8, 38)) (As := []) (rest := [vI ((m1 : Nat) : Int), .ref (am 35 0)]) (c_X8_code (cp86.1) (⟨b1, b2⟩) (⟨b3_, b4⟩) (⟨by show (0 : Int) ≤ ((F9.2.2.1 : Nat) : Int); omega, by show ((F9.2.2.1 : Nat) : Int) < 8; omega⟩)) gX8_searches_X8_code (by decide +kernel) f85 rfl rfl rfl rfl (Nat.le_of_ble_eq_true rfl) ⟨by decide, by decide⟩ ⟨(by decide), (by decide)⟩ dX8_searches_292 (fun rv87 h88 hp89 => ?_)
                        obtain ⟨rfl, e90⟩ := hp89
                        obtain rfl := e90.symm
                        refine x_topv (show ((pkc (((cu (srM m F9.1 F9.2.1 F9.2.2.1 F9.2.2.2 Q1 F1 R1) 36 0 (fu F1 (Int.toNat (((cd F9 : Nat) : Int))) ((F1 p) + 1)))) 0 0 31) (((cu (srM m F9.1 F9.2.1 F9.2.2.1 F9.2.2.2 Q1 F1 R1) 36 0 (fu F1 (Int.toNat (((cd F9 : Nat) : Int))) ((F1 p) + 1)))) 0 0 32) (((cu (srM m F9.1 F9.2.1 F9.2.2.1 F9.2.2.2 Q1 F1 R1) 36 0 (fu F1 (Int.toNat (((cd F9 : Nat) : Int))) ((F1 p) + 1)))) 0 0 33).toNat : Nat) : Int) = ((cd F9 : Nat) : Int) from by rfl) ?_
                        have f91 : h82 (am 35 0) = some (eI D 6144 Q1) := by rw [e83, hu_n (cp36.1.ne (lm0 (by decide)) (lm0 (by decide)) (fun zz9 => absurd zz9.1 (by decide)))]; exact f40
                        refine x_iast C f91 ⟨by omega, by omega⟩ (by decide) dX8_searches_295 (x_hn (fun h92 e93 => ?_))
                        have f94 : h92 (am 35 0) = some (eI D 6144 (fu Q1 (Int.toNat (((m1 : Nat) : Int))) (((cd F9 : Nat) : Int)))) := by rw [e93]; exact hu_s
                        refine x_iinc C (x := ((m1 : Nat) : Int)) (ls' := [(0, .ref (am 0 0)), (1, vI z), (2, vI w1), (3, vI ((((m1 : Nat) : Int)) + 1)), (4, vI ((k : Nat) : Int)), (5, vI ((i : Nat) : Int))]) dX8_searches_296 3 rfl (by decide) rfl ?_
                        refine x_iinc C (x := ((i : Nat) : Int)) (ls' := [(0, .ref (am 0 0)), (1, vI z), (2, vI w1), (3, vI ((((m1 : Nat) : Int)) + 1)), (4, vI ((k : Nat) : Int)), (5, vI ((((i : Nat) : Int)) + 1))]) dX8_searches_299 5 rfl (by decide) rfl ?_
                        refine x_goto (tgt := 131) C dX8_searches_302 (by decide) ?_
                        have cp95 : MP D am h (cu (cu (srM m F9.1 F9.2.1 F9.2.2.1 F9.2.2.2 Q1 F1 R1) 36 0 (fu F1 (Int.toNat (((cd F9 : Nat) : Int))) ((F1 p) + 1))) 35 0 (fu Q1 (Int.toNat (((m1 : Nat) : Int))) (((cd F9 : Nat) : Int)))) h92 := by rw [e93, e83]; exact (MP.up (MP.up cp36 (lm0 (by decide)) (fu F1 (Int.toNat (((cd F9 : Nat) : Int))) ((F1 p) + 1)) rfl) (lm0 (by decide)) (fu Q1 (Int.toNat (((m1 : Nat) : Int))) (((cd F9 : Nat) : Int))) rfl)
                        exact ihINN F9.1 F9.2.1 F9.2.2.2 w1 F9.2.2.1 (m1 + 1) k (fu Q1 (Int.toNat (((m1 : Nat) : Int))) (((cd F9 : Nat) : Int))) (fu F1 (Int.toNat (((cd F9 : Nat) : Int))) ((F1 p) + 1)) R1 (i + 1) h92 (BI.tryM hTok hBI hk9 (by omega) hp9 hF9 (by first | exact Or.inl ⟨by omega, rfl⟩ | exact Or.inr ⟨by omega, rfl⟩) (by first | exact Or.inl ⟨by omega, by omega, rfl⟩ | exact Or.inr ⟨by omega, rfl⟩) (by first | exact Or.inl ⟨by omega, by omega, rfl, rfl, rfl⟩ | exact Or.inr ⟨by omega, rfl, rfl, rfl⟩)) (by omega) (by omega) (hF7) (by first | exact R01 hR8 _ | exact hR8) (BQ.tryM (F := F9) hBI hBQ hk9 hp9 (by first | exact Or.inl ⟨by omega, by omega, rfl⟩ | exact Or.inr ⟨by omega, rfl⟩) (by first | exact Or.inl ⟨by omega, by omega, rfl, rfl, rfl⟩ | exact Or.inr ⟨by omega, rfl, rfl, rfl⟩)) (by omega) (by omega) (by have q9 := cp95; simp only [sr_R, sr_F, sr_Q] at q9; exact q9)
                  · skip
                    refine x_aload_n C dX8_searches_227 0 rfl ?_
                    refine x_get C (v := .ref (am 36 0)) f38 (T := TX8) rfl kX8_searches_1 36 (by decide) kX8_searches_6 rfl dX8_searches_228 ?_
                    refine x_aload_n C dX8_searches_231 0 rfl ?_
                    refine x_get C (v := .ref (am 35 0)) f38 (T := TX8) rfl kX8_searches_1 35 (by decide) kX8_searches_0 rfl dX8_searches_232 ?_
                    refine x_iload C dX8_searches_235 4 rfl ?_
                    refine x_iald C f40 ⟨by omega, by omega⟩ (by decide) dX8_searches_237 ?_
                    refine x_topv (show Q1 (Int.toNat (((k : Nat) : Int))) = ((p : Nat) : Int) from by exact hp9) ?_
                    refine x_iald C f42 ⟨by omega, by omega⟩ (by decide) dX8_searches_238 ?_
                    refine x_topv (show F1 (Int.toNat (((p : Nat) : Int))) = F1 p from by rfl) ?_
                    refine x_iconst C dX8_searches_239 1 (by decide) ?_
                    refine x_iadd C dX8_searches_240 ?_
                    refine x_istore_n C (ls' := [(0, .ref (am 0 0)), (1, vI z), (2, vI ((F1 p) + 1)), (3, vI ((m1 : Nat) : Int)), (4, vI ((k : Nat) : Int)), (5, vI ((i : Nat) : Int))]) dX8_searches_241 (by decide) rfl ?_
                    refine x_aload_n C dX8_searches_242 0 rfl ?_
                    refine x_get C (v := vI (F9.2.2.2)) f38 (T := TX8) rfl kX8_searches_1 34 (by decide) kX8_searches_5 rfl dX8_searches_243 ?_
                    refine x_iconst C dX8_searches_246 1 (by decide) ?_
                    refine x_icmp_ne (tgt := 299) C dX8_searches_247 (by decide) (by omega) (by omega) (fun c96 => ?_) (fun c96 => ?_)
                    · skip
                      refine x_iinc C (x := ((i : Nat) : Int)) (ls' := [(0, .ref (am 0 0)), (1, vI z), (2, vI ((F1 p) + 1)), (3, vI ((m1 : Nat) : Int)), (4, vI ((k : Nat) : Int)), (5, vI ((((i : Nat) : Int)) + 1))]) dX8_searches_299 5 rfl (by decide) rfl ?_
                      refine x_goto (tgt := 131) C dX8_searches_302 (by decide) ?_
                      exact ihINN F9.1 F9.2.1 F9.2.2.2 ((F1 p) + 1) F9.2.2.1 m1 k Q1 F1 R1 (i + 1) h31 (BI.tryM hTok hBI hk9 (by omega) hp9 hF9 (by first | exact Or.inl ⟨by omega, rfl⟩ | exact Or.inr ⟨by omega, rfl⟩) (by first | exact Or.inl ⟨by omega, by omega, rfl⟩ | exact Or.inr ⟨by omega, rfl⟩) (by first | exact Or.inl ⟨by omega, by omega, rfl, rfl, rfl⟩ | exact Or.inr ⟨by omega, rfl, rfl, rfl⟩)) (by omega) (by omega) (hF7) (by first | exact R01 hR8 _ | exact hR8) (BQ.tryM (F := F9) hBI hBQ hk9 hp9 (by first | exact Or.inl ⟨by omega, by omega, rfl⟩ | exact Or.inr ⟨by omega, rfl⟩) (by first | exact Or.inl ⟨by omega, by omega, rfl, rfl, rfl⟩ | exact Or.inr ⟨by omega, rfl, rfl, rfl⟩)) (by omega) (by omega) (cp36)
                    · skip
                      refine x_aload_n C dX8_searches_250 0 rfl ?_
                      refine x_get C (v := .ref (am 36 0)) f38 (T := TX8) rfl kX8_searches_1 36 (by decide) kX8_searches_6 rfl dX8_searches_251 ?_
                      refine x_aload_n C dX8_searches_254 0 rfl ?_
                      refine x_callV C (n := 0) (qc := (RX8, TX8, 38)) (As := []) (rest := [.ref (am 36 0)]) (c_X8_code (cp36.1) (⟨b1, b2⟩) (⟨b3_, b4⟩) (⟨by show (0 : Int) ≤ ((F9.2.2.1 : Nat) : Int); omega, by show ((F9.2.2.1 : Nat) : Int) < 8; omega⟩)) gX8_searches_X8_code (by decide +kernel) f38 rfl rfl rfl rfl (Nat.le_of_ble_eq_true rfl) ⟨by decide, by decide⟩ ⟨(by decide), (by decide)⟩ dX8_searches_255 (fun rv97 h98 hp99 => ?_)
                      obtain ⟨rfl, e100⟩ := hp99
                      obtain rfl := e100.symm
                      refine x_topv (show ((pkc (((srM m F9.1 F9.2.1 F9.2.2.1 F9.2.2.2 Q1 F1 R1)) 0 0 31) (((srM m F9.1 F9.2.1 F9.2.2.1 F9.2.2.2 Q1 F1 R1)) 0 0 32) (((srM m F9.1 F9.2.1 F9.2.2.1 F9.2.2.2 Q1 F1 R1)) 0 0 33).toNat : Nat) : Int) = ((cd F9 : Nat) : Int) from by rfl) ?_
                      refine x_iald C f42 ⟨by omega, by omega⟩ (by decide) dX8_searches_258 ?_
                      refine x_topv (show F1 (Int.toNat (((cd F9 : Nat) : Int))) = F1 (cd F9) from by rfl) ?_
                      refine x_iconst C dX8_searches_259 (-1) (by decide) ?_
                      refine x_icmp_ne (tgt := 299) C dX8_searches_260 (by decide) (by omega) (by omega) (fun c101 => ?_) (fun c101 => ?_)
                      · skip
                        skip
                        refine x_iinc C (x := ((i : Nat) : Int)) (ls' := [(0, .ref (am 0 0)), (1, vI z), (2, vI ((F1 p) + 1)), (3, vI ((m1 : Nat) : Int)), (4, vI ((k : Nat) : Int)), (5, vI ((((i : Nat) : Int)) + 1))]) dX8_searches_299 5 rfl (by decide) rfl ?_
                        refine x_goto (tgt := 131) C dX8_searches_302 (by decide) ?_
                        exact ihINN F9.1 F9.2.1 F9.2.2.2 ((F1 p) + 1) F9.2.2.1 m1 k Q1 F1 R1 (i + 1) h31 (BI.tryM hTok hBI hk9 (by omega) hp9 hF9 (by first | exact Or.inl ⟨by omega, rfl⟩ | exact Or.inr ⟨by omega, rfl⟩) (by first | exact Or.inl ⟨by omega, by omega, rfl⟩ | exact Or.inr ⟨by omega, rfl⟩) (by first | exact Or.inl ⟨by omega, by omega, rfl, rfl, rfl⟩ | exact Or.inr ⟨by omega, rfl, rfl, rfl⟩)) (by omega) (by omega) (hF7) (by first | exact R01 hR8 _ | exact hR8) (BQ.tryM (F := F9) hBI hBQ hk9 hp9 (by first | exact Or.inl ⟨by omega, by omega, rfl⟩ | exact Or.inr ⟨by omega, rfl⟩) (by first | exact Or.inl ⟨by omega, by omega, rfl, rfl, rfl⟩ | exact Or.inr ⟨by omega, rfl, rfl, rfl⟩)) (by omega) (by omega) (cp36)
                      · skip
                        refine x_aload_n C dX8_searches_263 0 rfl ?_
                        refine x_get C (v := .ref (am 36 0)) f38 (T := TX8) rfl kX8_searches_1 36 (by decide) kX8_searches_6 rfl dX8_searches_264 ?_
                        refine x_aload_n C dX8_searches_267 0 rfl ?_
                        refine x_callV C (n := 0) (qc := (RX8, TX8, 38)) (As := []) (rest := [.ref (am 36 0)]) (c_X8_code (cp36.1) (⟨b1, b2⟩) (⟨b3_, b4⟩) (⟨by show (0 : Int) ≤ ((F9.2.2.1 : Nat) : Int); omega, by show ((F9.2.2.1 : Nat) : Int) < 8; omega⟩)) gX8_searches_X8_code (by decide +kernel) f38 rfl rfl rfl rfl (Nat.le_of_ble_eq_true rfl) ⟨by decide, by decide⟩ ⟨(by decide), (by decide)⟩ dX8_searches_268 (fun rv102 h103 hp104 => ?_)
                        obtain ⟨rfl, e105⟩ := hp104
                        obtain rfl := e105.symm
                        refine x_topv (show ((pkc (((srM m F9.1 F9.2.1 F9.2.2.1 F9.2.2.2 Q1 F1 R1)) 0 0 31) (((srM m F9.1 F9.2.1 F9.2.2.1 F9.2.2.2 Q1 F1 R1)) 0 0 32) (((srM m F9.1 F9.2.1 F9.2.2.1 F9.2.2.2 Q1 F1 R1)) 0 0 33).toNat : Nat) : Int) = ((cd F9 : Nat) : Int) from by rfl) ?_
                        refine x_aload_n C dX8_searches_271 0 rfl ?_
                        refine x_get C (v := .ref (am 36 0)) f38 (T := TX8) rfl kX8_searches_1 36 (by decide) kX8_searches_6 rfl dX8_searches_272 ?_
                        refine x_aload_n C dX8_searches_275 0 rfl ?_
                        refine x_get C (v := .ref (am 35 0)) f38 (T := TX8) rfl kX8_searches_1 35 (by decide) kX8_searches_0 rfl dX8_searches_276 ?_
                        refine x_iload C dX8_searches_279 4 rfl ?_
                        refine x_iald C f40 ⟨by omega, by omega⟩ (by decide) dX8_searches_281 ?_
                        refine x_topv (show Q1 (Int.toNat (((k : Nat) : Int))) = ((p : Nat) : Int) from by exact hp9) ?_
                        refine x_iald C f42 ⟨by omega, by omega⟩ (by decide) dX8_searches_282 ?_
                        refine x_topv (show F1 (Int.toNat (((p : Nat) : Int))) = F1 p from by rfl) ?_
                        refine x_iconst C dX8_searches_283 1 (by decide) ?_
                        refine x_iadd C dX8_searches_284 ?_
                        refine x_iast C f42 ⟨by omega, by omega⟩ (by decide) dX8_searches_285 (x_hn (fun h106 e107 => ?_))
                        have f108 : h106 (am 36 0) = some (eI D 6144 (fu F1 (Int.toNat (((cd F9 : Nat) : Int))) ((F1 p) + 1))) := by rw [e107]; exact hu_s
                        have hlt9 := hBI.lt hcd (show F1 (cd F9) = -1 by omega)
                        refine x_aload_n C dX8_searches_286 0 rfl ?_
                        have f109 : h106 (am 0 0) = some (eO 8 [vI (((srM m F9.1 F9.2.1 F9.2.2.1 F9.2.2.2 Q1 F1 R1) 0 0) 0), .ref (am 1 0), vI (((srM m F9.1 F9.2.1 F9.2.2.1 F9.2.2.2 Q1 F1 R1) 0 0) 2), .ref (am 3 0), .ref (am 4 0), .ref (am 5 0), .ref (am 6 0), .ref (am 7 0), .ref (am 8 0), .ref (am 9 0), .ref (am 10 0), .ref (am 11 0), .ref (am 12 0), .ref (am 13 0), vI (((srM m F9.1 F9.2.1 F9.2.2.1 F9.2.2.2 Q1 F1 R1) 0 0) 14), .ref (am 15 0), .ref (am 16 0), .ref (am 17 0), .ref (am 18 0), .ref (am 19 0), .ref (am 20 0), .ref (am 21 0), .ref (am 22 0), .ref (am 23 0), .ref (am 24 0), .ref (am 25 0), .ref (am 26 0), .ref (am 27 0), .ref (am 28 0), .ref (am 29 0), vI (((((srM m F9.1 F9.2.1 F9.2.2.1 F9.2.2.2 Q1 F1 R1) 0 0) 30).toNat : Nat) : Int), vI (F9.1), vI (F9.2.1), vI ((F9.2.2.1 : Nat) : Int), vI (F9.2.2.2), .ref (am 35 0), .ref (am 36 0), .ref (am 37 0)]) := by rw [e107, hu_n (cp36.1.ne (lm0 (by decide)) (lm0 (by decide)) (fun zz9 => absurd zz9.1 (by decide)))]; exact f38
                        refine x_get C (v := .ref (am 35 0)) f109 (T := TX8) rfl kX8_searches_1 35 (by decide) kX8_searches_0 rfl dX8_searches_287 ?_
                        refine x_iload_n C dX8_searches_290 3 rfl ?_
                        refine x_aload_n C dX8_searches_291 0 rfl ?_
                        have cp110 : MP D am h (cu (srM m F9.1 F9.2.1 F9.2.2.1 F9.2.2.2 Q1 F1 R1) 36 0 (fu F1 (Int.toNat (((cd F9 : Nat) : Int))) ((F1 p) + 1))) h106 := by rw [e107]; exact (MP.up cp36 (lm0 (by decide)) (fu F1 (Int.toNat (((cd F9 : Nat) : Int))) ((F1 p) + 1)) rfl)
                        refine x_callV C (n := 0) (qc := (RX8, TX8, 38)) (As := []) (rest := [vI ((m1 : Nat) : Int), .ref (am 35 0)]) (c_X8_code (cp110.1) (⟨b1, b2⟩) (⟨b3_, b4⟩) (⟨by show (0 : Int) ≤ ((F9.2.2.1 : Nat) : Int); omega, by show ((F9.2.2.1 : Nat) : Int) < 8; omega⟩)) gX8_searches_X8_code (by decide +kernel) f109 rfl rfl rfl rfl (Nat.le_of_ble_eq_true rfl) ⟨by decide, by decide⟩ ⟨(by decide), (by decide)⟩ dX8_searches_292 (fun rv111 h112 hp113 => ?_)
                        obtain ⟨rfl, e114⟩ := hp113
                        obtain rfl := e114.symm
                        refine x_topv (show ((pkc (((cu (srM m F9.1 F9.2.1 F9.2.2.1 F9.2.2.2 Q1 F1 R1) 36 0 (fu F1 (Int.toNat (((cd F9 : Nat) : Int))) ((F1 p) + 1)))) 0 0 31) (((cu (srM m F9.1 F9.2.1 F9.2.2.1 F9.2.2.2 Q1 F1 R1) 36 0 (fu F1 (Int.toNat (((cd F9 : Nat) : Int))) ((F1 p) + 1)))) 0 0 32) (((cu (srM m F9.1 F9.2.1 F9.2.2.1 F9.2.2.2 Q1 F1 R1) 36 0 (fu F1 (Int.toNat (((cd F9 : Nat) : Int))) ((F1 p) + 1)))) 0 0 33).toNat : Nat) : Int) = ((cd F9 : Nat) : Int) from by rfl) ?_
                        have f115 : h106 (am 35 0) = some (eI D 6144 Q1) := by rw [e107, hu_n (cp36.1.ne (lm0 (by decide)) (lm0 (by decide)) (fun zz9 => absurd zz9.1 (by decide)))]; exact f40
                        refine x_iast C f115 ⟨by omega, by omega⟩ (by decide) dX8_searches_295 (x_hn (fun h116 e117 => ?_))
                        have f118 : h116 (am 35 0) = some (eI D 6144 (fu Q1 (Int.toNat (((m1 : Nat) : Int))) (((cd F9 : Nat) : Int)))) := by rw [e117]; exact hu_s
                        refine x_iinc C (x := ((m1 : Nat) : Int)) (ls' := [(0, .ref (am 0 0)), (1, vI z), (2, vI ((F1 p) + 1)), (3, vI ((((m1 : Nat) : Int)) + 1)), (4, vI ((k : Nat) : Int)), (5, vI ((i : Nat) : Int))]) dX8_searches_296 3 rfl (by decide) rfl ?_
                        refine x_iinc C (x := ((i : Nat) : Int)) (ls' := [(0, .ref (am 0 0)), (1, vI z), (2, vI ((F1 p) + 1)), (3, vI ((((m1 : Nat) : Int)) + 1)), (4, vI ((k : Nat) : Int)), (5, vI ((((i : Nat) : Int)) + 1))]) dX8_searches_299 5 rfl (by decide) rfl ?_
                        refine x_goto (tgt := 131) C dX8_searches_302 (by decide) ?_
                        have cp119 : MP D am h (cu (cu (srM m F9.1 F9.2.1 F9.2.2.1 F9.2.2.2 Q1 F1 R1) 36 0 (fu F1 (Int.toNat (((cd F9 : Nat) : Int))) ((F1 p) + 1))) 35 0 (fu Q1 (Int.toNat (((m1 : Nat) : Int))) (((cd F9 : Nat) : Int)))) h116 := by rw [e117, e107]; exact (MP.up (MP.up cp36 (lm0 (by decide)) (fu F1 (Int.toNat (((cd F9 : Nat) : Int))) ((F1 p) + 1)) rfl) (lm0 (by decide)) (fu Q1 (Int.toNat (((m1 : Nat) : Int))) (((cd F9 : Nat) : Int))) rfl)
                        exact ihINN F9.1 F9.2.1 F9.2.2.2 ((F1 p) + 1) F9.2.2.1 (m1 + 1) k (fu Q1 (Int.toNat (((m1 : Nat) : Int))) (((cd F9 : Nat) : Int))) (fu F1 (Int.toNat (((cd F9 : Nat) : Int))) ((F1 p) + 1)) R1 (i + 1) h116 (BI.tryM hTok hBI hk9 (by omega) hp9 hF9 (by first | exact Or.inl ⟨by omega, rfl⟩ | exact Or.inr ⟨by omega, rfl⟩) (by first | exact Or.inl ⟨by omega, by omega, rfl⟩ | exact Or.inr ⟨by omega, rfl⟩) (by first | exact Or.inl ⟨by omega, by omega, rfl, rfl, rfl⟩ | exact Or.inr ⟨by omega, rfl, rfl, rfl⟩)) (by omega) (by omega) (hF7) (by first | exact R01 hR8 _ | exact hR8) (BQ.tryM (F := F9) hBI hBQ hk9 hp9 (by first | exact Or.inl ⟨by omega, by omega, rfl⟩ | exact Or.inr ⟨by omega, rfl⟩) (by first | exact Or.inl ⟨by omega, by omega, rfl, rfl, rfl⟩ | exact Or.inr ⟨by omega, rfl, rfl, rfl⟩)) (by omega) (by omega) (by have q9 := cp119; simp only [sr_R, sr_F, sr_Q] at q9; exact q9)
              · skip
                refine x_aload_n C dX8_searches_204 0 rfl ?_
                refine x_get C (v := .ref (am 37 0)) f38 (T := TX8) rfl kX8_searches_1 37 (by decide) kX8_searches_7 rfl dX8_searches_205 ?_
                refine x_aload_n C dX8_searches_208 0 rfl ?_
                refine x_get C (v := vI (F9.1)) f38 (T := TX8) rfl kX8_searches_1 31 (by decide) kX8_searches_2 rfl dX8_searches_209 ?_
                refine x_iconst C dX8_searches_212 1 (by decide) ?_
                refine x_zast C f44 ⟨by omega, by omega⟩ (by decide) (by omega) dX8_searches_213 (x_hn (fun h120 e121 => ?_))
                have f122 : h120 (am 37 0) = some (eZ D 96 (fu R1 (Int.toNat F9.1) 1)) := by rw [e121]; exact hu_s
                refine x_aload_n C dX8_searches_214 0 rfl ?_
                have f123 : h120 (am 0 0) = some (eO 8 [vI (((srM m F9.1 F9.2.1 F9.2.2.1 F9.2.2.2 Q1 F1 R1) 0 0) 0), .ref (am 1 0), vI (((srM m F9.1 F9.2.1 F9.2.2.1 F9.2.2.2 Q1 F1 R1) 0 0) 2), .ref (am 3 0), .ref (am 4 0), .ref (am 5 0), .ref (am 6 0), .ref (am 7 0), .ref (am 8 0), .ref (am 9 0), .ref (am 10 0), .ref (am 11 0), .ref (am 12 0), .ref (am 13 0), vI (((srM m F9.1 F9.2.1 F9.2.2.1 F9.2.2.2 Q1 F1 R1) 0 0) 14), .ref (am 15 0), .ref (am 16 0), .ref (am 17 0), .ref (am 18 0), .ref (am 19 0), .ref (am 20 0), .ref (am 21 0), .ref (am 22 0), .ref (am 23 0), .ref (am 24 0), .ref (am 25 0), .ref (am 26 0), .ref (am 27 0), .ref (am 28 0), .ref (am 29 0), vI (((((srM m F9.1 F9.2.1 F9.2.2.1 F9.2.2.2 Q1 F1 R1) 0 0) 30).toNat : Nat) : Int), vI (F9.1), vI (F9.2.1), vI ((F9.2.2.1 : Nat) : Int), vI (F9.2.2.2), .ref (am 35 0), .ref (am 36 0), .ref (am 37 0)]) := by rw [e121, hu_n (cp36.1.ne (lm0 (by decide)) (lm0 (by decide)) (fun zz9 => absurd zz9.1 (by decide)))]; exact f38
                refine x_get C (v := vI (F9.2.2.2)) f123 (T := TX8) rfl kX8_searches_1 34 (by decide) kX8_searches_5 rfl dX8_searches_215 ?_
                refine x_iconst C dX8_searches_218 2 (by decide) ?_
                refine x_icmp_ne (tgt := 242) C dX8_searches_219 (by decide) (by omega) (by omega) (fun c124 => ?_) (fun c124 => ?_)
                · skip
                  refine x_aload_n C dX8_searches_242 0 rfl ?_
                  refine x_get C (v := vI (F9.2.2.2)) f123 (T := TX8) rfl kX8_searches_1 34 (by decide) kX8_searches_5 rfl dX8_searches_243 ?_
                  refine x_iconst C dX8_searches_246 1 (by decide) ?_
                  refine x_icmp_ne (tgt := 299) C dX8_searches_247 (by decide) (by omega) (by omega) (fun c125 => ?_) (fun c125 => ?_)
                  · skip
                    refine x_iinc C (x := ((i : Nat) : Int)) (ls' := [(0, .ref (am 0 0)), (1, vI z), (2, vI w1), (3, vI ((m1 : Nat) : Int)), (4, vI ((k : Nat) : Int)), (5, vI ((((i : Nat) : Int)) + 1))]) dX8_searches_299 5 rfl (by decide) rfl ?_
                    refine x_goto (tgt := 131) C dX8_searches_302 (by decide) ?_
                    have cp126 : MP D am h (cu (srM m F9.1 F9.2.1 F9.2.2.1 F9.2.2.2 Q1 F1 R1) 37 0 (fu R1 (Int.toNat F9.1) 1)) h120 := by rw [e121]; exact (MP.up cp36 (lm0 (by decide)) (fu R1 (Int.toNat F9.1) 1) rfl)
                    exact ihINN F9.1 F9.2.1 F9.2.2.2 w1 F9.2.2.1 m1 k Q1 F1 (fu R1 (Int.toNat F9.1) 1) (i + 1) h120 (BI.tryM hTok hBI hk9 (by omega) hp9 hF9 (by first | exact Or.inl ⟨by omega, rfl⟩ | exact Or.inr ⟨by omega, rfl⟩) (by first | exact Or.inl ⟨by omega, by omega, rfl⟩ | exact Or.inr ⟨by omega, rfl⟩) (by first | exact Or.inl ⟨by omega, by omega, rfl, rfl, rfl⟩ | exact Or.inr ⟨by omega, rfl, rfl, rfl⟩)) (by omega) (by omega) (hF7) (by first | exact R01 hR8 _ | exact hR8) (BQ.tryM (F := F9) hBI hBQ hk9 hp9 (by first | exact Or.inl ⟨by omega, by omega, rfl⟩ | exact Or.inr ⟨by omega, rfl⟩) (by first | exact Or.inl ⟨by omega, by omega, rfl, rfl, rfl⟩ | exact Or.inr ⟨by omega, rfl, rfl, rfl⟩)) (by omega) (by omega) (by have q9 := cp126; simp only [sr_R, sr_F, sr_Q] at q9; exact q9)
                  · skip
                    refine x_aload_n C dX8_searches_250 0 rfl ?_
                    refine x_get C (v := .ref (am 36 0)) f123 (T := TX8) rfl kX8_searches_1 36 (by decide) kX8_searches_6 rfl dX8_searches_251 ?_
                    refine x_aload_n C dX8_searches_254 0 rfl ?_
                    have cp127 : MP D am h (cu (srM m F9.1 F9.2.1 F9.2.2.1 F9.2.2.2 Q1 F1 R1) 37 0 (fu R1 (Int.toNat F9.1) 1)) h120 := by rw [e121]; exact (MP.up cp36 (lm0 (by decide)) (fu R1 (Int.toNat F9.1) 1) rfl)
                    refine x_callV C (n := 0) (qc := (RX8, TX8, 38)) (As := []) (rest := [.ref (am 36 0)]) (c_X8_code (cp127.1) (⟨b1, b2⟩) (⟨b3_, b4⟩) (⟨by show (0 : Int) ≤ ((F9.2.2.1 : Nat) : Int); omega, by show ((F9.2.2.1 : Nat) : Int) < 8; omega⟩)) gX8_searches_X8_code (by decide +kernel) f123 rfl rfl rfl rfl (Nat.le_of_ble_eq_true rfl) ⟨by decide, by decide⟩ ⟨(by decide), (by decide)⟩ dX8_searches_255 (fun rv128 h129 hp130 => ?_)
                    obtain ⟨rfl, e131⟩ := hp130
                    obtain rfl := e131.symm
                    refine x_topv (show ((pkc (((cu (srM m F9.1 F9.2.1 F9.2.2.1 F9.2.2.2 Q1 F1 R1) 37 0 (fu R1 (Int.toNat F9.1) 1))) 0 0 31) (((cu (srM m F9.1 F9.2.1 F9.2.2.1 F9.2.2.2 Q1 F1 R1) 37 0 (fu R1 (Int.toNat F9.1) 1))) 0 0 32) (((cu (srM m F9.1 F9.2.1 F9.2.2.1 F9.2.2.2 Q1 F1 R1) 37 0 (fu R1 (Int.toNat F9.1) 1))) 0 0 33).toNat : Nat) : Int) = ((cd F9 : Nat) : Int) from by rfl) ?_
                    have f132 : h120 (am 36 0) = some (eI D 6144 F1) := by rw [e121, hu_n (cp36.1.ne (lm0 (by decide)) (lm0 (by decide)) (fun zz9 => absurd zz9.1 (by decide)))]; exact f42
                    refine x_iald C f132 ⟨by omega, by omega⟩ (by decide) dX8_searches_258 ?_
                    refine x_topv (show F1 (Int.toNat (((cd F9 : Nat) : Int))) = F1 (cd F9) from by rfl) ?_
                    refine x_iconst C dX8_searches_259 (-1) (by decide) ?_
                    refine x_icmp_ne (tgt := 299) C dX8_searches_260 (by decide) (by omega) (by omega) (fun c133 => ?_) (fun c133 => ?_)
                    · skip
                      skip
                      refine x_iinc C (x := ((i : Nat) : Int)) (ls' := [(0, .ref (am 0 0)), (1, vI z), (2, vI w1), (3, vI ((m1 : Nat) : Int)), (4, vI ((k : Nat) : Int)), (5, vI ((((i : Nat) : Int)) + 1))]) dX8_searches_299 5 rfl (by decide) rfl ?_
                      refine x_goto (tgt := 131) C dX8_searches_302 (by decide) ?_
                      have cp134 : MP D am h (cu (srM m F9.1 F9.2.1 F9.2.2.1 F9.2.2.2 Q1 F1 R1) 37 0 (fu R1 (Int.toNat F9.1) 1)) h120 := by rw [e121]; exact (MP.up cp36 (lm0 (by decide)) (fu R1 (Int.toNat F9.1) 1) rfl)
                      exact ihINN F9.1 F9.2.1 F9.2.2.2 w1 F9.2.2.1 m1 k Q1 F1 (fu R1 (Int.toNat F9.1) 1) (i + 1) h120 (BI.tryM hTok hBI hk9 (by omega) hp9 hF9 (by first | exact Or.inl ⟨by omega, rfl⟩ | exact Or.inr ⟨by omega, rfl⟩) (by first | exact Or.inl ⟨by omega, by omega, rfl⟩ | exact Or.inr ⟨by omega, rfl⟩) (by first | exact Or.inl ⟨by omega, by omega, rfl, rfl, rfl⟩ | exact Or.inr ⟨by omega, rfl, rfl, rfl⟩)) (by omega) (by omega) (hF7) (by first | exact R01 hR8 _ | exact hR8) (BQ.tryM (F := F9) hBI hBQ hk9 hp9 (by first | exact Or.inl ⟨by omega, by omega, rfl⟩ | exact Or.inr ⟨by omega, rfl⟩) (by first | exact Or.inl ⟨by omega, by omega, rfl, rfl, rfl⟩ | exact Or.inr ⟨by omega, rfl, rfl, rfl⟩)) (by omega) (by omega) (by have q9 := cp134; simp only [sr_R, sr_F, sr_Q] at q9; exact q9)
                    · skip
                      refine x_aload_n C dX8_searches_263 0 rfl ?_
                      refine x_get C (v := .ref (am 36 0)) f123 (T := TX8) rfl kX8_searches_1 36 (by decide) kX8_searches_6 rfl dX8_searches_264 ?_
                      refine x_aload_n C dX8_searches_267 0 rfl ?_
                      have cp135 : MP D am h (cu (srM m F9.1 F9.2.1 F9.2.2.1 F9.2.2.2 Q1 F1 R1) 37 0 (fu R1 (Int.toNat F9.1) 1)) h120 := by rw [e121]; exact (MP.up cp36 (lm0 (by decide)) (fu R1 (Int.toNat F9.1) 1) rfl)
                      refine x_callV C (n := 0) (qc := (RX8, TX8, 38)) (As := []) (rest := [.ref (am 36 0)]) (c_X8_code (cp135.1) (⟨b1, b2⟩) (⟨b3_, b4⟩) (⟨by show (0 : Int) ≤ ((F9.2.2.1 : Nat) : Int); omega, by show ((F9.2.2.1 : Nat) : Int) < 8; omega⟩)) gX8_searches_X8_code (by decide +kernel) f123 rfl rfl rfl rfl (Nat.le_of_ble_eq_true rfl) ⟨by decide, by decide⟩ ⟨(by decide), (by decide)⟩ dX8_searches_268 (fun rv136 h137 hp138 => ?_)
                      obtain ⟨rfl, e139⟩ := hp138
                      obtain rfl := e139.symm
                      refine x_topv (show ((pkc (((cu (srM m F9.1 F9.2.1 F9.2.2.1 F9.2.2.2 Q1 F1 R1) 37 0 (fu R1 (Int.toNat F9.1) 1))) 0 0 31) (((cu (srM m F9.1 F9.2.1 F9.2.2.1 F9.2.2.2 Q1 F1 R1) 37 0 (fu R1 (Int.toNat F9.1) 1))) 0 0 32) (((cu (srM m F9.1 F9.2.1 F9.2.2.1 F9.2.2.2 Q1 F1 R1) 37 0 (fu R1 (Int.toNat F9.1) 1))) 0 0 33).toNat : Nat) : Int) = ((cd F9 : Nat) : Int) from by rfl) ?_
                      refine x_aload_n C dX8_searches_271 0 rfl ?_
                      refine x_get C (v := .ref (am 36 0)) f123 (T := TX8) rfl kX8_searches_1 36 (by decide) kX8_searches_6 rfl dX8_searches_272 ?_
                      refine x_aload_n C dX8_searches_275 0 rfl ?_
                      refine x_get C (v := .ref (am 35 0)) f123 (T := TX8) rfl kX8_searches_1 35 (by decide) kX8_searches_0 rfl dX8_searches_276 ?_
                      refine x_iload C dX8_searches_279 4 rfl ?_
                      have f140 : h120 (am 35 0) = some (eI D 6144 Q1) := by rw [e121, hu_n (cp36.1.ne (lm0 (by decide)) (lm0 (by decide)) (fun zz9 => absurd zz9.1 (by decide)))]; exact f40
                      refine x_iald C f140 ⟨by omega, by omega⟩ (by decide) dX8_searches_281 ?_
                      refine x_topv (show Q1 (Int.toNat (((k : Nat) : Int))) = ((p : Nat) : Int) from by exact hp9) ?_
                      refine x_iald C f132 ⟨by omega, by omega⟩ (by decide) dX8_searches_282 ?_
                      refine x_topv (show F1 (Int.toNat (((p : Nat) : Int))) = F1 p from by rfl) ?_
                      refine x_iconst C dX8_searches_283 1 (by decide) ?_
                      refine x_iadd C dX8_searches_284 ?_
                      refine x_iast C f132 ⟨by omega, by omega⟩ (by decide) dX8_searches_285 (x_hn (fun h141 e142 => ?_))
                      have f143 : h141 (am 36 0) = some (eI D 6144 (fu F1 (Int.toNat (((cd F9 : Nat) : Int))) ((F1 p) + 1))) := by rw [e142]; exact hu_s
                      have hlt9 := hBI.lt hcd (show F1 (cd F9) = -1 by omega)
                      refine x_aload_n C dX8_searches_286 0 rfl ?_
                      have f144 : h141 (am 0 0) = some (eO 8 [vI (((srM m F9.1 F9.2.1 F9.2.2.1 F9.2.2.2 Q1 F1 R1) 0 0) 0), .ref (am 1 0), vI (((srM m F9.1 F9.2.1 F9.2.2.1 F9.2.2.2 Q1 F1 R1) 0 0) 2), .ref (am 3 0), .ref (am 4 0), .ref (am 5 0), .ref (am 6 0), .ref (am 7 0), .ref (am 8 0), .ref (am 9 0), .ref (am 10 0), .ref (am 11 0), .ref (am 12 0), .ref (am 13 0), vI (((srM m F9.1 F9.2.1 F9.2.2.1 F9.2.2.2 Q1 F1 R1) 0 0) 14), .ref (am 15 0), .ref (am 16 0), .ref (am 17 0), .ref (am 18 0), .ref (am 19 0), .ref (am 20 0), .ref (am 21 0), .ref (am 22 0), .ref (am 23 0), .ref (am 24 0), .ref (am 25 0), .ref (am 26 0), .ref (am 27 0), .ref (am 28 0), .ref (am 29 0), vI (((((srM m F9.1 F9.2.1 F9.2.2.1 F9.2.2.2 Q1 F1 R1) 0 0) 30).toNat : Nat) : Int), vI (F9.1), vI (F9.2.1), vI ((F9.2.2.1 : Nat) : Int), vI (F9.2.2.2), .ref (am 35 0), .ref (am 36 0), .ref (am 37 0)]) := by rw [e142, hu_n (cp36.1.ne (lm0 (by decide)) (lm0 (by decide)) (fun zz9 => absurd zz9.1 (by decide)))]; exact f123
                      refine x_get C (v := .ref (am 35 0)) f144 (T := TX8) rfl kX8_searches_1 35 (by decide) kX8_searches_0 rfl dX8_searches_287 ?_
                      refine x_iload_n C dX8_searches_290 3 rfl ?_
                      refine x_aload_n C dX8_searches_291 0 rfl ?_
                      have cp145 : MP D am h (cu (cu (srM m F9.1 F9.2.1 F9.2.2.1 F9.2.2.2 Q1 F1 R1) 37 0 (fu R1 (Int.toNat F9.1) 1)) 36 0 (fu F1 (Int.toNat (((cd F9 : Nat) : Int))) ((F1 p) + 1))) h141 := by rw [e142, e121]; exact (MP.up (MP.up cp36 (lm0 (by decide)) (fu R1 (Int.toNat F9.1) 1) rfl) (lm0 (by decide)) (fu F1 (Int.toNat (((cd F9 : Nat) : Int))) ((F1 p) + 1)) rfl)
                      refine x_callV C (n := 0) (qc := (RX8, TX8, 38)) (As := []) (rest := [vI ((m1 : Nat) : Int), .ref (am 35 0)]) (c_X8_code (cp145.1) (⟨b1, b2⟩) (⟨b3_, b4⟩) (⟨by show (0 : Int) ≤ ((F9.2.2.1 : Nat) : Int); omega, by show ((F9.2.2.1 : Nat) : Int) < 8; omega⟩)) gX8_searches_X8_code (by decide +kernel) f144 rfl rfl rfl rfl (Nat.le_of_ble_eq_true rfl) ⟨by decide, by decide⟩ ⟨(by decide), (by decide)⟩ dX8_searches_292 (fun rv146 h147 hp148 => ?_)
                      obtain ⟨rfl, e149⟩ := hp148
                      obtain rfl := e149.symm
                      refine x_topv (show ((pkc (((cu (cu (srM m F9.1 F9.2.1 F9.2.2.1 F9.2.2.2 Q1 F1 R1) 37 0 (fu R1 (Int.toNat F9.1) 1)) 36 0 (fu F1 (Int.toNat (((cd F9 : Nat) : Int))) ((F1 p) + 1)))) 0 0 31) (((cu (cu (srM m F9.1 F9.2.1 F9.2.2.1 F9.2.2.2 Q1 F1 R1) 37 0 (fu R1 (Int.toNat F9.1) 1)) 36 0 (fu F1 (Int.toNat (((cd F9 : Nat) : Int))) ((F1 p) + 1)))) 0 0 32) (((cu (cu (srM m F9.1 F9.2.1 F9.2.2.1 F9.2.2.2 Q1 F1 R1) 37 0 (fu R1 (Int.toNat F9.1) 1)) 36 0 (fu F1 (Int.toNat (((cd F9 : Nat) : Int))) ((F1 p) + 1)))) 0 0 33).toNat : Nat) : Int) = ((cd F9 : Nat) : Int) from by rfl) ?_
                      have f150 : h141 (am 35 0) = some (eI D 6144 Q1) := by rw [e142, hu_n (cp36.1.ne (lm0 (by decide)) (lm0 (by decide)) (fun zz9 => absurd zz9.1 (by decide)))]; exact f140
                      refine x_iast C f150 ⟨by omega, by omega⟩ (by decide) dX8_searches_295 (x_hn (fun h151 e152 => ?_))
                      have f153 : h151 (am 35 0) = some (eI D 6144 (fu Q1 (Int.toNat (((m1 : Nat) : Int))) (((cd F9 : Nat) : Int)))) := by rw [e152]; exact hu_s
                      refine x_iinc C (x := ((m1 : Nat) : Int)) (ls' := [(0, .ref (am 0 0)), (1, vI z), (2, vI w1), (3, vI ((((m1 : Nat) : Int)) + 1)), (4, vI ((k : Nat) : Int)), (5, vI ((i : Nat) : Int))]) dX8_searches_296 3 rfl (by decide) rfl ?_
                      refine x_iinc C (x := ((i : Nat) : Int)) (ls' := [(0, .ref (am 0 0)), (1, vI z), (2, vI w1), (3, vI ((((m1 : Nat) : Int)) + 1)), (4, vI ((k : Nat) : Int)), (5, vI ((((i : Nat) : Int)) + 1))]) dX8_searches_299 5 rfl (by decide) rfl ?_
                      refine x_goto (tgt := 131) C dX8_searches_302 (by decide) ?_
                      have cp154 : MP D am h (cu (cu (cu (srM m F9.1 F9.2.1 F9.2.2.1 F9.2.2.2 Q1 F1 R1) 37 0 (fu R1 (Int.toNat F9.1) 1)) 36 0 (fu F1 (Int.toNat (((cd F9 : Nat) : Int))) ((F1 p) + 1))) 35 0 (fu Q1 (Int.toNat (((m1 : Nat) : Int))) (((cd F9 : Nat) : Int)))) h151 := by rw [e152, e142, e121]; exact (MP.up (MP.up (MP.up cp36 (lm0 (by decide)) (fu R1 (Int.toNat F9.1) 1) rfl) (lm0 (by decide)) (fu F1 (Int.toNat (((cd F9 : Nat) : Int))) ((F1 p) + 1)) rfl) (lm0 (by decide)) (fu Q1 (Int.toNat (((m1 : Nat) : Int))) (((cd F9 : Nat) : Int))) rfl)
                      exact ihINN F9.1 F9.2.1 F9.2.2.2 w1 F9.2.2.1 (m1 + 1) k (fu Q1 (Int.toNat (((m1 : Nat) : Int))) (((cd F9 : Nat) : Int))) (fu F1 (Int.toNat (((cd F9 : Nat) : Int))) ((F1 p) + 1)) (fu R1 (Int.toNat F9.1) 1) (i + 1) h151 (BI.tryM hTok hBI hk9 (by omega) hp9 hF9 (by first | exact Or.inl ⟨by omega, rfl⟩ | exact Or.inr ⟨by omega, rfl⟩) (by first | exact Or.inl ⟨by omega, by omega, rfl⟩ | exact Or.inr ⟨by omega, rfl⟩) (by first | exact Or.inl ⟨by omega, by omega, rfl, rfl, rfl⟩ | exact Or.inr ⟨by omega, rfl, rfl, rfl⟩)) (by omega) (by omega) (hF7) (by first | exact R01 hR8 _ | exact hR8) (BQ.tryM (F := F9) hBI hBQ hk9 hp9 (by first | exact Or.inl ⟨by omega, by omega, rfl⟩ | exact Or.inr ⟨by omega, rfl⟩) (by first | exact Or.inl ⟨by omega, by omega, rfl, rfl, rfl⟩ | exact Or.inr ⟨by omega, rfl, rfl, rfl⟩)) (by omega) (by omega) (by have q9 := cp154; simp only [sr_R, sr_F, sr_Q] at q9; exact q9)
                · skip
                  refine x_iload_n C dX8_searches_222 2 rfl ?_
                  refine x_iconst C dX8_searches_223 (-1) (by decide) ?_
                  refine x_icmp_ne (tgt := 242) C dX8_searches_224 (by decide) (by omega) (by omega) (fun c155 => ?_) (fun c155 => ?_)
                  · skip
                    refine x_aload_n C dX8_searches_242 0 rfl ?_
                    refine x_get C (v := vI (F9.2.2.2)) f123 (T := TX8) rfl kX8_searches_1 34 (by decide) kX8_searches_5 rfl dX8_searches_243 ?_
                    refine x_iconst C dX8_searches_246 1 (by decide) ?_
                    refine x_icmp_ne (tgt := 299) C dX8_searches_247 (by decide) (by omega) (by omega) (fun c156 => ?_) (fun c156 => ?_)
                    · skip
                      refine x_iinc C (x := ((i : Nat) : Int)) (ls' := [(0, .ref (am 0 0)), (1, vI z), (2, vI w1), (3, vI ((m1 : Nat) : Int)), (4, vI ((k : Nat) : Int)), (5, vI ((((i : Nat) : Int)) + 1))]) dX8_searches_299 5 rfl (by decide) rfl ?_
                      refine x_goto (tgt := 131) C dX8_searches_302 (by decide) ?_
                      have cp157 : MP D am h (cu (srM m F9.1 F9.2.1 F9.2.2.1 F9.2.2.2 Q1 F1 R1) 37 0 (fu R1 (Int.toNat F9.1) 1)) h120 := by rw [e121]; exact (MP.up cp36 (lm0 (by decide)) (fu R1 (Int.toNat F9.1) 1) rfl)
                      exact ihINN F9.1 F9.2.1 F9.2.2.2 w1 F9.2.2.1 m1 k Q1 F1 (fu R1 (Int.toNat F9.1) 1) (i + 1) h120 (BI.tryM hTok hBI hk9 (by omega) hp9 hF9 (by first | exact Or.inl ⟨by omega, rfl⟩ | exact Or.inr ⟨by omega, rfl⟩) (by first | exact Or.inl ⟨by omega, by omega, rfl⟩ | exact Or.inr ⟨by omega, rfl⟩) (by first | exact Or.inl ⟨by omega, by omega, rfl, rfl, rfl⟩ | exact Or.inr ⟨by omega, rfl, rfl, rfl⟩)) (by omega) (by omega) (hF7) (by first | exact R01 hR8 _ | exact hR8) (BQ.tryM (F := F9) hBI hBQ hk9 hp9 (by first | exact Or.inl ⟨by omega, by omega, rfl⟩ | exact Or.inr ⟨by omega, rfl⟩) (by first | exact Or.inl ⟨by omega, by omega, rfl, rfl, rfl⟩ | exact Or.inr ⟨by omega, rfl, rfl, rfl⟩)) (by omega) (by omega) (by have q9 := cp157; simp only [sr_R, sr_F, sr_Q] at q9; exact q9)
                    · skip
                      refine x_aload_n C dX8_searches_250 0 rfl ?_
                      refine x_get C (v := .ref (am 36 0)) f123 (T := TX8) rfl kX8_searches_1 36 (by decide) kX8_searches_6 rfl dX8_searches_251 ?_
                      refine x_aload_n C dX8_searches_254 0 rfl ?_
                      have cp158 : MP D am h (cu (srM m F9.1 F9.2.1 F9.2.2.1 F9.2.2.2 Q1 F1 R1) 37 0 (fu R1 (Int.toNat F9.1) 1)) h120 := by rw [e121]; exact (MP.up cp36 (lm0 (by decide)) (fu R1 (Int.toNat F9.1) 1) rfl)
                      refine x_callV C (n := 0) (qc := (RX8, TX8, 38)) (As := []) (rest := [.ref (am 36 0)]) (c_X8_code (cp158.1) (⟨b1, b2⟩) (⟨b3_, b4⟩) (⟨by show (0 : Int) ≤ ((F9.2.2.1 : Nat) : Int); omega, by show ((F9.2.2.1 : Nat) : Int) < 8; omega⟩)) gX8_searches_X8_code (by decide +kernel) f123 rfl rfl rfl rfl (Nat.le_of_ble_eq_true rfl) ⟨by decide, by decide⟩ ⟨(by decide), (by decide)⟩ dX8_searches_255 (fun rv159 h160 hp161 => ?_)
                      obtain ⟨rfl, e162⟩ := hp161
                      obtain rfl := e162.symm
                      refine x_topv (show ((pkc (((cu (srM m F9.1 F9.2.1 F9.2.2.1 F9.2.2.2 Q1 F1 R1) 37 0 (fu R1 (Int.toNat F9.1) 1))) 0 0 31) (((cu (srM m F9.1 F9.2.1 F9.2.2.1 F9.2.2.2 Q1 F1 R1) 37 0 (fu R1 (Int.toNat F9.1) 1))) 0 0 32) (((cu (srM m F9.1 F9.2.1 F9.2.2.1 F9.2.2.2 Q1 F1 R1) 37 0 (fu R1 (Int.toNat F9.1) 1))) 0 0 33).toNat : Nat) : Int) = ((cd F9 : Nat) : Int) from by rfl) ?_
                      have f163 : h120 (am 36 0) = some (eI D 6144 F1) := by rw [e121, hu_n (cp36.1.ne (lm0 (by decide)) (lm0 (by decide)) (fun zz9 => absurd zz9.1 (by decide)))]; exact f42
                      refine x_iald C f163 ⟨by omega, by omega⟩ (by decide) dX8_searches_258 ?_
                      refine x_topv (show F1 (Int.toNat (((cd F9 : Nat) : Int))) = F1 (cd F9) from by rfl) ?_
                      refine x_iconst C dX8_searches_259 (-1) (by decide) ?_
                      refine x_icmp_ne (tgt := 299) C dX8_searches_260 (by decide) (by omega) (by omega) (fun c164 => ?_) (fun c164 => ?_)
                      · skip
                        skip
                        refine x_iinc C (x := ((i : Nat) : Int)) (ls' := [(0, .ref (am 0 0)), (1, vI z), (2, vI w1), (3, vI ((m1 : Nat) : Int)), (4, vI ((k : Nat) : Int)), (5, vI ((((i : Nat) : Int)) + 1))]) dX8_searches_299 5 rfl (by decide) rfl ?_
                        refine x_goto (tgt := 131) C dX8_searches_302 (by decide) ?_
                        have cp165 : MP D am h (cu (srM m F9.1 F9.2.1 F9.2.2.1 F9.2.2.2 Q1 F1 R1) 37 0 (fu R1 (Int.toNat F9.1) 1)) h120 := by rw [e121]; exact (MP.up cp36 (lm0 (by decide)) (fu R1 (Int.toNat F9.1) 1) rfl)
                        exact ihINN F9.1 F9.2.1 F9.2.2.2 w1 F9.2.2.1 m1 k Q1 F1 (fu R1 (Int.toNat F9.1) 1) (i + 1) h120 (BI.tryM hTok hBI hk9 (by omega) hp9 hF9 (by first | exact Or.inl ⟨by omega, rfl⟩ | exact Or.inr ⟨by omega, rfl⟩) (by first | exact Or.inl ⟨by omega, by omega, rfl⟩ | exact Or.inr ⟨by omega, rfl⟩) (by first | exact Or.inl ⟨by omega, by omega, rfl, rfl, rfl⟩ | exact Or.inr ⟨by omega, rfl, rfl, rfl⟩)) (by omega) (by omega) (hF7) (by first | exact R01 hR8 _ | exact hR8) (BQ.tryM (F := F9) hBI hBQ hk9 hp9 (by first | exact Or.inl ⟨by omega, by omega, rfl⟩ | exact Or.inr ⟨by omega, rfl⟩) (by first | exact Or.inl ⟨by omega, by omega, rfl, rfl, rfl⟩ | exact Or.inr ⟨by omega, rfl, rfl, rfl⟩)) (by omega) (by omega) (by have q9 := cp165; simp only [sr_R, sr_F, sr_Q] at q9; exact q9)
                      · skip
                        refine x_aload_n C dX8_searches_263 0 rfl ?_
                        refine x_get C (v := .ref (am 36 0)) f123 (T := TX8) rfl kX8_searches_1 36 (by decide) kX8_searches_6 rfl dX8_searches_264 ?_
                        refine x_aload_n C dX8_searches_267 0 rfl ?_
                        have cp166 : MP D am h (cu (srM m F9.1 F9.2.1 F9.2.2.1 F9.2.2.2 Q1 F1 R1) 37 0 (fu R1 (Int.toNat F9.1) 1)) h120 := by rw [e121]; exact (MP.up cp36 (lm0 (by decide)) (fu R1 (Int.toNat F9.1) 1) rfl)
                        refine x_callV C (n := 0) (qc := (RX8, TX8, 38)) (As := []) (rest := [.ref (am 36 0)]) (c_X8_code (cp166.1) (⟨b1, b2⟩) (⟨b3_, b4⟩) (⟨by show (0 : Int) ≤ ((F9.2.2.1 : Nat) : Int); omega, by show ((F9.2.2.1 : Nat) : Int) < 8; omega⟩)) gX8_searches_X8_code (by decide +kernel) f123 rfl rfl rfl rfl (Nat.le_of_ble_eq_true rfl) ⟨by decide, by decide⟩ ⟨(by decide), (by decide)⟩ dX8_searches_268 (fun rv167 h168 hp169 => ?_)
                        obtain ⟨rfl, e170⟩ := hp169
                        obtain rfl := e170.symm
                        refine x_topv (show ((pkc (((cu (srM m F9.1 F9.2.1 F9.2.2.1 F9.2.2.2 Q1 F1 R1) 37 0 (fu R1 (Int.toNat F9.1) 1))) 0 0 31) (((cu (srM m F9.1 F9.2.1 F9.2.2.1 F9.2.2.2 Q1 F1 R1) 37 0 (fu R1 (Int.toNat F9.1) 1))) 0 0 32) (((cu (srM m F9.1 F9.2.1 F9.2.2.1 F9.2.2.2 Q1 F1 R1) 37 0 (fu R1 (Int.toNat F9.1) 1))) 0 0 33).toNat : Nat) : Int) = ((cd F9 : Nat) : Int) from by rfl) ?_
                        refine x_aload_n C dX8_searches_271 0 rfl ?_
                        refine x_get C (v := .ref (am 36 0)) f123 (T := TX8) rfl kX8_searches_1 36 (by decide) kX8_searches_6 rfl dX8_searches_272 ?_
                        refine x_aload_n C dX8_searches_275 0 rfl ?_
                        refine x_get C (v := .ref (am 35 0)) f123 (T := TX8) rfl kX8_searches_1 35 (by decide) kX8_searches_0 rfl dX8_searches_276 ?_
                        refine x_iload C dX8_searches_279 4 rfl ?_
                        have f171 : h120 (am 35 0) = some (eI D 6144 Q1) := by rw [e121, hu_n (cp36.1.ne (lm0 (by decide)) (lm0 (by decide)) (fun zz9 => absurd zz9.1 (by decide)))]; exact f40
                        refine x_iald C f171 ⟨by omega, by omega⟩ (by decide) dX8_searches_281 ?_
                        refine x_topv (show Q1 (Int.toNat (((k : Nat) : Int))) = ((p : Nat) : Int) from by exact hp9) ?_
                        refine x_iald C f163 ⟨by omega, by omega⟩ (by decide) dX8_searches_282 ?_
                        refine x_topv (show F1 (Int.toNat (((p : Nat) : Int))) = F1 p from by rfl) ?_
                        refine x_iconst C dX8_searches_283 1 (by decide) ?_
                        refine x_iadd C dX8_searches_284 ?_
                        refine x_iast C f163 ⟨by omega, by omega⟩ (by decide) dX8_searches_285 (x_hn (fun h172 e173 => ?_))
                        have f174 : h172 (am 36 0) = some (eI D 6144 (fu F1 (Int.toNat (((cd F9 : Nat) : Int))) ((F1 p) + 1))) := by rw [e173]; exact hu_s
                        have hlt9 := hBI.lt hcd (show F1 (cd F9) = -1 by omega)
                        refine x_aload_n C dX8_searches_286 0 rfl ?_
                        have f175 : h172 (am 0 0) = some (eO 8 [vI (((srM m F9.1 F9.2.1 F9.2.2.1 F9.2.2.2 Q1 F1 R1) 0 0) 0), .ref (am 1 0), vI (((srM m F9.1 F9.2.1 F9.2.2.1 F9.2.2.2 Q1 F1 R1) 0 0) 2), .ref (am 3 0), .ref (am 4 0), .ref (am 5 0), .ref (am 6 0), .ref (am 7 0), .ref (am 8 0), .ref (am 9 0), .ref (am 10 0), .ref (am 11 0), .ref (am 12 0), .ref (am 13 0), vI (((srM m F9.1 F9.2.1 F9.2.2.1 F9.2.2.2 Q1 F1 R1) 0 0) 14), .ref (am 15 0), .ref (am 16 0), .ref (am 17 0), .ref (am 18 0), .ref (am 19 0), .ref (am 20 0), .ref (am 21 0), .ref (am 22 0), .ref (am 23 0), .ref (am 24 0), .ref (am 25 0), .ref (am 26 0), .ref (am 27 0), .ref (am 28 0), .ref (am 29 0), vI (((((srM m F9.1 F9.2.1 F9.2.2.1 F9.2.2.2 Q1 F1 R1) 0 0) 30).toNat : Nat) : Int), vI (F9.1), vI (F9.2.1), vI ((F9.2.2.1 : Nat) : Int), vI (F9.2.2.2), .ref (am 35 0), .ref (am 36 0), .ref (am 37 0)]) := by rw [e173, hu_n (cp36.1.ne (lm0 (by decide)) (lm0 (by decide)) (fun zz9 => absurd zz9.1 (by decide)))]; exact f123
                        refine x_get C (v := .ref (am 35 0)) f175 (T := TX8) rfl kX8_searches_1 35 (by decide) kX8_searches_0 rfl dX8_searches_287 ?_
                        refine x_iload_n C dX8_searches_290 3 rfl ?_
                        refine x_aload_n C dX8_searches_291 0 rfl ?_
                        have cp176 : MP D am h (cu (cu (srM m F9.1 F9.2.1 F9.2.2.1 F9.2.2.2 Q1 F1 R1) 37 0 (fu R1 (Int.toNat F9.1) 1)) 36 0 (fu F1 (Int.toNat (((cd F9 : Nat) : Int))) ((F1 p) + 1))) h172 := by rw [e173, e121]; exact (MP.up (MP.up cp36 (lm0 (by decide)) (fu R1 (Int.toNat F9.1) 1) rfl) (lm0 (by decide)) (fu F1 (Int.toNat (((cd F9 : Nat) : Int))) ((F1 p) + 1)) rfl)
                        refine x_callV C (n := 0) (qc := (RX8, TX8, 38)) (As := []) (rest := [vI ((m1 : Nat) : Int), .ref (am 35 0)]) (c_X8_code (cp176.1) (⟨b1, b2⟩) (⟨b3_, b4⟩) (⟨by show (0 : Int) ≤ ((F9.2.2.1 : Nat) : Int); omega, by show ((F9.2.2.1 : Nat) : Int) < 8; omega⟩)) gX8_searches_X8_code (by decide +kernel) f175 rfl rfl rfl rfl (Nat.le_of_ble_eq_true rfl) ⟨by decide, by decide⟩ ⟨(by decide), (by decide)⟩ dX8_searches_292 (fun rv177 h178 hp179 => ?_)
                        obtain ⟨rfl, e180⟩ := hp179
                        obtain rfl := e180.symm
                        refine x_topv (show ((pkc (((cu (cu (srM m F9.1 F9.2.1 F9.2.2.1 F9.2.2.2 Q1 F1 R1) 37 0 (fu R1 (Int.toNat F9.1) 1)) 36 0 (fu F1 (Int.toNat (((cd F9 : Nat) : Int))) ((F1 p) + 1)))) 0 0 31) (((cu (cu (srM m F9.1 F9.2.1 F9.2.2.1 F9.2.2.2 Q1 F1 R1) 37 0 (fu R1 (Int.toNat F9.1) 1)) 36 0 (fu F1 (Int.toNat (((cd F9 : Nat) : Int))) ((F1 p) + 1)))) 0 0 32) (((cu (cu (srM m F9.1 F9.2.1 F9.2.2.1 F9.2.2.2 Q1 F1 R1) 37 0 (fu R1 (Int.toNat F9.1) 1)) 36 0 (fu F1 (Int.toNat (((cd F9 : Nat) : Int))) ((F1 p) + 1)))) 0 0 33).toNat : Nat) : Int) = ((cd F9 : Nat) : Int) from by rfl) ?_
                        have f181 : h172 (am 35 0) = some (eI D 6144 Q1) := by rw [e173, hu_n (cp36.1.ne (lm0 (by decide)) (lm0 (by decide)) (fun zz9 => absurd zz9.1 (by decide)))]; exact f171
                        refine x_iast C f181 ⟨by omega, by omega⟩ (by decide) dX8_searches_295 (x_hn (fun h182 e183 => ?_))
                        have f184 : h182 (am 35 0) = some (eI D 6144 (fu Q1 (Int.toNat (((m1 : Nat) : Int))) (((cd F9 : Nat) : Int)))) := by rw [e183]; exact hu_s
                        refine x_iinc C (x := ((m1 : Nat) : Int)) (ls' := [(0, .ref (am 0 0)), (1, vI z), (2, vI w1), (3, vI ((((m1 : Nat) : Int)) + 1)), (4, vI ((k : Nat) : Int)), (5, vI ((i : Nat) : Int))]) dX8_searches_296 3 rfl (by decide) rfl ?_
                        refine x_iinc C (x := ((i : Nat) : Int)) (ls' := [(0, .ref (am 0 0)), (1, vI z), (2, vI w1), (3, vI ((((m1 : Nat) : Int)) + 1)), (4, vI ((k : Nat) : Int)), (5, vI ((((i : Nat) : Int)) + 1))]) dX8_searches_299 5 rfl (by decide) rfl ?_
                        refine x_goto (tgt := 131) C dX8_searches_302 (by decide) ?_
                        have cp185 : MP D am h (cu (cu (cu (srM m F9.1 F9.2.1 F9.2.2.1 F9.2.2.2 Q1 F1 R1) 37 0 (fu R1 (Int.toNat F9.1) 1)) 36 0 (fu F1 (Int.toNat (((cd F9 : Nat) : Int))) ((F1 p) + 1))) 35 0 (fu Q1 (Int.toNat (((m1 : Nat) : Int))) (((cd F9 : Nat) : Int)))) h182 := by rw [e183, e173, e121]; exact (MP.up (MP.up (MP.up cp36 (lm0 (by decide)) (fu R1 (Int.toNat F9.1) 1) rfl) (lm0 (by decide)) (fu F1 (Int.toNat (((cd F9 : Nat) : Int))) ((F1 p) + 1)) rfl) (lm0 (by decide)) (fu Q1 (Int.toNat (((m1 : Nat) : Int))) (((cd F9 : Nat) : Int))) rfl)
                        exact ihINN F9.1 F9.2.1 F9.2.2.2 w1 F9.2.2.1 (m1 + 1) k (fu Q1 (Int.toNat (((m1 : Nat) : Int))) (((cd F9 : Nat) : Int))) (fu F1 (Int.toNat (((cd F9 : Nat) : Int))) ((F1 p) + 1)) (fu R1 (Int.toNat F9.1) 1) (i + 1) h182 (BI.tryM hTok hBI hk9 (by omega) hp9 hF9 (by first | exact Or.inl ⟨by omega, rfl⟩ | exact Or.inr ⟨by omega, rfl⟩) (by first | exact Or.inl ⟨by omega, by omega, rfl⟩ | exact Or.inr ⟨by omega, rfl⟩) (by first | exact Or.inl ⟨by omega, by omega, rfl, rfl, rfl⟩ | exact Or.inr ⟨by omega, rfl, rfl, rfl⟩)) (by omega) (by omega) (hF7) (by first | exact R01 hR8 _ | exact hR8) (BQ.tryM (F := F9) hBI hBQ hk9 hp9 (by first | exact Or.inl ⟨by omega, by omega, rfl⟩ | exact Or.inr ⟨by omega, rfl⟩) (by first | exact Or.inl ⟨by omega, by omega, rfl, rfl, rfl⟩ | exact Or.inr ⟨by omega, rfl, rfl, rfl⟩)) (by omega) (by omega) (by have q9 := cp185; simp only [sr_R, sr_F, sr_Q] at q9; exact q9)
                  · skip
                    refine x_aload_n C dX8_searches_227 0 rfl ?_
                    refine x_get C (v := .ref (am 36 0)) f123 (T := TX8) rfl kX8_searches_1 36 (by decide) kX8_searches_6 rfl dX8_searches_228 ?_
                    refine x_aload_n C dX8_searches_231 0 rfl ?_
                    refine x_get C (v := .ref (am 35 0)) f123 (T := TX8) rfl kX8_searches_1 35 (by decide) kX8_searches_0 rfl dX8_searches_232 ?_
                    refine x_iload C dX8_searches_235 4 rfl ?_
                    have f186 : h120 (am 35 0) = some (eI D 6144 Q1) := by rw [e121, hu_n (cp36.1.ne (lm0 (by decide)) (lm0 (by decide)) (fun zz9 => absurd zz9.1 (by decide)))]; exact f40
                    refine x_iald C f186 ⟨by omega, by omega⟩ (by decide) dX8_searches_237 ?_
                    refine x_topv (show Q1 (Int.toNat (((k : Nat) : Int))) = ((p : Nat) : Int) from by exact hp9) ?_
                    have f187 : h120 (am 36 0) = some (eI D 6144 F1) := by rw [e121, hu_n (cp36.1.ne (lm0 (by decide)) (lm0 (by decide)) (fun zz9 => absurd zz9.1 (by decide)))]; exact f42
                    refine x_iald C f187 ⟨by omega, by omega⟩ (by decide) dX8_searches_238 ?_
                    refine x_topv (show F1 (Int.toNat (((p : Nat) : Int))) = F1 p from by rfl) ?_
                    refine x_iconst C dX8_searches_239 1 (by decide) ?_
                    refine x_iadd C dX8_searches_240 ?_
                    refine x_istore_n C (ls' := [(0, .ref (am 0 0)), (1, vI z), (2, vI ((F1 p) + 1)), (3, vI ((m1 : Nat) : Int)), (4, vI ((k : Nat) : Int)), (5, vI ((i : Nat) : Int))]) dX8_searches_241 (by decide) rfl ?_
                    refine x_aload_n C dX8_searches_242 0 rfl ?_
                    refine x_get C (v := vI (F9.2.2.2)) f123 (T := TX8) rfl kX8_searches_1 34 (by decide) kX8_searches_5 rfl dX8_searches_243 ?_
                    refine x_iconst C dX8_searches_246 1 (by decide) ?_
                    refine x_icmp_ne (tgt := 299) C dX8_searches_247 (by decide) (by omega) (by omega) (fun c188 => ?_) (fun c188 => ?_)
                    · skip
                      refine x_iinc C (x := ((i : Nat) : Int)) (ls' := [(0, .ref (am 0 0)), (1, vI z), (2, vI ((F1 p) + 1)), (3, vI ((m1 : Nat) : Int)), (4, vI ((k : Nat) : Int)), (5, vI ((((i : Nat) : Int)) + 1))]) dX8_searches_299 5 rfl (by decide) rfl ?_
                      refine x_goto (tgt := 131) C dX8_searches_302 (by decide) ?_
                      have cp189 : MP D am h (cu (srM m F9.1 F9.2.1 F9.2.2.1 F9.2.2.2 Q1 F1 R1) 37 0 (fu R1 (Int.toNat F9.1) 1)) h120 := by rw [e121]; exact (MP.up cp36 (lm0 (by decide)) (fu R1 (Int.toNat F9.1) 1) rfl)
                      exact ihINN F9.1 F9.2.1 F9.2.2.2 ((F1 p) + 1) F9.2.2.1 m1 k Q1 F1 (fu R1 (Int.toNat F9.1) 1) (i + 1) h120 (BI.tryM hTok hBI hk9 (by omega) hp9 hF9 (by first | exact Or.inl ⟨by omega, rfl⟩ | exact Or.inr ⟨by omega, rfl⟩) (by first | exact Or.inl ⟨by omega, by omega, rfl⟩ | exact Or.inr ⟨by omega, rfl⟩) (by first | exact Or.inl ⟨by omega, by omega, rfl, rfl, rfl⟩ | exact Or.inr ⟨by omega, rfl, rfl, rfl⟩)) (by omega) (by omega) (hF7) (by first | exact R01 hR8 _ | exact hR8) (BQ.tryM (F := F9) hBI hBQ hk9 hp9 (by first | exact Or.inl ⟨by omega, by omega, rfl⟩ | exact Or.inr ⟨by omega, rfl⟩) (by first | exact Or.inl ⟨by omega, by omega, rfl, rfl, rfl⟩ | exact Or.inr ⟨by omega, rfl, rfl, rfl⟩)) (by omega) (by omega) (by have q9 := cp189; simp only [sr_R, sr_F, sr_Q] at q9; exact q9)
                    · skip
                      refine x_aload_n C dX8_searches_250 0 rfl ?_
                      refine x_get C (v := .ref (am 36 0)) f123 (T := TX8) rfl kX8_searches_1 36 (by decide) kX8_searches_6 rfl dX8_searches_251 ?_
                      refine x_aload_n C dX8_searches_254 0 rfl ?_
                      have cp190 : MP D am h (cu (srM m F9.1 F9.2.1 F9.2.2.1 F9.2.2.2 Q1 F1 R1) 37 0 (fu R1 (Int.toNat F9.1) 1)) h120 := by rw [e121]; exact (MP.up cp36 (lm0 (by decide)) (fu R1 (Int.toNat F9.1) 1) rfl)
                      refine x_callV C (n := 0) (qc := (RX8, TX8, 38)) (As := []) (rest := [.ref (am 36 0)]) (c_X8_code (cp190.1) (⟨b1, b2⟩) (⟨b3_, b4⟩) (⟨by show (0 : Int) ≤ ((F9.2.2.1 : Nat) : Int); omega, by show ((F9.2.2.1 : Nat) : Int) < 8; omega⟩)) gX8_searches_X8_code (by decide +kernel) f123 rfl rfl rfl rfl (Nat.le_of_ble_eq_true rfl) ⟨by decide, by decide⟩ ⟨(by decide), (by decide)⟩ dX8_searches_255 (fun rv191 h192 hp193 => ?_)
                      obtain ⟨rfl, e194⟩ := hp193
                      obtain rfl := e194.symm
                      refine x_topv (show ((pkc (((cu (srM m F9.1 F9.2.1 F9.2.2.1 F9.2.2.2 Q1 F1 R1) 37 0 (fu R1 (Int.toNat F9.1) 1))) 0 0 31) (((cu (srM m F9.1 F9.2.1 F9.2.2.1 F9.2.2.2 Q1 F1 R1) 37 0 (fu R1 (Int.toNat F9.1) 1))) 0 0 32) (((cu (srM m F9.1 F9.2.1 F9.2.2.1 F9.2.2.2 Q1 F1 R1) 37 0 (fu R1 (Int.toNat F9.1) 1))) 0 0 33).toNat : Nat) : Int) = ((cd F9 : Nat) : Int) from by rfl) ?_
                      refine x_iald C f187 ⟨by omega, by omega⟩ (by decide) dX8_searches_258 ?_
                      refine x_topv (show F1 (Int.toNat (((cd F9 : Nat) : Int))) = F1 (cd F9) from by rfl) ?_
                      refine x_iconst C dX8_searches_259 (-1) (by decide) ?_
                      refine x_icmp_ne (tgt := 299) C dX8_searches_260 (by decide) (by omega) (by omega) (fun c195 => ?_) (fun c195 => ?_)
                      · skip
                        skip
                        refine x_iinc C (x := ((i : Nat) : Int)) (ls' := [(0, .ref (am 0 0)), (1, vI z), (2, vI ((F1 p) + 1)), (3, vI ((m1 : Nat) : Int)), (4, vI ((k : Nat) : Int)), (5, vI ((((i : Nat) : Int)) + 1))]) dX8_searches_299 5 rfl (by decide) rfl ?_
                        refine x_goto (tgt := 131) C dX8_searches_302 (by decide) ?_
                        have cp196 : MP D am h (cu (srM m F9.1 F9.2.1 F9.2.2.1 F9.2.2.2 Q1 F1 R1) 37 0 (fu R1 (Int.toNat F9.1) 1)) h120 := by rw [e121]; exact (MP.up cp36 (lm0 (by decide)) (fu R1 (Int.toNat F9.1) 1) rfl)
                        exact ihINN F9.1 F9.2.1 F9.2.2.2 ((F1 p) + 1) F9.2.2.1 m1 k Q1 F1 (fu R1 (Int.toNat F9.1) 1) (i + 1) h120 (BI.tryM hTok hBI hk9 (by omega) hp9 hF9 (by first | exact Or.inl ⟨by omega, rfl⟩ | exact Or.inr ⟨by omega, rfl⟩) (by first | exact Or.inl ⟨by omega, by omega, rfl⟩ | exact Or.inr ⟨by omega, rfl⟩) (by first | exact Or.inl ⟨by omega, by omega, rfl, rfl, rfl⟩ | exact Or.inr ⟨by omega, rfl, rfl, rfl⟩)) (by omega) (by omega) (hF7) (by first | exact R01 hR8 _ | exact hR8) (BQ.tryM (F := F9) hBI hBQ hk9 hp9 (by first | exact Or.inl ⟨by omega, by omega, rfl⟩ | exact Or.inr ⟨by omega, rfl⟩) (by first | exact Or.inl ⟨by omega, by omega, rfl, rfl, rfl⟩ | exact Or.inr ⟨by omega, rfl, rfl, rfl⟩)) (by omega) (by omega) (by have q9 := cp196; simp only [sr_R, sr_F, sr_Q] at q9; exact q9)
                      · skip
                        refine x_aload_n C dX8_searches_263 0 rfl ?_
                        refine x_get C (v := .ref (am 36 0)) f123 (T := TX8) rfl kX8_searches_1 36 (by decide) kX8_searches_6 rfl dX8_searches_264 ?_
                        refine x_aload_n C dX8_searches_267 0 rfl ?_
                        have cp197 : MP D am h (cu (srM m F9.1 F9.2.1 F9.2.2.1 F9.2.2.2 Q1 F1 R1) 37 0 (fu R1 (Int.toNat F9.1) 1)) h120 := by rw [e121]; exact (MP.up cp36 (lm0 (by decide)) (fu R1 (Int.toNat F9.1) 1) rfl)
                        refine x_callV C (n := 0) (qc := (RX8, TX8, 38)) (As := []) (rest := [.ref (am 36 0)]) (c_X8_code (cp197.1) (⟨b1, b2⟩) (⟨b3_, b4⟩) (⟨by show (0 : Int) ≤ ((F9.2.2.1 : Nat) : Int); omega, by show ((F9.2.2.1 : Nat) : Int) < 8; omega⟩)) gX8_searches_X8_code (by decide +kernel) f123 rfl rfl rfl rfl (Nat.le_of_ble_eq_true rfl) ⟨by decide, by decide⟩ ⟨(by decide), (by decide)⟩ dX8_searches_268 (fun rv198 h199 hp200 => ?_)
                        obtain ⟨rfl, e201⟩ := hp200
                        obtain rfl := e201.symm
                        refine x_topv (show ((pkc (((cu (srM m F9.1 F9.2.1 F9.2.2.1 F9.2.2.2 Q1 F1 R1) 37 0 (fu R1 (Int.toNat F9.1) 1))) 0 0 31) (((cu (srM m F9.1 F9.2.1 F9.2.2.1 F9.2.2.2 Q1 F1 R1) 37 0 (fu R1 (Int.toNat F9.1) 1))) 0 0 32) (((cu (srM m F9.1 F9.2.1 F9.2.2.1 F9.2.2.2 Q1 F1 R1) 37 0 (fu R1 (Int.toNat F9.1) 1))) 0 0 33).toNat : Nat) : Int) = ((cd F9 : Nat) : Int) from by rfl) ?_
                        refine x_aload_n C dX8_searches_271 0 rfl ?_
                        refine x_get C (v := .ref (am 36 0)) f123 (T := TX8) rfl kX8_searches_1 36 (by decide) kX8_searches_6 rfl dX8_searches_272 ?_
                        refine x_aload_n C dX8_searches_275 0 rfl ?_
                        refine x_get C (v := .ref (am 35 0)) f123 (T := TX8) rfl kX8_searches_1 35 (by decide) kX8_searches_0 rfl dX8_searches_276 ?_
                        refine x_iload C dX8_searches_279 4 rfl ?_
                        refine x_iald C f186 ⟨by omega, by omega⟩ (by decide) dX8_searches_281 ?_
                        refine x_topv (show Q1 (Int.toNat (((k : Nat) : Int))) = ((p : Nat) : Int) from by exact hp9) ?_
                        refine x_iald C f187 ⟨by omega, by omega⟩ (by decide) dX8_searches_282 ?_
                        refine x_topv (show F1 (Int.toNat (((p : Nat) : Int))) = F1 p from by rfl) ?_
                        refine x_iconst C dX8_searches_283 1 (by decide) ?_
                        refine x_iadd C dX8_searches_284 ?_
                        refine x_iast C f187 ⟨by omega, by omega⟩ (by decide) dX8_searches_285 (x_hn (fun h202 e203 => ?_))
                        have f204 : h202 (am 36 0) = some (eI D 6144 (fu F1 (Int.toNat (((cd F9 : Nat) : Int))) ((F1 p) + 1))) := by rw [e203]; exact hu_s
                        have hlt9 := hBI.lt hcd (show F1 (cd F9) = -1 by omega)
                        refine x_aload_n C dX8_searches_286 0 rfl ?_
                        have f205 : h202 (am 0 0) = some (eO 8 [vI (((srM m F9.1 F9.2.1 F9.2.2.1 F9.2.2.2 Q1 F1 R1) 0 0) 0), .ref (am 1 0), vI (((srM m F9.1 F9.2.1 F9.2.2.1 F9.2.2.2 Q1 F1 R1) 0 0) 2), .ref (am 3 0), .ref (am 4 0), .ref (am 5 0), .ref (am 6 0), .ref (am 7 0), .ref (am 8 0), .ref (am 9 0), .ref (am 10 0), .ref (am 11 0), .ref (am 12 0), .ref (am 13 0), vI (((srM m F9.1 F9.2.1 F9.2.2.1 F9.2.2.2 Q1 F1 R1) 0 0) 14), .ref (am 15 0), .ref (am 16 0), .ref (am 17 0), .ref (am 18 0), .ref (am 19 0), .ref (am 20 0), .ref (am 21 0), .ref (am 22 0), .ref (am 23 0), .ref (am 24 0), .ref (am 25 0), .ref (am 26 0), .ref (am 27 0), .ref (am 28 0), .ref (am 29 0), vI (((((srM m F9.1 F9.2.1 F9.2.2.1 F9.2.2.2 Q1 F1 R1) 0 0) 30).toNat : Nat) : Int), vI (F9.1), vI (F9.2.1), vI ((F9.2.2.1 : Nat) : Int), vI (F9.2.2.2), .ref (am 35 0), .ref (am 36 0), .ref (am 37 0)]) := by rw [e203, hu_n (cp36.1.ne (lm0 (by decide)) (lm0 (by decide)) (fun zz9 => absurd zz9.1 (by decide)))]; exact f123
                        refine x_get C (v := .ref (am 35 0)) f205 (T := TX8) rfl kX8_searches_1 35 (by decide) kX8_searches_0 rfl dX8_searches_287 ?_
                        refine x_iload_n C dX8_searches_290 3 rfl ?_
                        refine x_aload_n C dX8_searches_291 0 rfl ?_
                        have cp206 : MP D am h (cu (cu (srM m F9.1 F9.2.1 F9.2.2.1 F9.2.2.2 Q1 F1 R1) 37 0 (fu R1 (Int.toNat F9.1) 1)) 36 0 (fu F1 (Int.toNat (((cd F9 : Nat) : Int))) ((F1 p) + 1))) h202 := by rw [e203, e121]; exact (MP.up (MP.up cp36 (lm0 (by decide)) (fu R1 (Int.toNat F9.1) 1) rfl) (lm0 (by decide)) (fu F1 (Int.toNat (((cd F9 : Nat) : Int))) ((F1 p) + 1)) rfl)
                        refine x_callV C (n := 0) (qc := (RX8, TX8, 38)) (As := []) (rest := [vI ((m1 : Nat) : Int), .ref (am 35 0)]) (c_X8_code (cp206.1) (⟨b1, b2⟩) (⟨b3_, b4⟩) (⟨by show (0 : Int) ≤ ((F9.2.2.1 : Nat) : Int); omega, by show ((F9.2.2.1 : Nat) : Int) < 8; omega⟩)) gX8_searches_X8_code (by decide +kernel) f205 rfl rfl rfl rfl (Nat.le_of_ble_eq_true rfl) ⟨by decide, by decide⟩ ⟨(by decide), (by decide)⟩ dX8_searches_292 (fun rv207 h208 hp209 => ?_)
                        obtain ⟨rfl, e210⟩ := hp209
                        obtain rfl := e210.symm
                        refine x_topv (show ((pkc (((cu (cu (srM m F9.1 F9.2.1 F9.2.2.1 F9.2.2.2 Q1 F1 R1) 37 0 (fu R1 (Int.toNat F9.1) 1)) 36 0 (fu F1 (Int.toNat (((cd F9 : Nat) : Int))) ((F1 p) + 1)))) 0 0 31) (((cu (cu (srM m F9.1 F9.2.1 F9.2.2.1 F9.2.2.2 Q1 F1 R1) 37 0 (fu R1 (Int.toNat F9.1) 1)) 36 0 (fu F1 (Int.toNat (((cd F9 : Nat) : Int))) ((F1 p) + 1)))) 0 0 32) (((cu (cu (srM m F9.1 F9.2.1 F9.2.2.1 F9.2.2.2 Q1 F1 R1) 37 0 (fu R1 (Int.toNat F9.1) 1)) 36 0 (fu F1 (Int.toNat (((cd F9 : Nat) : Int))) ((F1 p) + 1)))) 0 0 33).toNat : Nat) : Int) = ((cd F9 : Nat) : Int) from by rfl) ?_
                        have f211 : h202 (am 35 0) = some (eI D 6144 Q1) := by rw [e203, hu_n (cp36.1.ne (lm0 (by decide)) (lm0 (by decide)) (fun zz9 => absurd zz9.1 (by decide)))]; exact f186
                        refine x_iast C f211 ⟨by omega, by omega⟩ (by decide) dX8_searches_295 (x_hn (fun h212 e213 => ?_))
                        have f214 : h212 (am 35 0) = some (eI D 6144 (fu Q1 (Int.toNat (((m1 : Nat) : Int))) (((cd F9 : Nat) : Int)))) := by rw [e213]; exact hu_s
                        refine x_iinc C (x := ((m1 : Nat) : Int)) (ls' := [(0, .ref (am 0 0)), (1, vI z), (2, vI ((F1 p) + 1)), (3, vI ((((m1 : Nat) : Int)) + 1)), (4, vI ((k : Nat) : Int)), (5, vI ((i : Nat) : Int))]) dX8_searches_296 3 rfl (by decide) rfl ?_
                        refine x_iinc C (x := ((i : Nat) : Int)) (ls' := [(0, .ref (am 0 0)), (1, vI z), (2, vI ((F1 p) + 1)), (3, vI ((((m1 : Nat) : Int)) + 1)), (4, vI ((k : Nat) : Int)), (5, vI ((((i : Nat) : Int)) + 1))]) dX8_searches_299 5 rfl (by decide) rfl ?_
                        refine x_goto (tgt := 131) C dX8_searches_302 (by decide) ?_
                        have cp215 : MP D am h (cu (cu (cu (srM m F9.1 F9.2.1 F9.2.2.1 F9.2.2.2 Q1 F1 R1) 37 0 (fu R1 (Int.toNat F9.1) 1)) 36 0 (fu F1 (Int.toNat (((cd F9 : Nat) : Int))) ((F1 p) + 1))) 35 0 (fu Q1 (Int.toNat (((m1 : Nat) : Int))) (((cd F9 : Nat) : Int)))) h212 := by rw [e213, e203, e121]; exact (MP.up (MP.up (MP.up cp36 (lm0 (by decide)) (fu R1 (Int.toNat F9.1) 1) rfl) (lm0 (by decide)) (fu F1 (Int.toNat (((cd F9 : Nat) : Int))) ((F1 p) + 1)) rfl) (lm0 (by decide)) (fu Q1 (Int.toNat (((m1 : Nat) : Int))) (((cd F9 : Nat) : Int))) rfl)
                        exact ihINN F9.1 F9.2.1 F9.2.2.2 ((F1 p) + 1) F9.2.2.1 (m1 + 1) k (fu Q1 (Int.toNat (((m1 : Nat) : Int))) (((cd F9 : Nat) : Int))) (fu F1 (Int.toNat (((cd F9 : Nat) : Int))) ((F1 p) + 1)) (fu R1 (Int.toNat F9.1) 1) (i + 1) h212 (BI.tryM hTok hBI hk9 (by omega) hp9 hF9 (by first | exact Or.inl ⟨by omega, rfl⟩ | exact Or.inr ⟨by omega, rfl⟩) (by first | exact Or.inl ⟨by omega, by omega, rfl⟩ | exact Or.inr ⟨by omega, rfl⟩) (by first | exact Or.inl ⟨by omega, by omega, rfl, rfl, rfl⟩ | exact Or.inr ⟨by omega, rfl, rfl, rfl⟩)) (by omega) (by omega) (hF7) (by first | exact R01 hR8 _ | exact hR8) (BQ.tryM (F := F9) hBI hBQ hk9 hp9 (by first | exact Or.inl ⟨by omega, by omega, rfl⟩ | exact Or.inr ⟨by omega, rfl⟩) (by first | exact Or.inl ⟨by omega, by omega, rfl, rfl, rfl⟩ | exact Or.inr ⟨by omega, rfl, rfl, rfl⟩)) (by omega) (by omega) (by have q9 := cp215; simp only [sr_R, sr_F, sr_Q] at q9; exact q9)
        exact INN (7) c1 v1 s1 w1 t1 m1 k Q1 F1 R1 0 h1 (hBI) (by omega) (by omega) (hb1) (hR8) (hBQ) (by omega) (by omega) (hcp)
  have LB : ∀ (N : Nat) (n : Nat) (h216 : vh)   (hn : n ≤ 96) (hN : 96 - n < N) (hcp : MP D am h (cu (cu m 36 0 (rzM (m 36 0) 6144)) 37 0 (rz0 (m 37 0) n)) h216), X κ 0 0 h216 [(0, .ref (am 0 0)), (1, vI z), (2, vI (-1)), (3, vI 0), (4, vI ((n : Nat) : Int))] 32 [] := by
    intro N
    induction N with
    | zero => intro n h216 hn hN hcp; exfalso; omega
    | succ N ihLB =>
      intro n h216 hn hN hcp
      refine x_iload C dX8_searches_32 4 rfl ?_
      refine x_bipush C dX8_searches_34 96 (by decide) ?_
      refine x_icmp_ge (tgt := 53) C dX8_searches_36 (by decide) (by omega) (by omega) (fun c217 => ?_) (fun c217 => ?_)
      · skip
        refine x_aload_n C dX8_searches_53 0 rfl ?_
        refine x_iload_n C dX8_searches_54 1 rfl ?_
        have f218 : h216 (am 0 0) = some (eO 8 [vI (((cu (cu m 36 0 (rzM (m 36 0) 6144)) 37 0 (rz0 (m 37 0) n)) 0 0) 0), .ref (am 1 0), vI (((cu (cu m 36 0 (rzM (m 36 0) 6144)) 37 0 (rz0 (m 37 0) n)) 0 0) 2), .ref (am 3 0), .ref (am 4 0), .ref (am 5 0), .ref (am 6 0), .ref (am 7 0), .ref (am 8 0), .ref (am 9 0), .ref (am 10 0), .ref (am 11 0), .ref (am 12 0), .ref (am 13 0), vI (((cu (cu m 36 0 (rzM (m 36 0) 6144)) 37 0 (rz0 (m 37 0) n)) 0 0) 14), .ref (am 15 0), .ref (am 16 0), .ref (am 17 0), .ref (am 18 0), .ref (am 19 0), .ref (am 20 0), .ref (am 21 0), .ref (am 22 0), .ref (am 23 0), .ref (am 24 0), .ref (am 25 0), .ref (am 26 0), .ref (am 27 0), .ref (am 28 0), .ref (am 29 0), vI (((((cu (cu m 36 0 (rzM (m 36 0) 6144)) 37 0 (rz0 (m 37 0) n)) 0 0) 30).toNat : Nat) : Int), vI (((cu (cu m 36 0 (rzM (m 36 0) 6144)) 37 0 (rz0 (m 37 0) n)) 0 0) 31), vI (((cu (cu m 36 0 (rzM (m 36 0) 6144)) 37 0 (rz0 (m 37 0) n)) 0 0) 32), vI (((((cu (cu m 36 0 (rzM (m 36 0) 6144)) 37 0 (rz0 (m 37 0) n)) 0 0) 33).toNat : Nat) : Int), vI (((cu (cu m 36 0 (rzM (m 36 0) 6144)) 37 0 (rz0 (m 37 0) n)) 0 0) 34), .ref (am 35 0), .ref (am 36 0), .ref (am 37 0)]) := hcp.1.1 0 0 (lm0 (by decide))
        refine x_callV C (n := 1) (qc := (RX8, TX8, 38)) (As := [vI z]) (rest := []) (c_X8_starts (hcp.1) (hz) (hG) (hKB)) gX8_searches_X8_starts (by decide +kernel) f218 rfl rfl rfl rfl (Nat.le_of_ble_eq_true rfl) ⟨by decide, by decide⟩ ⟨(by decide), (by decide)⟩ dX8_searches_55 (fun rv219 h220 hp221 => ?_)
        obtain ⟨rfl, cp223⟩ := hp221
        have cp224 : MP D am h (stM ((cu (cu m 36 0 (rzM (m 36 0) 6144)) 37 0 (rz0 (m 37 0) n))) z) h220 := MP.trans hcp cp223
        obtain ⟨F8, hF8⟩ : ∃ F8, F8 = rzM (m 36 0) 6144 := ⟨_, rfl⟩
        obtain ⟨R8, hR8⟩ : ∃ R8, R8 = rz0 (m 37 0) 96 := ⟨_, rfl⟩
        have hn96 : n = 96 := by omega
        have cp225 : MP D am h (srM m x9.1 x9.2.1 x9.2.2.1 x9.2.2.2 (m 35 0) F8 R8) h220 := by have q9 := cp224; rw [hn96, stM_b, sr_mk] at q9; rw [hF8, hR8, hx9]; exact q9
        have hF7 : ∀ n, n < 6144 → F8 n = -1 := fun n hn => by rw [hF8]; unfold rzM; rw [if_pos hn]
        have hR7 : ∀ n, n < 96 → R8 n = 0 := fun n hn => by rw [hR8]; unfold rz0; rw [if_pos hn]
        have hXo : bOK x9 := by rw [hx9]; exact hXok
        have hXp : x9.1 = z := by rw [hx9]; exact hX1
        obtain ⟨b1, b2, b3_, b4, b5, b6, b7⟩ := id hXo
        have hcd := cd_lt hXo
        have hx3 : b123 x9 := by rw [hx9]; exact X0r_b
        unfold b123 at hx3
        have f226 : h220 (am 0 0) = some (eO 8 [vI (((srM m x9.1 x9.2.1 x9.2.2.1 x9.2.2.2 (m 35 0) F8 R8) 0 0) 0), .ref (am 1 0), vI (((srM m x9.1 x9.2.1 x9.2.2.1 x9.2.2.2 (m 35 0) F8 R8) 0 0) 2), .ref (am 3 0), .ref (am 4 0), .ref (am 5 0), .ref (am 6 0), .ref (am 7 0), .ref (am 8 0), .ref (am 9 0), .ref (am 10 0), .ref (am 11 0), .ref (am 12 0), .ref (am 13 0), vI (((srM m x9.1 x9.2.1 x9.2.2.1 x9.2.2.2 (m 35 0) F8 R8) 0 0) 14), .ref (am 15 0), .ref (am 16 0), .ref (am 17 0), .ref (am 18 0), .ref (am 19 0), .ref (am 20 0), .ref (am 21 0), .ref (am 22 0), .ref (am 23 0), .ref (am 24 0), .ref (am 25 0), .ref (am 26 0), .ref (am 27 0), .ref (am 28 0), .ref (am 29 0), vI (((((srM m x9.1 x9.2.1 x9.2.2.1 x9.2.2.2 (m 35 0) F8 R8) 0 0) 30).toNat : Nat) : Int), vI (((srM m x9.1 x9.2.1 x9.2.2.1 x9.2.2.2 (m 35 0) F8 R8) 0 0) 31), vI (((srM m x9.1 x9.2.1 x9.2.2.1 x9.2.2.2 (m 35 0) F8 R8) 0 0) 32), vI (((((srM m x9.1 x9.2.1 x9.2.2.1 x9.2.2.2 (m 35 0) F8 R8) 0 0) 33).toNat : Nat) : Int), vI (((srM m x9.1 x9.2.1 x9.2.2.1 x9.2.2.2 (m 35 0) F8 R8) 0 0) 34), .ref (am 35 0), .ref (am 36 0), .ref (am 37 0)]) := cp225.1.1 0 0 (lm0 (by decide))
        have f227 : h220 (am 0 0) = some (eO 8 [vI (((srM m x9.1 x9.2.1 x9.2.2.1 x9.2.2.2 (m 35 0) F8 R8) 0 0) 0), .ref (am 1 0), vI (((srM m x9.1 x9.2.1 x9.2.2.1 x9.2.2.2 (m 35 0) F8 R8) 0 0) 2), .ref (am 3 0), .ref (am 4 0), .ref (am 5 0), .ref (am 6 0), .ref (am 7 0), .ref (am 8 0), .ref (am 9 0), .ref (am 10 0), .ref (am 11 0), .ref (am 12 0), .ref (am 13 0), vI (((srM m x9.1 x9.2.1 x9.2.2.1 x9.2.2.2 (m 35 0) F8 R8) 0 0) 14), .ref (am 15 0), .ref (am 16 0), .ref (am 17 0), .ref (am 18 0), .ref (am 19 0), .ref (am 20 0), .ref (am 21 0), .ref (am 22 0), .ref (am 23 0), .ref (am 24 0), .ref (am 25 0), .ref (am 26 0), .ref (am 27 0), .ref (am 28 0), .ref (am 29 0), vI (((((srM m x9.1 x9.2.1 x9.2.2.1 x9.2.2.2 (m 35 0) F8 R8) 0 0) 30).toNat : Nat) : Int), vI (x9.1), vI (x9.2.1), vI ((x9.2.2.1 : Nat) : Int), vI (x9.2.2.2), .ref (am 35 0), .ref (am 36 0), .ref (am 37 0)]) := by have q9 := f226; exact q9
        have f228 : h220 (am 35 0) = some (eI D 6144 (((srM m x9.1 x9.2.1 x9.2.2.1 x9.2.2.2 (m 35 0) F8 R8) 35 0))) := cp225.1.1 35 0 (lm0 (by decide))
        have f229 : h220 (am 35 0) = some (eI D 6144 (m 35 0)) := by have q9 := f228; exact q9
        have f230 : h220 (am 36 0) = some (eI D 6144 (((srM m x9.1 x9.2.1 x9.2.2.1 x9.2.2.2 (m 35 0) F8 R8) 36 0))) := cp225.1.1 36 0 (lm0 (by decide))
        have f231 : h220 (am 36 0) = some (eI D 6144 F8) := by have q9 := f230; exact q9
        have f232 : h220 (am 37 0) = some (eZ D 96 (((srM m x9.1 x9.2.1 x9.2.2.1 x9.2.2.2 (m 35 0) F8 R8) 37 0))) := cp225.1.1 37 0 (lm0 (by decide))
        have f233 : h220 (am 37 0) = some (eZ D 96 R8) := by have q9 := f232; exact q9
        refine x_aload_n C dX8_searches_58 0 rfl ?_
        refine x_get C (v := vI (x9.2.2.2)) f227 (T := TX8) rfl kX8_searches_1 34 (by decide) kX8_searches_5 rfl dX8_searches_59 ?_
        refine x_iconst C dX8_searches_62 3 (by decide) ?_
        refine x_icmp_eq (tgt := 87) C dX8_searches_63 (by decide) (by omega) (by omega) (fun c234 => ?_) (fun c234 => ?_)
        · skip
          refine x_aload_n C dX8_searches_87 0 rfl ?_
          refine x_get C (v := vI (x9.2.2.2)) f227 (T := TX8) rfl kX8_searches_1 34 (by decide) kX8_searches_5 rfl dX8_searches_88 ?_
          refine x_iconst C dX8_searches_91 1 (by decide) ?_
          refine x_icmp_ne (tgt := 119) C dX8_searches_92 (by decide) (by omega) (by omega) (fun c235 => ?_) (fun c235 => ?_)
          · skip
            refine x_iconst C dX8_searches_119 0 (by decide) ?_
            refine x_istore C (ls' := [(0, .ref (am 0 0)), (1, vI z), (2, vI (-1)), (3, vI 0), (4, vI 0)]) dX8_searches_120 (by decide) rfl ?_
            exact OUT (6147) x9.1 x9.2.1 x9.2.2.2 ((-1)) x9.2.2.1 0 0 (m 35 0) F8 R8 h220 (by rw [← hx9]; exact BI.begin hXo hx3 hF7 hR7 (R := R8) (F := F8) (Q := m 35 0) (by first | exact Or.inl ⟨by omega, rfl⟩ | exact Or.inr ⟨by omega, by rw [hXp]⟩) (by first | exact Or.inl ⟨by omega, rfl⟩ | exact Or.inr ⟨by omega, rfl⟩) (by first | exact Or.inl ⟨by omega, rfl, rfl, rfl⟩ | exact Or.inr ⟨by omega, rfl, rfl, rfl⟩)) (by omega) (hXo) (by first | exact R01 (fun j hj => by rw [hR7 j hj]; omega) _ | exact fun j hj => by rw [hR7 j hj]; omega) (⟨fun j hj => by first | (exfalso; omega) | (obtain rfl : j = 0 := (by omega); exact Int.le_of_eq (by show fu F8 (cd x9) 0 (fu (m 35 0) 0 ((cd x9 : Nat) : Int) 0).toNat = 0; rw [show fu (m 35 0) 0 ((cd x9 : Nat) : Int) 0 = ((cd x9 : Nat) : Int) from fu_s]; exact fu_s)), by decide, by decide⟩) (by omega) (cp225)
          · skip
            refine x_aload_n C dX8_searches_95 0 rfl ?_
            refine x_get C (v := .ref (am 35 0)) f227 (T := TX8) rfl kX8_searches_1 35 (by decide) kX8_searches_0 rfl dX8_searches_96 ?_
            refine x_iconst C dX8_searches_99 0 (by decide) ?_
            refine x_aload_n C dX8_searches_100 0 rfl ?_
            refine x_callV C (n := 0) (qc := (RX8, TX8, 38)) (As := []) (rest := [vI 0, .ref (am 35 0)]) (c_X8_code (cp225.1) (⟨b1, b2⟩) (⟨b3_, b4⟩) (⟨by show (0 : Int) ≤ ((x9.2.2.1 : Nat) : Int); omega, by show ((x9.2.2.1 : Nat) : Int) < 8; omega⟩)) gX8_searches_X8_code (by decide +kernel) f227 rfl rfl rfl rfl (Nat.le_of_ble_eq_true rfl) ⟨by decide, by decide⟩ ⟨(by decide), (by decide)⟩ dX8_searches_101 (fun rv236 h237 hp238 => ?_)
            obtain ⟨rfl, e239⟩ := hp238
            obtain rfl := e239.symm
            refine x_topv (show ((pkc (((srM m x9.1 x9.2.1 x9.2.2.1 x9.2.2.2 (m 35 0) F8 R8)) 0 0 31) (((srM m x9.1 x9.2.1 x9.2.2.1 x9.2.2.2 (m 35 0) F8 R8)) 0 0 32) (((srM m x9.1 x9.2.1 x9.2.2.1 x9.2.2.2 (m 35 0) F8 R8)) 0 0 33).toNat : Nat) : Int) = ((cd x9 : Nat) : Int) from by rfl) ?_
            refine x_iast C f229 ⟨by omega, by omega⟩ (by decide) dX8_searches_104 (x_hn (fun h240 e241 => ?_))
            have f242 : h240 (am 35 0) = some (eI D 6144 (fu (m 35 0) (Int.toNat 0) (((cd x9 : Nat) : Int)))) := by rw [e241]; exact hu_s
            refine x_aload_n C dX8_searches_105 0 rfl ?_
            have f243 : h240 (am 0 0) = some (eO 8 [vI (((srM m x9.1 x9.2.1 x9.2.2.1 x9.2.2.2 (m 35 0) F8 R8) 0 0) 0), .ref (am 1 0), vI (((srM m x9.1 x9.2.1 x9.2.2.1 x9.2.2.2 (m 35 0) F8 R8) 0 0) 2), .ref (am 3 0), .ref (am 4 0), .ref (am 5 0), .ref (am 6 0), .ref (am 7 0), .ref (am 8 0), .ref (am 9 0), .ref (am 10 0), .ref (am 11 0), .ref (am 12 0), .ref (am 13 0), vI (((srM m x9.1 x9.2.1 x9.2.2.1 x9.2.2.2 (m 35 0) F8 R8) 0 0) 14), .ref (am 15 0), .ref (am 16 0), .ref (am 17 0), .ref (am 18 0), .ref (am 19 0), .ref (am 20 0), .ref (am 21 0), .ref (am 22 0), .ref (am 23 0), .ref (am 24 0), .ref (am 25 0), .ref (am 26 0), .ref (am 27 0), .ref (am 28 0), .ref (am 29 0), vI (((((srM m x9.1 x9.2.1 x9.2.2.1 x9.2.2.2 (m 35 0) F8 R8) 0 0) 30).toNat : Nat) : Int), vI (x9.1), vI (x9.2.1), vI ((x9.2.2.1 : Nat) : Int), vI (x9.2.2.2), .ref (am 35 0), .ref (am 36 0), .ref (am 37 0)]) := by rw [e241, hu_n (cp225.1.ne (lm0 (by decide)) (lm0 (by decide)) (fun zz9 => absurd zz9.1 (by decide)))]; exact f227
            refine x_get C (v := .ref (am 36 0)) f243 (T := TX8) rfl kX8_searches_1 36 (by decide) kX8_searches_6 rfl dX8_searches_106 ?_
            refine x_aload_n C dX8_searches_109 0 rfl ?_
            refine x_get C (v := .ref (am 35 0)) f243 (T := TX8) rfl kX8_searches_1 35 (by decide) kX8_searches_0 rfl dX8_searches_110 ?_
            refine x_iconst C dX8_searches_113 0 (by decide) ?_
            refine x_iald C f242 ⟨by omega, by omega⟩ (by decide) dX8_searches_114 ?_
            refine x_topv (show (fu (m 35 0) (Int.toNat 0) (((cd x9 : Nat) : Int))) (Int.toNat 0) = ((cd x9 : Nat) : Int) from by exact fu_s) ?_
            refine x_iconst C dX8_searches_115 0 (by decide) ?_
            have f244 : h240 (am 36 0) = some (eI D 6144 F8) := by rw [e241, hu_n (cp225.1.ne (lm0 (by decide)) (lm0 (by decide)) (fun zz9 => absurd zz9.1 (by decide)))]; exact f231
            refine x_iast C f244 ⟨by omega, by omega⟩ (by decide) dX8_searches_116 (x_hn (fun h245 e246 => ?_))
            have f247 : h245 (am 36 0) = some (eI D 6144 (fu F8 (Int.toNat (((cd x9 : Nat) : Int))) 0)) := by rw [e246]; exact hu_s
            refine x_iconst C dX8_searches_117 1 (by decide) ?_
            refine x_istore_n C (ls' := [(0, .ref (am 0 0)), (1, vI z), (2, vI (-1)), (3, vI 1), (4, vI ((n : Nat) : Int))]) dX8_searches_118 (by decide) rfl ?_
            refine x_iconst C dX8_searches_119 0 (by decide) ?_
            refine x_istore C (ls' := [(0, .ref (am 0 0)), (1, vI z), (2, vI (-1)), (3, vI 1), (4, vI 0)]) dX8_searches_120 (by decide) rfl ?_
            have cp248 : MP D am h (cu (cu (srM m x9.1 x9.2.1 x9.2.2.1 x9.2.2.2 (m 35 0) F8 R8) 35 0 (fu (m 35 0) (Int.toNat 0) (((cd x9 : Nat) : Int)))) 36 0 (fu F8 (Int.toNat (((cd x9 : Nat) : Int))) 0)) h245 := by rw [e246, e241]; exact (MP.up (MP.up cp225 (lm0 (by decide)) (fu (m 35 0) (Int.toNat 0) (((cd x9 : Nat) : Int))) rfl) (lm0 (by decide)) (fu F8 (Int.toNat (((cd x9 : Nat) : Int))) 0) rfl)
            exact OUT (6147) x9.1 x9.2.1 x9.2.2.2 ((-1)) x9.2.2.1 1 0 (fu (m 35 0) (Int.toNat 0) (((cd x9 : Nat) : Int))) (fu F8 (Int.toNat (((cd x9 : Nat) : Int))) 0) R8 h245 (by rw [← hx9]; exact BI.begin hXo hx3 hF7 hR7 (R := R8) (F := F8) (Q := m 35 0) (by first | exact Or.inl ⟨by omega, rfl⟩ | exact Or.inr ⟨by omega, by rw [hXp]⟩) (by first | exact Or.inl ⟨by omega, rfl⟩ | exact Or.inr ⟨by omega, rfl⟩) (by first | exact Or.inl ⟨by omega, rfl, rfl, rfl⟩ | exact Or.inr ⟨by omega, rfl, rfl, rfl⟩)) (by omega) (hXo) (by first | exact R01 (fun j hj => by rw [hR7 j hj]; omega) _ | exact fun j hj => by rw [hR7 j hj]; omega) (⟨fun j hj => by first | (exfalso; omega) | (obtain rfl : j = 0 := (by omega); exact Int.le_of_eq (by show fu F8 (cd x9) 0 (fu (m 35 0) 0 ((cd x9 : Nat) : Int) 0).toNat = 0; rw [show fu (m 35 0) 0 ((cd x9 : Nat) : Int) 0 = ((cd x9 : Nat) : Int) from fu_s]; exact fu_s)), by decide, by decide⟩) (by omega) (by have q9 := cp248; simp only [sr_R, sr_F, sr_Q] at q9; exact q9)
        · skip
          refine x_aload_n C dX8_searches_66 0 rfl ?_
          refine x_get C (v := .ref (am 37 0)) f227 (T := TX8) rfl kX8_searches_1 37 (by decide) kX8_searches_7 rfl dX8_searches_67 ?_
          refine x_iload_n C dX8_searches_70 1 rfl ?_
          refine x_iconst C dX8_searches_71 1 (by decide) ?_
          refine x_zast C f233 ⟨by omega, by omega⟩ (by decide) (by omega) dX8_searches_72 (x_hn (fun h249 e250 => ?_))
          have f251 : h249 (am 37 0) = some (eZ D 96 (fu R8 (Int.toNat z) 1)) := by rw [e250]; exact hu_s
          refine x_aload_n C dX8_searches_73 0 rfl ?_
          have f252 : h249 (am 0 0) = some (eO 8 [vI (((srM m x9.1 x9.2.1 x9.2.2.1 x9.2.2.2 (m 35 0) F8 R8) 0 0) 0), .ref (am 1 0), vI (((srM m x9.1 x9.2.1 x9.2.2.1 x9.2.2.2 (m 35 0) F8 R8) 0 0) 2), .ref (am 3 0), .ref (am 4 0), .ref (am 5 0), .ref (am 6 0), .ref (am 7 0), .ref (am 8 0), .ref (am 9 0), .ref (am 10 0), .ref (am 11 0), .ref (am 12 0), .ref (am 13 0), vI (((srM m x9.1 x9.2.1 x9.2.2.1 x9.2.2.2 (m 35 0) F8 R8) 0 0) 14), .ref (am 15 0), .ref (am 16 0), .ref (am 17 0), .ref (am 18 0), .ref (am 19 0), .ref (am 20 0), .ref (am 21 0), .ref (am 22 0), .ref (am 23 0), .ref (am 24 0), .ref (am 25 0), .ref (am 26 0), .ref (am 27 0), .ref (am 28 0), .ref (am 29 0), vI (((((srM m x9.1 x9.2.1 x9.2.2.1 x9.2.2.2 (m 35 0) F8 R8) 0 0) 30).toNat : Nat) : Int), vI (x9.1), vI (x9.2.1), vI ((x9.2.2.1 : Nat) : Int), vI (x9.2.2.2), .ref (am 35 0), .ref (am 36 0), .ref (am 37 0)]) := by rw [e250, hu_n (cp225.1.ne (lm0 (by decide)) (lm0 (by decide)) (fun zz9 => absurd zz9.1 (by decide)))]; exact f227
          refine x_get C (v := vI (x9.2.2.2)) f252 (T := TX8) rfl kX8_searches_1 34 (by decide) kX8_searches_5 rfl dX8_searches_74 ?_
          refine x_iconst C dX8_searches_77 2 (by decide) ?_
          refine x_icmp_ne (tgt := 85) C dX8_searches_78 (by decide) (by omega) (by omega) (fun c253 => ?_) (fun c253 => ?_)
          · skip
            refine x_iconst C dX8_searches_85 (-1) (by decide) ?_
            refine x_istore_n C (ls' := [(0, .ref (am 0 0)), (1, vI z), (2, vI (-1)), (3, vI 0), (4, vI ((n : Nat) : Int))]) dX8_searches_86 (by decide) rfl ?_
            refine x_aload_n C dX8_searches_87 0 rfl ?_
            refine x_get C (v := vI (x9.2.2.2)) f252 (T := TX8) rfl kX8_searches_1 34 (by decide) kX8_searches_5 rfl dX8_searches_88 ?_
            refine x_iconst C dX8_searches_91 1 (by decide) ?_
            refine x_icmp_ne (tgt := 119) C dX8_searches_92 (by decide) (by omega) (by omega) (fun c254 => ?_) (fun c254 => ?_)
            · skip
              refine x_iconst C dX8_searches_119 0 (by decide) ?_
              refine x_istore C (ls' := [(0, .ref (am 0 0)), (1, vI z), (2, vI (-1)), (3, vI 0), (4, vI 0)]) dX8_searches_120 (by decide) rfl ?_
              have cp255 : MP D am h (cu (srM m x9.1 x9.2.1 x9.2.2.1 x9.2.2.2 (m 35 0) F8 R8) 37 0 (fu R8 (Int.toNat z) 1)) h249 := by rw [e250]; exact (MP.up cp225 (lm0 (by decide)) (fu R8 (Int.toNat z) 1) rfl)
              exact OUT (6147) x9.1 x9.2.1 x9.2.2.2 ((-1)) x9.2.2.1 0 0 (m 35 0) F8 (fu R8 (Int.toNat z) 1) h249 (by rw [← hx9]; exact BI.begin hXo hx3 hF7 hR7 (R := R8) (F := F8) (Q := m 35 0) (by first | exact Or.inl ⟨by omega, rfl⟩ | exact Or.inr ⟨by omega, by rw [hXp]⟩) (by first | exact Or.inl ⟨by omega, rfl⟩ | exact Or.inr ⟨by omega, rfl⟩) (by first | exact Or.inl ⟨by omega, rfl, rfl, rfl⟩ | exact Or.inr ⟨by omega, rfl, rfl, rfl⟩)) (by omega) (hXo) (by first | exact R01 (fun j hj => by rw [hR7 j hj]; omega) _ | exact fun j hj => by rw [hR7 j hj]; omega) (⟨fun j hj => by first | (exfalso; omega) | (obtain rfl : j = 0 := (by omega); exact Int.le_of_eq (by show fu F8 (cd x9) 0 (fu (m 35 0) 0 ((cd x9 : Nat) : Int) 0).toNat = 0; rw [show fu (m 35 0) 0 ((cd x9 : Nat) : Int) 0 = ((cd x9 : Nat) : Int) from fu_s]; exact fu_s)), by decide, by decide⟩) (by omega) (by have q9 := cp255; simp only [sr_R, sr_F, sr_Q] at q9; exact q9)
            · skip
              refine x_aload_n C dX8_searches_95 0 rfl ?_
              refine x_get C (v := .ref (am 35 0)) f252 (T := TX8) rfl kX8_searches_1 35 (by decide) kX8_searches_0 rfl dX8_searches_96 ?_
              refine x_iconst C dX8_searches_99 0 (by decide) ?_
              refine x_aload_n C dX8_searches_100 0 rfl ?_
              have cp256 : MP D am h (cu (srM m x9.1 x9.2.1 x9.2.2.1 x9.2.2.2 (m 35 0) F8 R8) 37 0 (fu R8 (Int.toNat z) 1)) h249 := by rw [e250]; exact (MP.up cp225 (lm0 (by decide)) (fu R8 (Int.toNat z) 1) rfl)
              refine x_callV C (n := 0) (qc := (RX8, TX8, 38)) (As := []) (rest := [vI 0, .ref (am 35 0)]) (c_X8_code (cp256.1) (⟨b1, b2⟩) (⟨b3_, b4⟩) (⟨by show (0 : Int) ≤ ((x9.2.2.1 : Nat) : Int); omega, by show ((x9.2.2.1 : Nat) : Int) < 8; omega⟩)) gX8_searches_X8_code (by decide +kernel) f252 rfl rfl rfl rfl (Nat.le_of_ble_eq_true rfl) ⟨by decide, by decide⟩ ⟨(by decide), (by decide)⟩ dX8_searches_101 (fun rv257 h258 hp259 => ?_)
              obtain ⟨rfl, e260⟩ := hp259
              obtain rfl := e260.symm
              refine x_topv (show ((pkc (((cu (srM m x9.1 x9.2.1 x9.2.2.1 x9.2.2.2 (m 35 0) F8 R8) 37 0 (fu R8 (Int.toNat z) 1))) 0 0 31) (((cu (srM m x9.1 x9.2.1 x9.2.2.1 x9.2.2.2 (m 35 0) F8 R8) 37 0 (fu R8 (Int.toNat z) 1))) 0 0 32) (((cu (srM m x9.1 x9.2.1 x9.2.2.1 x9.2.2.2 (m 35 0) F8 R8) 37 0 (fu R8 (Int.toNat z) 1))) 0 0 33).toNat : Nat) : Int) = ((cd x9 : Nat) : Int) from by rfl) ?_
              have f261 : h249 (am 35 0) = some (eI D 6144 (m 35 0)) := by rw [e250, hu_n (cp225.1.ne (lm0 (by decide)) (lm0 (by decide)) (fun zz9 => absurd zz9.1 (by decide)))]; exact f229
              refine x_iast C f261 ⟨by omega, by omega⟩ (by decide) dX8_searches_104 (x_hn (fun h262 e263 => ?_))
              have f264 : h262 (am 35 0) = some (eI D 6144 (fu (m 35 0) (Int.toNat 0) (((cd x9 : Nat) : Int)))) := by rw [e263]; exact hu_s
              refine x_aload_n C dX8_searches_105 0 rfl ?_
              have f265 : h262 (am 0 0) = some (eO 8 [vI (((srM m x9.1 x9.2.1 x9.2.2.1 x9.2.2.2 (m 35 0) F8 R8) 0 0) 0), .ref (am 1 0), vI (((srM m x9.1 x9.2.1 x9.2.2.1 x9.2.2.2 (m 35 0) F8 R8) 0 0) 2), .ref (am 3 0), .ref (am 4 0), .ref (am 5 0), .ref (am 6 0), .ref (am 7 0), .ref (am 8 0), .ref (am 9 0), .ref (am 10 0), .ref (am 11 0), .ref (am 12 0), .ref (am 13 0), vI (((srM m x9.1 x9.2.1 x9.2.2.1 x9.2.2.2 (m 35 0) F8 R8) 0 0) 14), .ref (am 15 0), .ref (am 16 0), .ref (am 17 0), .ref (am 18 0), .ref (am 19 0), .ref (am 20 0), .ref (am 21 0), .ref (am 22 0), .ref (am 23 0), .ref (am 24 0), .ref (am 25 0), .ref (am 26 0), .ref (am 27 0), .ref (am 28 0), .ref (am 29 0), vI (((((srM m x9.1 x9.2.1 x9.2.2.1 x9.2.2.2 (m 35 0) F8 R8) 0 0) 30).toNat : Nat) : Int), vI (x9.1), vI (x9.2.1), vI ((x9.2.2.1 : Nat) : Int), vI (x9.2.2.2), .ref (am 35 0), .ref (am 36 0), .ref (am 37 0)]) := by rw [e263, hu_n (cp225.1.ne (lm0 (by decide)) (lm0 (by decide)) (fun zz9 => absurd zz9.1 (by decide)))]; exact f252
              refine x_get C (v := .ref (am 36 0)) f265 (T := TX8) rfl kX8_searches_1 36 (by decide) kX8_searches_6 rfl dX8_searches_106 ?_
              refine x_aload_n C dX8_searches_109 0 rfl ?_
              refine x_get C (v := .ref (am 35 0)) f265 (T := TX8) rfl kX8_searches_1 35 (by decide) kX8_searches_0 rfl dX8_searches_110 ?_
              refine x_iconst C dX8_searches_113 0 (by decide) ?_
              refine x_iald C f264 ⟨by omega, by omega⟩ (by decide) dX8_searches_114 ?_
              refine x_topv (show (fu (m 35 0) (Int.toNat 0) (((cd x9 : Nat) : Int))) (Int.toNat 0) = ((cd x9 : Nat) : Int) from by exact fu_s) ?_
              refine x_iconst C dX8_searches_115 0 (by decide) ?_
              have f266 : h249 (am 36 0) = some (eI D 6144 F8) := by rw [e250, hu_n (cp225.1.ne (lm0 (by decide)) (lm0 (by decide)) (fun zz9 => absurd zz9.1 (by decide)))]; exact f231
              have f267 : h262 (am 36 0) = some (eI D 6144 F8) := by rw [e263, hu_n (cp225.1.ne (lm0 (by decide)) (lm0 (by decide)) (fun zz9 => absurd zz9.1 (by decide)))]; exact f266
              refine x_iast C f267 ⟨by omega, by omega⟩ (by decide) dX8_searches_116 (x_hn (fun h268 e269 => ?_))
              have f270 : h268 (am 36 0) = some (eI D 6144 (fu F8 (Int.toNat (((cd x9 : Nat) : Int))) 0)) := by rw [e269]; exact hu_s
              refine x_iconst C dX8_searches_117 1 (by decide) ?_
              refine x_istore_n C (ls' := [(0, .ref (am 0 0)), (1, vI z), (2, vI (-1)), (3, vI 1), (4, vI ((n : Nat) : Int))]) dX8_searches_118 (by decide) rfl ?_
              refine x_iconst C dX8_searches_119 0 (by decide) ?_
              refine x_istore C (ls' := [(0, .ref (am 0 0)), (1, vI z), (2, vI (-1)), (3, vI 1), (4, vI 0)]) dX8_searches_120 (by decide) rfl ?_
              have cp271 : MP D am h (cu (cu (cu (srM m x9.1 x9.2.1 x9.2.2.1 x9.2.2.2 (m 35 0) F8 R8) 37 0 (fu R8 (Int.toNat z) 1)) 35 0 (fu (m 35 0) (Int.toNat 0) (((cd x9 : Nat) : Int)))) 36 0 (fu F8 (Int.toNat (((cd x9 : Nat) : Int))) 0)) h268 := by rw [e269, e263, e250]; exact (MP.up (MP.up (MP.up cp225 (lm0 (by decide)) (fu R8 (Int.toNat z) 1) rfl) (lm0 (by decide)) (fu (m 35 0) (Int.toNat 0) (((cd x9 : Nat) : Int))) rfl) (lm0 (by decide)) (fu F8 (Int.toNat (((cd x9 : Nat) : Int))) 0) rfl)
              exact OUT (6147) x9.1 x9.2.1 x9.2.2.2 ((-1)) x9.2.2.1 1 0 (fu (m 35 0) (Int.toNat 0) (((cd x9 : Nat) : Int))) (fu F8 (Int.toNat (((cd x9 : Nat) : Int))) 0) (fu R8 (Int.toNat z) 1) h268 (by rw [← hx9]; exact BI.begin hXo hx3 hF7 hR7 (R := R8) (F := F8) (Q := m 35 0) (by first | exact Or.inl ⟨by omega, rfl⟩ | exact Or.inr ⟨by omega, by rw [hXp]⟩) (by first | exact Or.inl ⟨by omega, rfl⟩ | exact Or.inr ⟨by omega, rfl⟩) (by first | exact Or.inl ⟨by omega, rfl, rfl, rfl⟩ | exact Or.inr ⟨by omega, rfl, rfl, rfl⟩)) (by omega) (hXo) (by first | exact R01 (fun j hj => by rw [hR7 j hj]; omega) _ | exact fun j hj => by rw [hR7 j hj]; omega) (⟨fun j hj => by first | (exfalso; omega) | (obtain rfl : j = 0 := (by omega); exact Int.le_of_eq (by show fu F8 (cd x9) 0 (fu (m 35 0) 0 ((cd x9 : Nat) : Int) 0).toNat = 0; rw [show fu (m 35 0) 0 ((cd x9 : Nat) : Int) 0 = ((cd x9 : Nat) : Int) from fu_s]; exact fu_s)), by decide, by decide⟩) (by omega) (by have q9 := cp271; simp only [sr_R, sr_F, sr_Q] at q9; exact q9)
          · skip
            refine x_iconst C dX8_searches_81 0 (by decide) ?_
            refine x_goto (tgt := 86) C dX8_searches_82 (by decide) ?_
            refine x_istore_n C (ls' := [(0, .ref (am 0 0)), (1, vI z), (2, vI 0), (3, vI 0), (4, vI ((n : Nat) : Int))]) dX8_searches_86 (by decide) rfl ?_
            refine x_aload_n C dX8_searches_87 0 rfl ?_
            refine x_get C (v := vI (x9.2.2.2)) f252 (T := TX8) rfl kX8_searches_1 34 (by decide) kX8_searches_5 rfl dX8_searches_88 ?_
            refine x_iconst C dX8_searches_91 1 (by decide) ?_
            refine x_icmp_ne (tgt := 119) C dX8_searches_92 (by decide) (by omega) (by omega) (fun c272 => ?_) (fun c272 => ?_)
            · skip
              refine x_iconst C dX8_searches_119 0 (by decide) ?_
              refine x_istore C (ls' := [(0, .ref (am 0 0)), (1, vI z), (2, vI 0), (3, vI 0), (4, vI 0)]) dX8_searches_120 (by decide) rfl ?_
              have cp273 : MP D am h (cu (srM m x9.1 x9.2.1 x9.2.2.1 x9.2.2.2 (m 35 0) F8 R8) 37 0 (fu R8 (Int.toNat z) 1)) h249 := by rw [e250]; exact (MP.up cp225 (lm0 (by decide)) (fu R8 (Int.toNat z) 1) rfl)
              exact OUT (6147) x9.1 x9.2.1 x9.2.2.2 0 x9.2.2.1 0 0 (m 35 0) F8 (fu R8 (Int.toNat z) 1) h249 (by rw [← hx9]; exact BI.begin hXo hx3 hF7 hR7 (R := R8) (F := F8) (Q := m 35 0) (by first | exact Or.inl ⟨by omega, rfl⟩ | exact Or.inr ⟨by omega, by rw [hXp]⟩) (by first | exact Or.inl ⟨by omega, rfl⟩ | exact Or.inr ⟨by omega, rfl⟩) (by first | exact Or.inl ⟨by omega, rfl, rfl, rfl⟩ | exact Or.inr ⟨by omega, rfl, rfl, rfl⟩)) (by omega) (hXo) (by first | exact R01 (fun j hj => by rw [hR7 j hj]; omega) _ | exact fun j hj => by rw [hR7 j hj]; omega) (⟨fun j hj => by first | (exfalso; omega) | (obtain rfl : j = 0 := (by omega); exact Int.le_of_eq (by show fu F8 (cd x9) 0 (fu (m 35 0) 0 ((cd x9 : Nat) : Int) 0).toNat = 0; rw [show fu (m 35 0) 0 ((cd x9 : Nat) : Int) 0 = ((cd x9 : Nat) : Int) from fu_s]; exact fu_s)), by decide, by decide⟩) (by omega) (by have q9 := cp273; simp only [sr_R, sr_F, sr_Q] at q9; exact q9)
            · skip
              refine x_aload_n C dX8_searches_95 0 rfl ?_
              refine x_get C (v := .ref (am 35 0)) f252 (T := TX8) rfl kX8_searches_1 35 (by decide) kX8_searches_0 rfl dX8_searches_96 ?_
              refine x_iconst C dX8_searches_99 0 (by decide) ?_
              refine x_aload_n C dX8_searches_100 0 rfl ?_
              have cp274 : MP D am h (cu (srM m x9.1 x9.2.1 x9.2.2.1 x9.2.2.2 (m 35 0) F8 R8) 37 0 (fu R8 (Int.toNat z) 1)) h249 := by rw [e250]; exact (MP.up cp225 (lm0 (by decide)) (fu R8 (Int.toNat z) 1) rfl)
              refine x_callV C (n := 0) (qc := (RX8, TX8, 38)) (As := []) (rest := [vI 0, .ref (am 35 0)]) (c_X8_code (cp274.1) (⟨b1, b2⟩) (⟨b3_, b4⟩) (⟨by show (0 : Int) ≤ ((x9.2.2.1 : Nat) : Int); omega, by show ((x9.2.2.1 : Nat) : Int) < 8; omega⟩)) gX8_searches_X8_code (by decide +kernel) f252 rfl rfl rfl rfl (Nat.le_of_ble_eq_true rfl) ⟨by decide, by decide⟩ ⟨(by decide), (by decide)⟩ dX8_searches_101 (fun rv275 h276 hp277 => ?_)
              obtain ⟨rfl, e278⟩ := hp277
              obtain rfl := e278.symm
              refine x_topv (show ((pkc (((cu (srM m x9.1 x9.2.1 x9.2.2.1 x9.2.2.2 (m 35 0) F8 R8) 37 0 (fu R8 (Int.toNat z) 1))) 0 0 31) (((cu (srM m x9.1 x9.2.1 x9.2.2.1 x9.2.2.2 (m 35 0) F8 R8) 37 0 (fu R8 (Int.toNat z) 1))) 0 0 32) (((cu (srM m x9.1 x9.2.1 x9.2.2.1 x9.2.2.2 (m 35 0) F8 R8) 37 0 (fu R8 (Int.toNat z) 1))) 0 0 33).toNat : Nat) : Int) = ((cd x9 : Nat) : Int) from by rfl) ?_
              have f279 : h249 (am 35 0) = some (eI D 6144 (m 35 0)) := by rw [e250, hu_n (cp225.1.ne (lm0 (by decide)) (lm0 (by decide)) (fun zz9 => absurd zz9.1 (by decide)))]; exact f229
              refine x_iast C f279 ⟨by omega, by omega⟩ (by decide) dX8_searches_104 (x_hn (fun h280 e281 => ?_))
              have f282 : h280 (am 35 0) = some (eI D 6144 (fu (m 35 0) (Int.toNat 0) (((cd x9 : Nat) : Int)))) := by rw [e281]; exact hu_s
              refine x_aload_n C dX8_searches_105 0 rfl ?_
              have f283 : h280 (am 0 0) = some (eO 8 [vI (((srM m x9.1 x9.2.1 x9.2.2.1 x9.2.2.2 (m 35 0) F8 R8) 0 0) 0), .ref (am 1 0), vI (((srM m x9.1 x9.2.1 x9.2.2.1 x9.2.2.2 (m 35 0) F8 R8) 0 0) 2), .ref (am 3 0), .ref (am 4 0), .ref (am 5 0), .ref (am 6 0), .ref (am 7 0), .ref (am 8 0), .ref (am 9 0), .ref (am 10 0), .ref (am 11 0), .ref (am 12 0), .ref (am 13 0), vI (((srM m x9.1 x9.2.1 x9.2.2.1 x9.2.2.2 (m 35 0) F8 R8) 0 0) 14), .ref (am 15 0), .ref (am 16 0), .ref (am 17 0), .ref (am 18 0), .ref (am 19 0), .ref (am 20 0), .ref (am 21 0), .ref (am 22 0), .ref (am 23 0), .ref (am 24 0), .ref (am 25 0), .ref (am 26 0), .ref (am 27 0), .ref (am 28 0), .ref (am 29 0), vI (((((srM m x9.1 x9.2.1 x9.2.2.1 x9.2.2.2 (m 35 0) F8 R8) 0 0) 30).toNat : Nat) : Int), vI (x9.1), vI (x9.2.1), vI ((x9.2.2.1 : Nat) : Int), vI (x9.2.2.2), .ref (am 35 0), .ref (am 36 0), .ref (am 37 0)]) := by rw [e281, hu_n (cp225.1.ne (lm0 (by decide)) (lm0 (by decide)) (fun zz9 => absurd zz9.1 (by decide)))]; exact f252
              refine x_get C (v := .ref (am 36 0)) f283 (T := TX8) rfl kX8_searches_1 36 (by decide) kX8_searches_6 rfl dX8_searches_106 ?_
              refine x_aload_n C dX8_searches_109 0 rfl ?_
              refine x_get C (v := .ref (am 35 0)) f283 (T := TX8) rfl kX8_searches_1 35 (by decide) kX8_searches_0 rfl dX8_searches_110 ?_
              refine x_iconst C dX8_searches_113 0 (by decide) ?_
              refine x_iald C f282 ⟨by omega, by omega⟩ (by decide) dX8_searches_114 ?_
              refine x_topv (show (fu (m 35 0) (Int.toNat 0) (((cd x9 : Nat) : Int))) (Int.toNat 0) = ((cd x9 : Nat) : Int) from by exact fu_s) ?_
              refine x_iconst C dX8_searches_115 0 (by decide) ?_
              have f284 : h249 (am 36 0) = some (eI D 6144 F8) := by rw [e250, hu_n (cp225.1.ne (lm0 (by decide)) (lm0 (by decide)) (fun zz9 => absurd zz9.1 (by decide)))]; exact f231
              have f285 : h280 (am 36 0) = some (eI D 6144 F8) := by rw [e281, hu_n (cp225.1.ne (lm0 (by decide)) (lm0 (by decide)) (fun zz9 => absurd zz9.1 (by decide)))]; exact f284
              refine x_iast C f285 ⟨by omega, by omega⟩ (by decide) dX8_searches_116 (x_hn (fun h286 e287 => ?_))
              have f288 : h286 (am 36 0) = some (eI D 6144 (fu F8 (Int.toNat (((cd x9 : Nat) : Int))) 0)) := by rw [e287]; exact hu_s
              refine x_iconst C dX8_searches_117 1 (by decide) ?_
              refine x_istore_n C (ls' := [(0, .ref (am 0 0)), (1, vI z), (2, vI 0), (3, vI 1), (4, vI ((n : Nat) : Int))]) dX8_searches_118 (by decide) rfl ?_
              refine x_iconst C dX8_searches_119 0 (by decide) ?_
              refine x_istore C (ls' := [(0, .ref (am 0 0)), (1, vI z), (2, vI 0), (3, vI 1), (4, vI 0)]) dX8_searches_120 (by decide) rfl ?_
              have cp289 : MP D am h (cu (cu (cu (srM m x9.1 x9.2.1 x9.2.2.1 x9.2.2.2 (m 35 0) F8 R8) 37 0 (fu R8 (Int.toNat z) 1)) 35 0 (fu (m 35 0) (Int.toNat 0) (((cd x9 : Nat) : Int)))) 36 0 (fu F8 (Int.toNat (((cd x9 : Nat) : Int))) 0)) h286 := by rw [e287, e281, e250]; exact (MP.up (MP.up (MP.up cp225 (lm0 (by decide)) (fu R8 (Int.toNat z) 1) rfl) (lm0 (by decide)) (fu (m 35 0) (Int.toNat 0) (((cd x9 : Nat) : Int))) rfl) (lm0 (by decide)) (fu F8 (Int.toNat (((cd x9 : Nat) : Int))) 0) rfl)
              exact OUT (6147) x9.1 x9.2.1 x9.2.2.2 0 x9.2.2.1 1 0 (fu (m 35 0) (Int.toNat 0) (((cd x9 : Nat) : Int))) (fu F8 (Int.toNat (((cd x9 : Nat) : Int))) 0) (fu R8 (Int.toNat z) 1) h286 (by rw [← hx9]; exact BI.begin hXo hx3 hF7 hR7 (R := R8) (F := F8) (Q := m 35 0) (by first | exact Or.inl ⟨by omega, rfl⟩ | exact Or.inr ⟨by omega, by rw [hXp]⟩) (by first | exact Or.inl ⟨by omega, rfl⟩ | exact Or.inr ⟨by omega, rfl⟩) (by first | exact Or.inl ⟨by omega, rfl, rfl, rfl⟩ | exact Or.inr ⟨by omega, rfl, rfl, rfl⟩)) (by omega) (hXo) (by first | exact R01 (fun j hj => by rw [hR7 j hj]; omega) _ | exact fun j hj => by rw [hR7 j hj]; omega) (⟨fun j hj => by first | (exfalso; omega) | (obtain rfl : j = 0 := (by omega); exact Int.le_of_eq (by show fu F8 (cd x9) 0 (fu (m 35 0) 0 ((cd x9 : Nat) : Int) 0).toNat = 0; rw [show fu (m 35 0) 0 ((cd x9 : Nat) : Int) 0 = ((cd x9 : Nat) : Int) from fu_s]; exact fu_s)), by decide, by decide⟩) (by omega) (by have q9 := cp289; simp only [sr_R, sr_F, sr_Q] at q9; exact q9)
      · skip
        refine x_aload_n C dX8_searches_39 0 rfl ?_
        have f290 : h216 (am 0 0) = some (eO 8 [vI (((cu (cu m 36 0 (rzM (m 36 0) 6144)) 37 0 (rz0 (m 37 0) n)) 0 0) 0), .ref (am 1 0), vI (((cu (cu m 36 0 (rzM (m 36 0) 6144)) 37 0 (rz0 (m 37 0) n)) 0 0) 2), .ref (am 3 0), .ref (am 4 0), .ref (am 5 0), .ref (am 6 0), .ref (am 7 0), .ref (am 8 0), .ref (am 9 0), .ref (am 10 0), .ref (am 11 0), .ref (am 12 0), .ref (am 13 0), vI (((cu (cu m 36 0 (rzM (m 36 0) 6144)) 37 0 (rz0 (m 37 0) n)) 0 0) 14), .ref (am 15 0), .ref (am 16 0), .ref (am 17 0), .ref (am 18 0), .ref (am 19 0), .ref (am 20 0), .ref (am 21 0), .ref (am 22 0), .ref (am 23 0), .ref (am 24 0), .ref (am 25 0), .ref (am 26 0), .ref (am 27 0), .ref (am 28 0), .ref (am 29 0), vI (((((cu (cu m 36 0 (rzM (m 36 0) 6144)) 37 0 (rz0 (m 37 0) n)) 0 0) 30).toNat : Nat) : Int), vI (((cu (cu m 36 0 (rzM (m 36 0) 6144)) 37 0 (rz0 (m 37 0) n)) 0 0) 31), vI (((cu (cu m 36 0 (rzM (m 36 0) 6144)) 37 0 (rz0 (m 37 0) n)) 0 0) 32), vI (((((cu (cu m 36 0 (rzM (m 36 0) 6144)) 37 0 (rz0 (m 37 0) n)) 0 0) 33).toNat : Nat) : Int), vI (((cu (cu m 36 0 (rzM (m 36 0) 6144)) 37 0 (rz0 (m 37 0) n)) 0 0) 34), .ref (am 35 0), .ref (am 36 0), .ref (am 37 0)]) := hcp.1.1 0 0 (lm0 (by decide))
        refine x_get C (v := .ref (am 37 0)) f290 (T := TX8) rfl kX8_searches_1 37 (by decide) kX8_searches_7 rfl dX8_searches_40 ?_
        refine x_iload C dX8_searches_43 4 rfl ?_
        refine x_iconst C dX8_searches_45 0 (by decide) ?_
        have f291 : h216 (am 37 0) = some (eZ D 96 (((cu (cu m 36 0 (rzM (m 36 0) 6144)) 37 0 (rz0 (m 37 0) n)) 37 0))) := hcp.1.1 37 0 (lm0 (by decide))
        refine x_zast C f291 ⟨by omega, by omega⟩ (by decide) (by omega) dX8_searches_46 (x_hn (fun h292 e293 => ?_))
        have f294 : h292 (am 37 0) = some (eZ D 96 (fu (((cu (cu m 36 0 (rzM (m 36 0) 6144)) 37 0 (rz0 (m 37 0) n)) 37 0)) (Int.toNat (((n : Nat) : Int))) 0)) := by rw [e293]; exact hu_s
        refine x_iinc C (x := ((n : Nat) : Int)) (ls' := [(0, .ref (am 0 0)), (1, vI z), (2, vI (-1)), (3, vI 0), (4, vI ((((n : Nat) : Int)) + 1))]) dX8_searches_47 4 rfl (by decide) rfl ?_
        refine x_goto (tgt := 32) C dX8_searches_50 (by decide) ?_
        have cp295 : MP D am h (cu (cu (cu m 36 0 (rzM (m 36 0) 6144)) 37 0 (rz0 (m 37 0) n)) 37 0 (fu (((cu (cu m 36 0 (rzM (m 36 0) 6144)) 37 0 (rz0 (m 37 0) n)) 37 0)) (Int.toNat (((n : Nat) : Int))) 0)) h292 := by rw [e293]; exact (MP.up hcp (lm0 (by decide)) (fu (((cu (cu m 36 0 (rzM (m 36 0) 6144)) 37 0 (rz0 (m 37 0) n)) 37 0)) (Int.toNat (((n : Nat) : Int))) 0) rfl)
        refine x_widen (m1 := 0) (m2 := 0) (by first | omega | (dsimp only; omega)) (by first | omega | (dsimp only; omega)) ?_
        exact ihLB (n + 1) h292 (by omega) (by omega) (by have q9 := cp295; rw [cu_u] at q9; try rw [cu_s] at q9; rw [show Int.toNat ((n : Nat) : Int) = n from rfl] at q9; rw [rz0_i] at q9; exact q9)
  refine x_iconst C dX8_searches_0 (-1) (by decide) ?_
  refine x_istore_n C (ls' := [(0, .ref (am 0 0)), (1, vI z), (2, vI (-1))]) dX8_searches_1 (by decide) rfl ?_
  refine x_iconst C dX8_searches_2 0 (by decide) ?_
  refine x_istore_n C (ls' := [(0, .ref (am 0 0)), (1, vI z), (2, vI (-1)), (3, vI 0)]) dX8_searches_3 (by decide) rfl ?_
  refine x_iconst C dX8_searches_4 0 (by decide) ?_
  refine x_istore C (ls' := [(0, .ref (am 0 0)), (1, vI z), (2, vI (-1)), (3, vI 0), (4, vI 0)]) dX8_searches_5 (by decide) rfl ?_
  have LA : ∀ (N : Nat) (n : Nat) (h296 : vh)   (hn : n ≤ 6144) (hN : 6144 - n < N) (hcp : MP D am h (cu m 36 0 (rzM (m 36 0) n)) h296), X κ 0 0 h296 [(0, .ref (am 0 0)), (1, vI z), (2, vI (-1)), (3, vI 0), (4, vI ((n : Nat) : Int))] 7 [] := by
    intro N
    induction N with
    | zero => intro n h296 hn hN hcp; exfalso; omega
    | succ N ihLA =>
      intro n h296 hn hN hcp
      refine x_iload C dX8_searches_7 4 rfl ?_
      refine x_sipush C dX8_searches_9 6144 (by decide) ?_
      refine x_icmp_ge (tgt := 29) C dX8_searches_12 (by decide) (by omega) (by omega) (fun c297 => ?_) (fun c297 => ?_)
      · skip
        refine x_iconst C dX8_searches_29 0 (by decide) ?_
        refine x_istore C (ls' := [(0, .ref (am 0 0)), (1, vI z), (2, vI (-1)), (3, vI 0), (4, vI 0)]) dX8_searches_30 (by decide) rfl ?_
        exact LB (97) 0 h296 (by omega) (by omega) (by rw [rz0_0, cu_id (m := cu m 36 0 (rzM (m 36 0) 6144)) (k := 37) (f := m 37 0) rfl]; have q9 := hcp; rw [show n = 6144 by omega] at q9; exact q9)
      · skip
        refine x_aload_n C dX8_searches_15 0 rfl ?_
        have f298 : h296 (am 0 0) = some (eO 8 [vI (((cu m 36 0 (rzM (m 36 0) n)) 0 0) 0), .ref (am 1 0), vI (((cu m 36 0 (rzM (m 36 0) n)) 0 0) 2), .ref (am 3 0), .ref (am 4 0), .ref (am 5 0), .ref (am 6 0), .ref (am 7 0), .ref (am 8 0), .ref (am 9 0), .ref (am 10 0), .ref (am 11 0), .ref (am 12 0), .ref (am 13 0), vI (((cu m 36 0 (rzM (m 36 0) n)) 0 0) 14), .ref (am 15 0), .ref (am 16 0), .ref (am 17 0), .ref (am 18 0), .ref (am 19 0), .ref (am 20 0), .ref (am 21 0), .ref (am 22 0), .ref (am 23 0), .ref (am 24 0), .ref (am 25 0), .ref (am 26 0), .ref (am 27 0), .ref (am 28 0), .ref (am 29 0), vI (((((cu m 36 0 (rzM (m 36 0) n)) 0 0) 30).toNat : Nat) : Int), vI (((cu m 36 0 (rzM (m 36 0) n)) 0 0) 31), vI (((cu m 36 0 (rzM (m 36 0) n)) 0 0) 32), vI (((((cu m 36 0 (rzM (m 36 0) n)) 0 0) 33).toNat : Nat) : Int), vI (((cu m 36 0 (rzM (m 36 0) n)) 0 0) 34), .ref (am 35 0), .ref (am 36 0), .ref (am 37 0)]) := hcp.1.1 0 0 (lm0 (by decide))
        refine x_get C (v := .ref (am 36 0)) f298 (T := TX8) rfl kX8_searches_1 36 (by decide) kX8_searches_6 rfl dX8_searches_16 ?_
        refine x_iload C dX8_searches_19 4 rfl ?_
        refine x_iconst C dX8_searches_21 (-1) (by decide) ?_
        have f299 : h296 (am 36 0) = some (eI D 6144 (((cu m 36 0 (rzM (m 36 0) n)) 36 0))) := hcp.1.1 36 0 (lm0 (by decide))
        refine x_iast C f299 ⟨by omega, by omega⟩ (by decide) dX8_searches_22 (x_hn (fun h300 e301 => ?_))
        have f302 : h300 (am 36 0) = some (eI D 6144 (fu (((cu m 36 0 (rzM (m 36 0) n)) 36 0)) (Int.toNat (((n : Nat) : Int))) ((-1)))) := by rw [e301]; exact hu_s
        refine x_iinc C (x := ((n : Nat) : Int)) (ls' := [(0, .ref (am 0 0)), (1, vI z), (2, vI (-1)), (3, vI 0), (4, vI ((((n : Nat) : Int)) + 1))]) dX8_searches_23 4 rfl (by decide) rfl ?_
        refine x_goto (tgt := 7) C dX8_searches_26 (by decide) ?_
        have cp303 : MP D am h (cu (cu m 36 0 (rzM (m 36 0) n)) 36 0 (fu (((cu m 36 0 (rzM (m 36 0) n)) 36 0)) (Int.toNat (((n : Nat) : Int))) ((-1)))) h300 := by rw [e301]; exact (MP.up hcp (lm0 (by decide)) (fu (((cu m 36 0 (rzM (m 36 0) n)) 36 0)) (Int.toNat (((n : Nat) : Int))) ((-1))) rfl)
        refine x_widen (m1 := 0) (m2 := 0) (by first | omega | (dsimp only; omega)) (by first | omega | (dsimp only; omega)) ?_
        exact ihLA (n + 1) h300 (by omega) (by omega) (by have q9 := cp303; rw [cu_u] at q9; try rw [cu_s] at q9; rw [show Int.toNat ((n : Nat) : Int) = n from rfl] at q9; rw [rzM_s] at q9; exact q9)
  exact LA (6145) 0 h (by omega) (by omega) (by rw [rzM_0, cu_id rfl]; exact MP.rf hR)


/-- the reference as it searches -/
def srM (m : CS) (c v : Int) (t : Nat) (s : Int) (Q F R : Nat → Int) : CS := cu (cu (cu (bM m c v t s) 36 0 F) 37 0 R) 35 0 Q
theorem cu_sw {m : CS} {a b : Nat} {f g : Nat → Int} (n : ¬ a = b) : cu (cu m a 0 f) b 0 g = cu (cu m b 0 g) a 0 f := by
  funext k i
  by_cases h1 : k = a ∧ i = 0
  · have h2 : ¬ (k = b ∧ i = 0) := fun z => n (h1.1.symm.trans z.1)
    simp only [cu, if_pos h1, if_neg h2]
  · simp only [cu, if_neg h1]
theorem sr_Q {m : CS} {c v : Int} {t : Nat} {s : Int} {Q F R Q' : Nat → Int} : cu (srM m c v t s Q F R) 35 0 Q' = srM m c v t s Q' F R := by
  unfold srM; rw [cu_u]
theorem sr_R {m : CS} {c v : Int} {t : Nat} {s : Int} {Q F R R' : Nat → Int} : cu (srM m c v t s Q F R) 37 0 R' = srM m c v t s Q F R' := by
  unfold srM; rw [cu_sw (by decide), cu_u]
theorem sr_F {m : CS} {c v : Int} {t : Nat} {s : Int} {Q F R F' : Nat → Int} : cu (srM m c v t s Q F R) 36 0 F' = srM m c v t s Q F' R := by
  unfold srM; rw [cu_sw (a := 35) (by decide), cu_sw (a := 37) (by decide), cu_u]
theorem bM_cu {m : CS} {a : Nat} {f : Nat → Int} (n : ¬ a = 0) {c v : Int} {t : Nat} {s : Int} : bM (cu m a 0 f) c v t s = cu (bM m c v t s) a 0 f := by
  have e : cu m a 0 f 0 0 = m 0 0 := cu_n (fun z => n z.1.symm)
  unfold bM
  rw [e, cu_sw n]
theorem bM_b {m : CS} {a b a' b' : Int} {c c' : Nat} {d d' : Int} : bM (bM m a b c d) a' b' c' d' = bM m a' b' c' d' := bM_up
theorem sr_b {m : CS} {c v c' v' : Int} {t t' : Nat} {s s' : Int} {Q F R : Nat → Int} : bM (srM m c v t s Q F R) c' v' t' s' = srM m c' v' t' s' Q F R := by
  unfold srM
  rw [bM_cu (by decide), bM_cu (by decide), bM_cu (by decide), bM_b]
theorem sr_mk {m : CS} {c v : Int} {t : Nat} {s : Int} {F R : Nat → Int} : bM (cu (cu m 36 0 F) 37 0 R) c v t s = srM m c v t s (m 35 0) F R := by
  rw [bM_cu (by decide), bM_cu (by decide)]
  unfold srM
  funext k i
  by_cases h : k = 35 ∧ i = 0
  · obtain ⟨rfl, rfl⟩ := h
    rfl
  · rw [cu_n (c := cu (cu (bM m c v t s) 36 0 F) 37 0 R) h]
theorem sr_o {m : CS} {c v c' v' : Int} {t t' : Nat} {s s' : Int} {Q F R : Nat → Int} : cu (srM m c v t s Q F R) 0 0 (fu (fu (fu (fu (srM m c v t s Q F R 0 0) 31 c') 32 v') 33 ((t' : Nat) : Int)) 34 s') = srM m c' v' t' s' Q F R := sr_b
theorem sr_mv {m : CS} {c v : Int} {t : Nat} {s : Int} {Q F R : Nat → Int} {x : B4} : mvM (srM m c v t s Q F R) x = srM m x.1 x.2.1 x.2.2.1 x.2.2.2 Q F R := sr_b
theorem stM_b {m : CS} {z : Int} : stM m z = bM m (cm (m 28 0) (KBm m) z (z, 0, 1)).1 0 (cm (m 28 0) (KBm m) z (z, 0, 1)).2.1 (cm (m 28 0) (KBm m) z (z, 0, 1)).2.2 := by
  unfold stM bdM bM
  rw [cu_u, cu_s]
  refine congrArg (cu m 0 0) ?_
  funext j
  unfold fu
  by_cases h1 : j = 34
  · rw [if_pos h1, if_pos h1]
  · rw [if_neg h1, if_neg h1]
    by_cases h2 : j = 33
    · rw [if_pos h2, if_pos h2]
    · rw [if_neg h2, if_neg h2]
      by_cases h3 : j = 31
      · subst h3; rfl
      · rw [if_neg h3, if_neg h2]
        by_cases h4 : j = 32
        · rw [if_pos h4, if_pos h4]
        · rw [if_neg h4, if_neg h4, if_neg h3]
def rzM (F : Nat → Int) (n : Nat) : Nat → Int := fun j => if j < n then -1 else F j
theorem rzM_0 {F : Nat → Int} : rzM F 0 = F := by funext j; exact if_neg (Nat.not_lt_zero _)
theorem rzM_s {F : Nat → Int} {n : Nat} : fu (rzM F n) n (-1) = rzM F (n + 1) := by
  funext j
  unfold fu rzM
  by_cases q : j = n
  · rw [if_pos q, if_pos (by omega)]
  · rw [if_neg q]
    by_cases r : j < n
    · rw [if_pos r, if_pos (by omega)]
    · rw [if_neg r, if_neg (by omega)]
theorem cu_id {m : CS} {k : Nat} {f : Nat → Int} (h : f = m k 0) : cu m k 0 f = m := by
  subst h
  funext a b
  by_cases q : a = k ∧ b = 0
  · simp only [cu, if_pos q]; rw [q.1, q.2]
  · simp only [cu, if_neg q]
/-- what a body can do, by bits that are given -/
def TTr (f : Nat → Int) (B : Int → Nat) (al : Nat) (S : Nat → Int) : Nat → Nat → B4 := fun n i => mv f B al S ((i : Nat) : Int) ((n / 64 : Nat) : Int) (((n / 8 % 8 : Nat) : Int) - 4) (n % 8)
def X0r (f : Nat → Int) (B : Int → Nat) (z : Int) : B4 := ((cm f B z (z, 0, 1)).1, 0, (cm f B z (z, 0, 1)).2.1, (cm f B z (z, 0, 1)).2.2)
theorem mv_b9 {f : Nat → Int} {B : Int → Nat} {al : Nat} {S : Nat → Int} {i c v : Int} {t : Nat} : b123 (mv f B al S i c v t) := by
  unfold mv
  have h : b3 (sd f B al (i % 3 - 1) (c, t, 1)) := sd_b3 (Or.inl rfl)
  split
  · exact vt_b3 _ _ h
  · exact h
theorem TTr_ok {f : Nat → Int} {B : Int → Nat} {al : Nat} {S : Nat → Int} (hB : ∀ p, B p < 8) (hS : ∀ j, 0 ≤ S j ∧ S j ≤ 4) : ∀ n, n < 6144 → ∀ i, i < 6 → bOK (TTr f B al S n i) ∧ b123 (TTr f B al S n i) := fun n hn i _ => ⟨mv_r hB hS ⟨by omega, by omega⟩ ⟨by omega, by omega⟩ (by omega), mv_b9⟩
theorem X0r_ok {f : Nat → Int} {B : Int → Nat} (hB : ∀ p, B p < 8) {z : Int} (hz : 0 ≤ z ∧ z ≤ 95) : bOK (X0r f B z) := by
  obtain ⟨h1, h2, h3, h4, h5⟩ := cm_r (f := f) hB (p := z) (x := (z, 0, 1)) ⟨hz.1, hz.2, by show (0 : Nat) < 8; decide, by dsimp only; omega, by dsimp only; omega⟩
  exact ⟨h1, h2, by show (-4 : Int) ≤ 0; omega, by show (0 : Int) ≤ 3; omega, h3, h4, h5⟩
theorem X0r_b {f : Nat → Int} {B : Int → Nat} {z : Int} : b123 (X0r f B z) := cm_b3 (x := (z, 0, 1)) (Or.inl rfl)
theorem X0r_1 {f : Nat → Int} {B : Int → Nat} {z : Int} (hz : 0 ≤ z ∧ z ≤ 95) : (X0r f B z).1 = z := by
  unfold X0r cm; dsimp only; rw [if_pos (by omega)]
/-- the start of a search that keeps its distances -/
theorem BI.begin {T : Nat → Nat → B4} {x0 : B4} (hx : bOK x0) (h3 : b123 x0) {Q F R : Nat → Int} (hF : ∀ n, n < 6144 → F n = -1) (hR0 : ∀ n, n < 96 → R n = 0) {m' : Nat} {Q' F' R' : Nat → Int} {w : Int}
    (hR : (x0.2.2.2 = 3 ∧ R' = R) ∨ (x0.2.2.2 ≠ 3 ∧ R' = fu R x0.1.toNat 1)) (hw : (x0.2.2.2 = 2 ∧ w = 0) ∨ (x0.2.2.2 ≠ 2 ∧ w = -1))
    (hq : (x0.2.2.2 = 1 ∧ m' = 1 ∧ Q' = fu Q 0 ((cd x0 : Nat) : Int) ∧ F' = fu F (cd x0) 0) ∨ (x0.2.2.2 ≠ 1 ∧ m' = 0 ∧ Q' = Q ∧ F' = F)) : BI T x0 m' Q' F' R' w 0 0 := by
  have hc := cd_lt hx
  have hR1 : ∀ c : Nat, c < 96 → fu R x0.1.toNat 1 c = 1 → (c : Int) = x0.1 := fun c hc h => by
    unfold fu at h
    by_cases q : c = x0.1.toNat
    · have := hx.1; omega
    · rw [if_neg q, hR0 c hc] at h; omega
  rcases h3 with h3 | h3 | h3
  · obtain ⟨_, rfl⟩ := hR.resolve_left (fun z => absurd z.1 (by omega))
    obtain ⟨_, rfl⟩ := hw.resolve_left (fun z => absurd z.1 (by omega))
    obtain ⟨_, rfl, rfl, rfl⟩ := hq.resolve_right (fun z => absurd h3 z.1)
    refine ⟨fun j hj => ?_, fun n h1 h2 => ?_, fun j j' h1 h2 => ?_, fun j hj _ => ?_, fun j i' hj hi' hp => ?_, fun c hc96 hc1 => Or.inl ⟨by omega, hR1 c hc96 hc1⟩, fun _ => ⟨fu_s, by omega, fu_s⟩, fun _ => fu_s, fun q => ?_, Or.inl rfl, fun q => absurd rfl q⟩
    · obtain rfl : j = 0 := by omega
      have e1 : fu Q 0 ((cd x0 : Nat) : Int) 0 = ((cd x0 : Nat) : Int) := fu_s
      have e2 : fu F (cd x0) 0 ((cd x0 : Nat) : Int).toNat = 0 := fu_s
      rw [e1, e2]
      exact ⟨by omega, by omega, by omega, h3, rfl⟩
    · by_cases q : n = cd x0
      · exact ⟨0, by omega, by rw [q]; exact fu_s⟩
      · rw [fu_n q, hF n h1] at h2; exact absurd rfl h2
    · omega
    · obtain rfl : j = 0 := by omega
      omega
    · omega
    · omega
  · obtain ⟨_, rfl⟩ := hR.resolve_left (fun z => absurd z.1 (by omega))
    obtain ⟨_, rfl⟩ := hw.resolve_right (fun z => absurd h3 z.1)
    obtain ⟨_, e1, e2, e3⟩ := hq.resolve_left (fun z => absurd z.1 (by omega))
    rw [e1, e2, e3]
    exact ⟨fun j hj => by omega, fun n h1 h2 => absurd (hF n h1) h2, fun j j' h1 h2 => by omega, fun j hj _ => by omega, fun j i' hj hi' hp => by omega, fun c hc96 hc1 => Or.inl ⟨by omega, hR1 c hc96 hc1⟩, fun q => by omega, fun _ => fu_s, fun _ => rfl, Or.inr ⟨by omega, h3⟩, fun _ j hj => by omega⟩
  · obtain ⟨_, e0⟩ := hR.resolve_right (fun z => absurd h3 z.1)
    obtain ⟨_, rfl⟩ := hw.resolve_left (fun z => absurd z.1 (by omega))
    obtain ⟨_, e1, e2, e3⟩ := hq.resolve_left (fun z => absurd z.1 (by omega))
    rw [e0, e1, e2, e3]
    exact ⟨fun j hj => by omega, fun n h1 h2 => absurd (hF n h1) h2, fun j j' h1 h2 => by omega, fun j hj _ => by omega, fun j i' hj hi' hp => by omega, fun c hc96 hc1 => by rw [hR0 c hc96] at hc1; omega, fun q => by omega, fun q => absurd h3 q, fun q => by omega, Or.inl rfl, fun q => absurd rfl q⟩
/-- a pair is tried, in the reference's way -/
theorem BI.tryM {T : Nat → Nat → B4} {x0 : B4} (hT : ∀ n, n < 6144 → ∀ i, i < 6 → bOK (T n i) ∧ b123 (T n i)) {m : Nat} {Q far R : Nat → Int} {w : Int} {k i : Nat} (h : BI T x0 m Q far R w k i) (hk : k < m) (hi : i < 6) {p : Nat} (hp : Q k = ((p : Nat) : Int)) {F : B4} (hF : F = T p i) {m' : Nat} {Q' far' R' : Nat → Int} {w' : Int}
    (hR : (F.2.2.2 = 3 ∧ R' = R) ∨ (F.2.2.2 ≠ 3 ∧ R' = fu R F.1.toNat 1))
    (hw : (F.2.2.2 = 2 ∧ w = -1 ∧ w' = far p + 1) ∨ (¬ (F.2.2.2 = 2 ∧ w = -1) ∧ w' = w))
    (hq : (F.2.2.2 = 1 ∧ far (cd F) = -1 ∧ m' = m + 1 ∧ Q' = fu Q m ((cd F : Nat) : Int) ∧ far' = fu far (cd F) (far p + 1)) ∨ (¬ (F.2.2.2 = 1 ∧ far (cd F) = -1) ∧ m' = m ∧ Q' = Q ∧ far' = far)) : BI T x0 m' Q' far' R' w' k (i + 1) := by
  have hAk := h.1 k hk
  have hQk : (Q k).toNat = p := by rw [hp]; rfl
  rw [← hQk] at hF hw hq
  obtain ⟨hok, h3⟩ := hT (Q k).toNat (by omega) i hi
  have hcd := cd_lt hok
  have hseen : (T (Q k).toNat i).2.2.2 ≠ 3 → Seen T x0 (T (Q k).toNat i).1 := fun q => Or.inr ⟨_, _, i, hAk.2.2.2, hi, q, rfl⟩
  subst hF
  by_cases q3 : (T (Q k).toNat i).2.2.2 = 3
  · obtain ⟨_, e0⟩ := hR.resolve_right (fun z => absurd q3 z.1)
    obtain ⟨_, e4⟩ := hw.resolve_left (fun z => absurd z.1 (by omega))
    obtain ⟨_, e1, e2, e3⟩ := hq.resolve_left (fun z => absurd z.1 (by omega))
    rw [e0, e1, e2, e3, e4]
    exact h.pair ⟨fun q => by omega, fun q => absurd q3 q, fun q => by omega⟩
  · obtain ⟨_, e0⟩ := hR.resolve_left (fun z => q3 z.1)
    have hm := h.mark hok.1 (hseen q3)
    rcases hq with ⟨q1, hf, e1, e2, e3⟩ | ⟨hn, e1, e2, e3⟩
    · obtain ⟨_, e4⟩ := hw.resolve_left (fun z => absurd z.1 (by omega))
      rw [e0, e1, e2, e3, e4]
      have hlt := h.lt hcd hf
      have hp := hm.push hk hi q1 hcd hf
      have hQk : fu Q m ((cd (T (Q k).toNat i) : Nat) : Int) k = Q k := fu_n (by omega)
      have hne : ∀ j, j < m → (Q j).toNat ≠ cd (T (Q k).toNat i) := fun j hj e => by have := h.1 j hj; rw [e, hf] at this; omega
      have hfk : fu far (cd (T (Q k).toNat i)) (far (Q k).toNat + 1) (Q k).toNat = far (Q k).toNat := fu_n (hne k hk)
      have hfn : fu far (cd (T (Q k).toNat i)) (far (Q k).toNat + 1) (cd (T (Q k).toNat i)) = far (Q k).toNat + 1 := fu_s
      refine hp.pair ?_
      rw [hQk]
      refine ⟨fun _ => ?_, fun _ => fu_s, fun q => by omega⟩
      rw [hfn, hfk]
      omega
    · rw [e0, e1, e2, e3]
      by_cases q1 : (T (Q k).toNat i).2.2.2 = 1
      · obtain ⟨_, e4⟩ := hw.resolve_left (fun z => absurd z.1 (by omega))
        rw [e4]
        have hf : far (cd (T (Q k).toNat i)) ≠ -1 := fun z => hn ⟨q1, z⟩
        refine hm.pair ⟨fun _ => ⟨hf, ?_⟩, fun _ => fu_s, fun q => by omega⟩
        obtain ⟨j, g1, g2⟩ := h.2.1 _ hcd hf
        have := h.2.2.2.1 j g1 hk
        rw [g2] at this
        exact this
      · have q2 : (T (Q k).toNat i).2.2.2 = 2 := by rcases h3 with z | z | z <;> omega
        rcases hw with ⟨_, e5, e4⟩ | ⟨hw1, e4⟩
        · rw [e4]
          rw [e5] at hm
          have hp := hm.win hk hi q2
          exact hp.pair ⟨fun q => by omega, fun _ => fu_s, fun _ => ⟨by omega, by omega⟩⟩
        · rw [e4]
          have hw9 : w ≠ -1 := fun z => hw1 ⟨q2, z⟩
          have hw := hm.2.2.2.2.2.2.2.2.2.2 hw9 k hk (Nat.le_refl k)
          exact hm.pair ⟨fun q => by omega, fun _ => fu_s, fun _ => ⟨hw9, hw⟩⟩
/-- the bounds of distances -/
def BQ (m : Nat) (Q F : Nat → Int) (w : Int) : Prop := (∀ j, j < m → F (Q j).toNat ≤ (j : Int)) ∧ -1 ≤ w ∧ w ≤ 6145
theorem BQ.far {T : Nat → Nat → B4} {x0 : B4} {m : Nat} {Q F R : Nat → Int} {w w9 : Int} {k i : Nat} (h : BI T x0 m Q F R w k i) (g : BQ m Q F w9) {n : Nat} (hn : n < 6144) : -1 ≤ F n ∧ F n ≤ 6144 := by
  by_cases q : F n = -1
  · omega
  · obtain ⟨j, j1, j2⟩ := h.2.1 n hn q
    have h1 := h.1 j j1
    have h2 := g.1 j j1
    have h3 := h.le
    rw [j2, show ((n : Nat) : Int).toNat = n from rfl] at h1 h2
    omega
theorem BQ.tryM {T : Nat → Nat → B4} {x0 : B4} {m : Nat} {Q far R : Nat → Int} {w : Int} {k i : Nat} (h : BI T x0 m Q far R w k i) (g : BQ m Q far w) (hk : k < m) {p : Nat} (hp : Q k = ((p : Nat) : Int)) {F : B4} {m' : Nat} {Q' far' : Nat → Int} {w' : Int}
    (hw : (F.2.2.2 = 2 ∧ w = -1 ∧ w' = far p + 1) ∨ (¬ (F.2.2.2 = 2 ∧ w = -1) ∧ w' = w))
    (hq : (F.2.2.2 = 1 ∧ far (cd F) = -1 ∧ m' = m + 1 ∧ Q' = fu Q m ((cd F : Nat) : Int) ∧ far' = fu far (cd F) (far p + 1)) ∨ (¬ (F.2.2.2 = 1 ∧ far (cd F) = -1) ∧ m' = m ∧ Q' = Q ∧ far' = far)) : BQ m' Q' far' w' := by
  have hQk : (Q k).toNat = p := by rw [hp]; rfl
  have g1 := g.1 k hk
  have a1 := h.1 k hk
  have a2 := h.le
  have a3 := g.2
  rw [hQk] at g1 a1
  refine ⟨?_, ?_⟩
  · rcases hq with ⟨q1, hf, rfl, rfl, rfl⟩ | ⟨hn, rfl, rfl, rfl⟩
    · intro j hj
      by_cases q : j = m
      · subst q
        have e1 : fu Q j ((cd F : Nat) : Int) j = ((cd F : Nat) : Int) := fu_s
        have e2 : fu far (cd F) (far p + 1) ((cd F : Nat) : Int).toNat = far p + 1 := fu_s
        rw [e1, e2]
        omega
      · have e1 : fu Q m ((cd F : Nat) : Int) j = Q j := fu_n q
        have hne : (Q j).toNat ≠ cd F := fun e => by have := h.1 j (by omega); rw [e, hf] at this; omega
        have e2 : fu far (cd F) (far p + 1) (Q j).toNat = far (Q j).toNat := fu_n hne
        rw [e1, e2]
        exact g.1 j (by omega)
    · exact g.1
  · rcases hw with ⟨_, _, rfl⟩ | ⟨_, rfl⟩
    · omega
    · exact a3
theorem R01 {R : Nat → Int} (h : ∀ j, j < 96 → 0 ≤ R j ∧ R j ≤ 1) (i : Nat) : ∀ j, j < 96 → 0 ≤ fu R i 1 j ∧ fu R i 1 j ≤ 1 := fun j hj => by
  unfold fu; split
  · omega
  · exact h j hj


/-! ===== the search of the class, note by note ===== -/
def NF (num : Int) (N far : Nat → Int) : Prop := ∀ n, n < 6144 → (N n = num ↔ far n ≠ -1)
def b123 (x : B4) : Prop := x.2.2.2 = 1 ∨ x.2.2.2 = 2 ∨ x.2.2.2 = 3
theorem cd_lt {x : B4} (h : bOK x) : cd x < 6144 := pkc_r ⟨h.1, h.2.1⟩ ⟨h.2.2.1, h.2.2.2.1⟩ h.2.2.2.2.1
/-- the start -/
theorem BI.start {T : Nat → Nat → B4} {x0 : B4} (hx : bOK x0) (h3 : b123 x0) {num : Int} {Q N R : Nat → Int} (hN : ∀ j, N j ≠ num) : ∃ far, BI T x0 (nbS num 0 x0 (0, Q, N, rz0 R 96, -1)).1 (nbS num 0 x0 (0, Q, N, rz0 R 96, -1)).2.1 far (nbS num 0 x0 (0, Q, N, rz0 R 96, -1)).2.2.2.1 (nbS num 0 x0 (0, Q, N, rz0 R 96, -1)).2.2.2.2 0 0 ∧ NF num (nbS num 0 x0 (0, Q, N, rz0 R 96, -1)).2.2.1 far ∧ ∀ j, j < (nbS num 0 x0 (0, Q, N, rz0 R 96, -1)).1 → far ((nbS num 0 x0 (0, Q, N, rz0 R 96, -1)).2.1 j).toNat = 0 := by
  have hc := cd_lt hx
  have hR1 : ∀ c : Nat, c < 96 → fu (rz0 R 96) x0.1.toNat 1 c = 1 → (c : Int) = x0.1 := fun c hc h => by
    unfold fu rz0 at h
    by_cases q : c = x0.1.toNat
    · have := hx.1; omega
    · rw [if_neg q, if_pos hc] at h; omega
  have hR0 : ∀ c : Nat, c < 96 → rz0 R 96 c = 1 → False := fun c hc h => by
    unfold rz0 at h; rw [if_pos hc] at h; omega
  unfold nbS
  rcases h3 with h3 | h3 | h3
  · rw [if_neg (by omega), if_pos h3]
    unfold ewS
    rw [if_neg (hN _)]
    unfold enS
    dsimp only
    rw [if_pos (by decide)]
    dsimp only
    refine ⟨fu (fun _ => -1) (cd x0) 0, ⟨fun j hj => ?_, fun n h1 h2 => ?_, fun j j' h1 h2 => ?_, fun j hj _ => ?_, fun j i' hj hi' hp => ?_, fun c hc96 hc1 => Or.inl ⟨by omega, hR1 c hc96 hc1⟩, fun _ => ⟨fu_s, by omega, fu_s⟩, fun _ => fu_s, fun q => ?_, Or.inl rfl, fun q => absurd rfl q⟩, fun n hn => ?_, fun j hj => ?_⟩
    · obtain rfl : j = 0 := by omega
      have e1 : fu Q 0 ((pkc x0.1 x0.2.1 x0.2.2.1 : Nat) : Int) 0 = ((cd x0 : Nat) : Int) := fu_s
      have e2 : fu (fun _ => -1) (cd x0) 0 ((cd x0 : Nat) : Int).toNat = 0 := fu_s
      rw [e1, e2]
      exact ⟨by omega, by omega, by omega, h3, rfl⟩
    · by_cases q : n = cd x0
      · exact ⟨0, by omega, by rw [q]; exact fu_s⟩
      · rw [fu_n q] at h2; exact absurd rfl h2
    · omega
    · obtain rfl : j = 0 := by omega
      omega
    · omega
    · omega
    · by_cases q : n = cd x0
      · rw [q]
        have e1 : fu N (pkc x0.1 x0.2.1 x0.2.2.1) num (cd x0) = num := fu_s
        have e2 : fu (fun _ => -1) (cd x0) 0 (cd x0) = 0 := fu_s
        rw [e1, e2]
        exact ⟨fun _ => by decide, fun _ => rfl⟩
      · have e1 : fu N (pkc x0.1 x0.2.1 x0.2.2.1) num n = N n := fu_n q
        have e2 : fu (fun _ => (-1 : Int)) (cd x0) 0 n = -1 := fu_n q
        rw [e1, e2]
        exact ⟨fun z => absurd z (hN n), fun z => absurd rfl z⟩
    · obtain rfl : j = 0 := by omega
      have e1 : fu Q 0 ((pkc x0.1 x0.2.1 x0.2.2.1 : Nat) : Int) 0 = ((cd x0 : Nat) : Int) := fu_s
      have e2 : fu (fun _ => -1) (cd x0) 0 ((cd x0 : Nat) : Int).toNat = 0 := fu_s
      rw [e1, e2]
  · rw [if_neg (by omega), if_neg (by omega)]
    dsimp only
    rw [if_pos (by decide)]
    refine ⟨fun _ => -1, ⟨fun j hj => by omega, fun n h1 h2 => absurd rfl h2, fun j j' h1 h2 => by omega, fun j hj _ => by omega, fun j i' hj hi' hp => by omega, fun c hc96 hc1 => Or.inl ⟨by omega, hR1 c hc96 hc1⟩, fun q => by omega, fun _ => fu_s, fun _ => rfl, Or.inr ⟨by omega, h3⟩, fun _ j hj => by omega⟩, fun n hn => ⟨fun z => absurd z (hN n), fun z => absurd rfl z⟩, fun j hj => by omega⟩
  · rw [if_pos h3]
    dsimp only
    refine ⟨fun _ => -1, ⟨fun j hj => by omega, fun n h1 h2 => absurd rfl h2, fun j j' h1 h2 => by omega, fun j hj _ => by omega, fun j i' hj hi' hp => by omega, fun c hc96 hc1 => (hR0 c hc96 hc1).elim, fun q => by omega, fun q => absurd h3 q, fun q => by omega, Or.inl rfl, fun q => absurd rfl q⟩, fun n hn => ⟨fun z => absurd z (hN n), fun z => absurd rfl z⟩, fun j hj => by omega⟩
/-- what a note does: the queue grows by codes of the next level -/
def grown (σ σ' : SS) (far far' : Nat → Int) (k : Int) : Prop := σ.1 ≤ σ'.1 ∧ (∀ j, j < σ.1 → σ'.2.1 j = σ.2.1 j ∧ far' (σ.2.1 j).toNat = far (σ.2.1 j).toNat) ∧ ∀ j, σ.1 ≤ j → j < σ'.1 → far' (σ'.2.1 j).toNat = k
theorem grown.rf {σ σ' : SS} {far : Nat → Int} {k : Int} (h1 : σ'.1 = σ.1) (h2 : σ'.2.1 = σ.2.1) : grown σ σ' far far k := ⟨by omega, fun j hj => ⟨by rw [h2], rfl⟩, fun j a b => by omega⟩
theorem grown.tr {σ σ' σ'' : SS} {far far' far'' : Nat → Int} {k : Int} (g : grown σ σ' far far' k) (g' : grown σ' σ'' far' far'' k) : grown σ σ'' far far'' k := by
  obtain ⟨a1, a2, a3⟩ := g
  obtain ⟨b1, b2, b3⟩ := g'
  refine ⟨by omega, fun j hj => ?_, fun j hj hj' => ?_⟩
  · obtain ⟨c1, c2⟩ := a2 j hj
    obtain ⟨d1, d2⟩ := b2 j (by omega)
    rw [c1] at d1 d2
    exact ⟨d1, d2.trans c2⟩
  · rcases Nat.lt_or_ge j σ'.1 with q | q
    · obtain ⟨d1, d2⟩ := b2 j q
      rw [d1, d2]
      exact a3 j hj q
    · exact b3 j q hj'
theorem BI.note {T : Nat → Nat → B4} {x0 : B4} (hT : ∀ n, n < 6144 → ∀ i, i < 6 → bOK (T n i) ∧ b123 (T n i)) {num s : Int} {σ : SS} {far : Nat → Int} {k i : Nat} (h : BI T x0 σ.1 σ.2.1 far σ.2.2.2.1 σ.2.2.2.2 k i) (hNF : NF num σ.2.2.1 far) (hk : k < σ.1) (hi : i < 6) (hs : far (σ.2.1 k).toNat + 1 = s) :
    ∃ far', BI T x0 (nbS num s (T (σ.2.1 k).toNat i) σ).1 (nbS num s (T (σ.2.1 k).toNat i) σ).2.1 far' (nbS num s (T (σ.2.1 k).toNat i) σ).2.2.2.1 (nbS num s (T (σ.2.1 k).toNat i) σ).2.2.2.2 k (i + 1) ∧ NF num (nbS num s (T (σ.2.1 k).toNat i) σ).2.2.1 far' ∧ grown σ (nbS num s (T (σ.2.1 k).toNat i) σ) far far' s := by
  obtain ⟨m, Q, N, R, w⟩ := σ
  dsimp only at h hNF hk hs ⊢
  have hAk := h.1 k hk
  obtain ⟨hok, h3⟩ := hT (Q k).toNat (by omega) i hi
  have hcd := cd_lt hok
  have hseen : (T (Q k).toNat i).2.2.2 ≠ 3 → Seen T x0 (T (Q k).toNat i).1 := fun q => Or.inr ⟨_, _, i, hAk.2.2.2, hi, q, rfl⟩
  unfold nbS
  by_cases q3 : (T (Q k).toNat i).2.2.2 = 3
  · rw [if_pos q3]
    exact ⟨far, h.pair ⟨fun q => by omega, fun q => absurd q3 q, fun q => by omega⟩, hNF, grown.rf rfl rfl⟩
  · rw [if_neg q3]
    have hm := h.mark hok.1 (hseen q3)
    by_cases q1 : (T (Q k).toNat i).2.2.2 = 1
    · rw [if_pos q1]
      unfold ewS
      dsimp only
      by_cases qn : N (cd (T (Q k).toNat i)) = num
      · have qn' : N (pkc (T (Q k).toNat i).1 (T (Q k).toNat i).2.1 (T (Q k).toNat i).2.2.1) = num := qn
        rw [if_pos qn']
        have hf := (hNF _ hcd).mp qn
        refine ⟨far, hm.pair ⟨fun _ => ⟨hf, ?_⟩, fun _ => fu_s, fun q => by omega⟩, hNF, grown.rf rfl rfl⟩
        obtain ⟨j, g1, g2⟩ := h.2.1 _ hcd hf
        have := h.2.2.2.1 j g1 hk
        rw [g2] at this
        exact this
      · have qn' : ¬ N (pkc (T (Q k).toNat i).1 (T (Q k).toNat i).2.1 (T (Q k).toNat i).2.2.1) = num := qn
        rw [if_neg qn']
        have hf : far (cd (T (Q k).toNat i)) = -1 := Classical.byContradiction fun z => qn ((hNF _ hcd).mpr z)
        have hlt := h.lt hcd hf
        unfold enS
        dsimp only
        rw [if_pos hlt]
        dsimp only
        have hp := hm.push hk hi q1 hcd hf
        have hQk : fu Q m ((cd (T (Q k).toNat i) : Nat) : Int) k = Q k := fu_n (by omega)
        have hne : ∀ j, j < m → (Q j).toNat ≠ cd (T (Q k).toNat i) := fun j hj e => by have := h.1 j hj; rw [e, hf] at this; omega
        have hfk : fu far (cd (T (Q k).toNat i)) (far (Q k).toNat + 1) (Q k).toNat = far (Q k).toNat := fu_n (hne k hk)
        have hfn : fu far (cd (T (Q k).toNat i)) (far (Q k).toNat + 1) (cd (T (Q k).toNat i)) = far (Q k).toNat + 1 := fu_s
        refine ⟨_, hp.pair ?_, fun n hn => ?_, by dsimp only; omega, fun j hj => ⟨fu_n (by dsimp only at hj; omega), fu_n (hne j hj)⟩, fun j hj hj' => ?_⟩
        · rw [hQk]
          refine ⟨fun _ => ?_, fun _ => fu_s, fun q => by omega⟩
          rw [hfn, hfk]
          omega
        · by_cases q : n = cd (T (Q k).toNat i)
          · rw [q, hfn]
            have e1 : fu N (pkc (T (Q k).toNat i).1 (T (Q k).toNat i).2.1 (T (Q k).toNat i).2.2.1) num (cd (T (Q k).toNat i)) = num := fu_s
            rw [e1]
            exact ⟨fun _ => by omega, fun _ => rfl⟩
          · have e1 : fu N (pkc (T (Q k).toNat i).1 (T (Q k).toNat i).2.1 (T (Q k).toNat i).2.2.1) num n = N n := fu_n q
            rw [e1, fu_n q]
            exact hNF n hn
        · dsimp only at hj hj'
          obtain rfl : j = m := by omega
          have e1 : fu Q j ((pkc (T (Q k).toNat i).1 (T (Q k).toNat i).2.1 (T (Q k).toNat i).2.2.1 : Nat) : Int) j = ((cd (T (Q k).toNat i) : Nat) : Int) := fu_s
          dsimp only
          rw [e1]
          exact hfn.trans hs
    · rw [if_neg q1]
      dsimp only
      have q2 : (T (Q k).toNat i).2.2.2 = 2 := by rcases h3 with z | z | z <;> omega
      by_cases qw : w < 0
      · rw [if_pos qw]
        have hw : w = -1 := by rcases hm.2.2.2.2.2.2.2.2.2.1 with z | z <;> omega
        rw [hw] at hm
        have hp := hm.win hk hi q2
        rw [hs] at hp
        exact ⟨far, hp.pair ⟨fun q => by omega, fun _ => fu_s, fun _ => ⟨by omega, by omega⟩⟩, hNF, grown.rf rfl rfl⟩
      · rw [if_neg qw]
        have hw := hm.2.2.2.2.2.2.2.2.2.2 (by omega) k hk (Nat.le_refl k)
        exact ⟨far, hm.pair ⟨fun q => by omega, fun _ => fu_s, fun _ => ⟨by omega, hw⟩⟩, hNF, grown.rf rfl rfl⟩
theorem BI.tries {T : Nat → Nat → B4} {x0 : B4} (hT : ∀ n, n < 6144 → ∀ i, i < 6 → bOK (T n i) ∧ b123 (T n i)) {num s : Int} {σ : SS} {far : Nat → Int} {k : Nat} {n : Nat} (T1 : Int → B4) (hT1 : ∀ i : Nat, T1 i = T n i) (hn : σ.2.1 k = n) (h : BI T x0 σ.1 σ.2.1 far σ.2.2.2.1 σ.2.2.2.2 k 0) (hNF : NF num σ.2.2.1 far) (hk : k < σ.1) (hs : far n + 1 = s) :
    ∀ j, j ≤ 6 → ∃ far', BI T x0 (tS T1 num s j σ).1 (tS T1 num s j σ).2.1 far' (tS T1 num s j σ).2.2.2.1 (tS T1 num s j σ).2.2.2.2 k j ∧ NF num (tS T1 num s j σ).2.2.1 far' ∧ grown σ (tS T1 num s j σ) far far' s
  | 0, _ => ⟨far, h, hNF, grown.rf rfl rfl⟩
  | j + 1, hj => by
    obtain ⟨far1, g1, g2, g3⟩ := BI.tries hT T1 hT1 hn h hNF hk hs j (by omega)
    obtain ⟨e1, e2⟩ := g3.2.1 k hk
    rw [hn] at e1 e2
    have e3 : ((tS T1 num s j σ).2.1 k).toNat = n := by rw [e1]; rfl
    have := BI.note hT (num := num) (s := s) (i := j) g1 g2 (Nat.lt_of_lt_of_le hk g3.1) (by omega) (by rw [e3]; rw [show ((n : Nat) : Int).toNat = n from rfl] at e2; omega)
    rw [e3, ← hT1] at this
    obtain ⟨far2, f1, f2, f3⟩ := this
    exact ⟨far2, f1, f2, g3.tr f3⟩

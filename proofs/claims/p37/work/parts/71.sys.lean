/-! ===== the class beside the law's arrays ===== -/
theorem ari {ar : Nat → Nat} (hai : ∀ i j, i < 16 → j < 16 → ar i = ar j → i = j) {i j : Nat} (hi : i < 16) (hj : j < 16) (n : ¬ i = j) : nq (ar i) (ar j) := fun e => n (hai i j hi hj e)
def Sy (D : va_G) (x : Nat) (ar : Nat → Nat) (m : CS) (L W t : Nat) (h : vh) : Prop :=
  ∃ (ad : AD) (c : CS), RepC D ad c L W h ∧ ad 0 0 = x ∧ Cok c L W ∧ Sim c L W m ∧ SB c (21 * (t : Int)) ∧ ∀ j, j < 16 → ∀ k i, lv L W k i → ad k i ≠ ar j
def Kp (ar : Nat → Nat) (h h' : vh) : Prop := ∀ j, j < 16 → ∀ e, h (ar j) = some e → h' (ar j) = some e
theorem Sy.off {D : va_G} {x : Nat} {ar : Nat → Nat} {m : CS} {L W t : Nat} {h : vh} {j : Nat} {e : va_E} (hS : Sy D x ar m L W t h) (hj : j < 16) : Sy D x ar m L W t (hu h (ar j) e) := by
  obtain ⟨ad, c, h1, h2, h3, h4, h5, h6⟩ := hS
  exact ⟨ad, c, ⟨fun k i hl => by rw [hu_n (h6 j hj k i hl)]; exact h1.1 k i hl, h1.2⟩, h2, h3, h4, h5, h6⟩
theorem Sy.le {D : va_G} {x : Nat} {ar : Nat → Nat} {m : CS} {L W t t' : Nat} {h : vh} (hS : Sy D x ar m L W t h) (ht : t ≤ t') : Sy D x ar m L W t' h := by
  obtain ⟨ad, c, h1, h2, h3, h4, h5, h6⟩ := hS
  exact ⟨ad, c, h1, h2, h3, h4, h5.le (by omega), h6⟩
theorem Sy.obj {D : va_G} {x : Nat} {ar : Nat → Nat} {m : CS} {L W t : Nat} {h : vh} (hS : Sy D x ar m L W t h) : ∃ fs, h x = some (eO 7 fs) := by
  obtain ⟨ad, c, h1, rfl, _⟩ := hS
  exact ⟨_, h1.1 0 0 (lv0 (by decide))⟩
theorem Kp.rf {ar : Nat → Nat} {h : vh} : Kp ar h h := fun _ _ _ z => z
theorem Kp.tr {ar : Nat → Nat} {h h1 h2 : vh} (a : Kp ar h h1) (b : Kp ar h1 h2) : Kp ar h h2 := fun j hj e he => b j hj e (a j hj e he)
section SyC
variable {D : va_G} {ad : AD} {c c' : CS} {L W t : Nat} {x : Nat} {ar : Nat → Nat} {m m' : CS} {h h' : vh}
/-- behind a call that keeps the cells' places -/
theorem Sy.cp (hcp : CP D ad L W h c' h') (hx : ad 0 0 = x) (hC : Cok c' L W) (hS : Sim c' L W m') (hB : SB c' (21 * (t : Int))) (hn : ∀ j, j < 16 → ∀ k i, lv L W k i → ad k i ≠ ar j) : Sy D x ar m' L W t h' ∧ Kp ar h h' :=
  ⟨⟨ad, c', hcp.1, hx, hC, hS, hB, hn⟩, fun j hj e he => by rw [hcp.2 (ar j) (by rw [he]; exact fun z => by cases z) (fun k i hl z => hn j hj k i hl z.symm)]; exact he⟩
theorem Sy.gr {ad9 : AD} {L9 W9 : Nat} (hg : Grown ad ad9 L W L9 W9 h) (hcp : CP D ad9 L9 W9 h c' h') (hx : ad 0 0 = x) (hC : Cok c' L9 W9) (hS : Sim c' L9 W9 m') (hB : SB c' (21 * (t : Int))) (hn : ∀ j, j < 16 → ∀ k i, lv L W k i → ad k i ≠ ar j) (hl9 : ∀ j, j < 16 → h (ar j) ≠ none) : Sy D x ar m' L9 W9 t h' ∧ Kp ar h h' := by
  have hn9 : ∀ j, j < 16 → ∀ k i, lv L9 W9 k i → ad9 k i ≠ ar j := fun j hj k i hl z => by
    rcases hg.2 k i hl with q | q
    · exact hn j hj k i q ((hg.1 k i q).symm.trans z)
    · rw [z] at q; exact hl9 j hj q
  exact ⟨⟨ad9, c', hcp.1, (hg.1 0 0 (lv0 (by decide))).trans hx, hC, hS, hB, hn9⟩, fun j hj e he => by rw [hcp.2 (ar j) (by rw [he]; exact fun z => by cases z) (fun k i hl z => hn9 j hj k i hl z.symm)]; exact he⟩
end SyC
/-! the arrays, and how they pack the numbers -/
def AR (D : va_G) (ar : Nat → Nat) (q : Nat → Int) (g : Nat → Int64) (l0 u v n w p r : Nat → Int) (h : vh) : Prop :=
  h (ar 0) = some (eI D 5 q) ∧ h (ar 1) = some (eJ D 60 g) ∧ h (ar 2) = some (eI D 20 l0) ∧ h (ar 3) = some (eI D 60 u) ∧ h (ar 4) = some (eI D 60 v) ∧ h (ar 5) = some (eI D 10 n) ∧ h (ar 6) = some (eI D 25 w) ∧ h (ar 7) = some (eI D 15 p) ∧ h (ar 8) = some (eI D 18 r)
def SC (D : va_G) (ar : Nat → Nat) (h : vh) : Prop :=
  ∃ a b c d e f m : Nat → Int64, h (ar 9) = some (eJ D 64 a) ∧ h (ar 10) = some (eJ D 64 b) ∧ h (ar 11) = some (eJ D 64 c) ∧ h (ar 12) = some (eJ D 64 d) ∧ h (ar 13) = some (eJ D 64 e) ∧ h (ar 14) = some (eJ D 64 f) ∧ h (ar 15) = some (eJ D 2 m)
def PKL (m : CS) (g : Nat → Int64) (l0 u v n : Nat → Int) (i : Nat) : Prop :=
  l0 (4 * i) = m 3 0 i ∧ l0 (4 * i + 1) = m 5 0 i ∧ l0 (4 * i + 2) = m 6 0 i ∧ l0 (4 * i + 3) = m 7 0 i ∧ (∀ z, z < 96 → gk g (6 * i) z = m 4 0 (96 * i + z)) ∧
  n i = m 8 0 i ∧ n (5 + i) = m 11 0 i ∧ n i + n (5 + i) ≤ 12 ∧ (∀ j : Nat, (j : Int) < n i → u (12 * i + j) = 100 * m 9 0 (40 * i + j) + m 10 0 (40 * i + j)) ∧ ∀ j : Nat, (j : Int) < n (5 + i) → v (12 * i + j) = 100 * m 12 0 (40 * i + j) + m 13 0 (40 * i + j)
def PKN (g : Nat → Int64) (n : Nat → Int) (i : Nat) : Prop := n i = 0 ∧ n (5 + i) = 0 ∧ ∀ z, z < 96 → gk g (6 * i) z = 0
def PKW (m : CS) (g : Nat → Int64) (w p : Nat → Int) (i : Nat) : Prop :=
  w (5 * i) = m 15 0 i ∧ w (5 * i + 1) = m 17 0 i ∧ w (5 * i + 2) = m 18 0 i ∧ w (5 * i + 3) = m 19 0 i ∧ w (5 * i + 4) = m 20 0 i ∧ (∀ z, z < 96 → gk g (30 + 6 * i) z = m 16 0 (96 * i + z)) ∧ (∀ x, x < 3 → p (3 * i + x) = m 21 0 (6 * i + x)) ∧ ∀ x, 3 ≤ x → x < 6 → m 21 0 (6 * i + x) = 0
def PKU (p : Nat → Int) (i : Nat) : Prop := ∀ x, x < 3 → p (3 * i + x) = 0
def PKP (m : CS) (r : Nat → Int) (x : Nat) : Prop := r (6 * x) = m 22 0 x ∧ r (6 * x + 1) = m 23 0 x ∧ r (6 * x + 2) = m 24 0 x ∧ r (6 * x + 3) = m 25 0 x ∧ r (6 * x + 4) = m 26 0 x ∧ r (6 * x + 5) = m 27 0 x
def PK (m : CS) (L W : Nat) (q : Nat → Int) (g : Nat → Int64) (l0 u v n w p r : Nat → Int) : Prop :=
  (L ≤ 5 ∧ W ≤ 5 ∧ q 0 = (L : Int) ∧ q 1 = (W : Int)) ∧ (∀ s, s < 3 → q (2 + s) = m 1 0 s) ∧ (∀ i, i < L → PKL m g l0 u v n i) ∧ (∀ i, L ≤ i → i < 5 → PKN g n i) ∧ (∀ i, i < W → PKW m g w p i) ∧ (∀ i, W ≤ i → i < 5 → PKU p i) ∧ ∀ x, x < 3 → PKP m r x
/-- what holds besides: the rows that a reference needs are empty; a body that runs has the keys where it is; its work isn't withdrawn -/
def EX (m : CS) : Prop := m 28 0 = (fun _ => 0) ∧ m 29 0 = (fun _ => 0) ∧ ∀ x, x < 3 → m 22 0 x = 1 → 0 ≤ m 18 0 (m 23 0 x).toNat ∧ (m 26 0 x).toNat ||| kbr (rwM (m 16 0) (96 * (m 23 0 x).toNat)) (fun _ => 0) (m 24 0 x) = (m 26 0 x).toNat
def WD (D : va_G) (x : Nat) (ar : Nat → Nat) (t : Nat) (h : vh) : Prop :=
  ∃ (m : CS) (L W : Nat) (q : Nat → Int) (g : Nat → Int64) (l0 u v n w p r : Nat → Int), Sy D x ar m L W t h ∧ EX m ∧ PK m L W q g l0 u v n w p r ∧ AR D ar q g l0 u v n w p r h ∧ SC D ar h
theorem SC.kp {D : va_G} {ar : Nat → Nat} {h h' : vh} (hS : SC D ar h) (hk : Kp ar h h') : SC D ar h' := by
  obtain ⟨a, b, c, d, e, f, m, h1, h2, h3, h4, h5, h6, h7⟩ := hS
  exact ⟨a, b, c, d, e, f, m, hk 9 (by decide) _ h1, hk 10 (by decide) _ h2, hk 11 (by decide) _ h3, hk 12 (by decide) _ h4, hk 13 (by decide) _ h5, hk 14 (by decide) _ h6, hk 15 (by decide) _ h7⟩
theorem SC.off {D : va_G} {ar : Nat → Nat} (hai : ∀ i j, i < 16 → j < 16 → ar i = ar j → i = j) {h : vh} {j : Nat} {e : va_E} (hS : SC D ar h) (hj : j < 9) : SC D ar (hu h (ar j) e) := by
  obtain ⟨a, b, c, d, e1, f, m, h1, h2, h3, h4, h5, h6, h7⟩ := hS
  refine ⟨a, b, c, d, e1, f, m, ?_, ?_, ?_, ?_, ?_, ?_, ?_⟩
  · rw [hu_n (ari hai (by decide) (by omega) (by omega))]; exact h1
  · rw [hu_n (ari hai (by decide) (by omega) (by omega))]; exact h2
  · rw [hu_n (ari hai (by decide) (by omega) (by omega))]; exact h3
  · rw [hu_n (ari hai (by decide) (by omega) (by omega))]; exact h4
  · rw [hu_n (ari hai (by decide) (by omega) (by omega))]; exact h5
  · rw [hu_n (ari hai (by decide) (by omega) (by omega))]; exact h6
  · rw [hu_n (ari hai (by decide) (by omega) (by omega))]; exact h7
theorem AR.kp {D : va_G} {ar : Nat → Nat} {q : Nat → Int} {g : Nat → Int64} {l0 u v n w p r : Nat → Int} {h h' : vh} (hA : AR D ar q g l0 u v n w p r h) (hk : Kp ar h h') : AR D ar q g l0 u v n w p r h' := by
  obtain ⟨h1, h2, h3, h4, h5, h6, h7, h8, h9⟩ := hA
  exact ⟨hk 0 (by decide) _ h1, hk 1 (by decide) _ h2, hk 2 (by decide) _ h3, hk 3 (by decide) _ h4, hk 4 (by decide) _ h5, hk 5 (by decide) _ h6, hk 6 (by decide) _ h7, hk 7 (by decide) _ h8, hk 8 (by decide) _ h9⟩
theorem AR.live {D : va_G} {ar : Nat → Nat} {q : Nat → Int} {g : Nat → Int64} {l0 u v n w p r : Nat → Int} {h : vh} (hA : AR D ar q g l0 u v n w p r h) (hS : SC D ar h) : ∀ j, j < 16 → h (ar j) ≠ none := fun j hj z => by
  obtain ⟨h1, h2, h3, h4, h5, h6, h7, h8, h9⟩ := hA
  obtain ⟨a, b, c, d, e, f, m, k1, k2, k3, k4, k5, k6, k7⟩ := hS
  rcases (show j = 0 ∨ j = 1 ∨ j = 2 ∨ j = 3 ∨ j = 4 ∨ j = 5 ∨ j = 6 ∨ j = 7 ∨ j = 8 ∨ j = 9 ∨ j = 10 ∨ j = 11 ∨ j = 12 ∨ j = 13 ∨ j = 14 ∨ j = 15 by omega) with rfl | rfl | rfl | rfl | rfl | rfl | rfl | rfl | rfl | rfl | rfl | rfl | rfl | rfl | rfl | rfl
  · rw [h1] at z; cases z
  · rw [h2] at z; cases z
  · rw [h3] at z; cases z
  · rw [h4] at z; cases z
  · rw [h5] at z; cases z
  · rw [h6] at z; cases z
  · rw [h7] at z; cases z
  · rw [h8] at z; cases z
  · rw [h9] at z; cases z
  · rw [k1] at z; cases z
  · rw [k2] at z; cases z
  · rw [k3] at z; cases z
  · rw [k4] at z; cases z
  · rw [k5] at z; cases z
  · rw [k6] at z; cases z
  · rw [k7] at z; cases z
theorem gk_gputW {g : Nat → Int64} {i k z z' kd : Nat} (hk : k < 5) (hz : z < 96) (hz' : z' < 96) (hkd : kd < 16) : gk (gput g (6 * k) z kd) (30 + 6 * i) z' = gk g (30 + 6 * i) z' := by
  rw [show 30 + 6 * i = 6 * (5 + i) by omega, gk_gput hz hz' hkd, if_neg (by omega)]
/-! what the class's state tells of the numbers that the arrays pack -/
section PKs
variable {D : va_G} {x : Nat} {ar : Nat → Nat} {m : CS} {L W t : Nat} {h : vh} {q : Nat → Int} {g : Nat → Int64} {l0 u v n w p r : Nat → Int}
/-- the grid of a level as the law reads it -/
theorem PK.gl (hP : PK m L W q g l0 u v n w p r) {i : Nat} (hi : i < L) : rwM (m 4 0) (96 * i) = gk g (6 * i) := by
  have h1 := (hP.2.2.1 i hi).2.2.2.2.1
  funext z
  unfold rwM
  by_cases q : z < 96
  · rw [if_pos q, h1 z q]
  · rw [if_neg q]; unfold gk; rw [if_neg q]
theorem PK.gw (hP : PK m L W q g l0 u v n w p r) {i : Nat} (hi : i < W) : rwM (m 16 0) (96 * i) = gk g (30 + 6 * i) := by
  have h1 := (hP.2.2.2.2.1 i hi).2.2.2.2.2.1
  funext z
  unfold rwM
  by_cases q : z < 96
  · rw [if_pos q, h1 z q]
  · rw [if_neg q]; unfold gk; rw [if_neg q]
theorem gk_out {o z : Nat} (h : ¬ z < 96) : gk g o z = 0 := if_neg h
theorem lyG_0g {o : Nat} : lyG (gk g o) (fun _ => 0) 96 = gk g o := by
  funext z
  unfold lyG
  by_cases q : z < 96
  · rw [if_pos q]
  · rw [if_neg q, gk_out q]
/-- of a level: what the search wants to know -/
theorem Sy.lev (hS : Sy D x ar m L W t h) (hP : PK m L W q g l0 u v n w p r) {i : Nat} (hi : i < L) : lyA (gk g (6 * i)) 96 ≤ 7 ∧ (∀ z, 0 ≤ gk g (6 * i) z ∧ gk g (6 * i) z ≤ 8) ∧ (0 ≤ l0 (4 * i + 1) ∧ l0 (4 * i + 1) ≤ 95) ∧ (-2 ≤ l0 (4 * i + 2) ∧ l0 (4 * i + 2) ≤ 7000) ∧ (0 ≤ l0 (4 * i) ∧ l0 (4 * i) ≤ 5) := by
  obtain ⟨ad, c, hR, hx, hC, hs, hB, hn⟩ := hS
  have hi2 : (i : Int) < m 0 0 2 := by have := hs.1.1; omega
  have h1 := hs.ke i hi2
  have h2 := hs.g4 hC i
  have h3 := hs.bg hC i hi2
  have h4 := hs.pf hC i hi2
  have hk := hP.2.2.1 i hi
  have h5 := (hs.2.2.1 i hi).1.1
  have h6 := (hC.2.2.1 i hi).2.1.1
  rw [hP.gl hi] at h1
  refine ⟨h1, fun z => ?_, by rw [hk.2.1]; exact h3, by rw [hk.2.2.1]; exact h4, by rw [hk.1, h5]; exact h6⟩
  by_cases q : z < 96
  · rw [hk.2.2.2.2.1 z q]; exact h2 z hi2 q
  · rw [gk_out q]; decide
theorem Sy.wrk (hS : Sy D x ar m L W t h) (hP : PK m L W q g l0 u v n w p r) {i : Nat} (hi : i < W) : lyA (gk g (30 + 6 * i)) 96 ≤ 7 ∧ (∀ z, 0 ≤ gk g (30 + 6 * i) z ∧ gk g (30 + 6 * i) z ≤ 8) ∧ (0 ≤ w (5 * i + 1) ∧ w (5 * i + 1) ≤ 95) ∧ (-1 ≤ w (5 * i + 2) ∧ w (5 * i + 2) ≤ 7000) ∧ (0 ≤ w (5 * i) ∧ w (5 * i) ≤ 5) ∧ (-1 ≤ w (5 * i + 3) ∧ w (5 * i + 3) < (i : Int)) ∧ (-1 ≤ w (5 * i + 4) ∧ w (5 * i + 4) ≤ 300) := by
  obtain ⟨ad, c, hR, hx, hC, hs, hB, hn⟩ := hS
  have hi2 : (i : Int) < m 0 0 14 := by have := hs.1.2; omega
  have h1 := hs.kw i hi2
  have h2 := hs.g16 hC i
  have h3 := hs.fr hC i hi2
  have h4 := hs.bst hC i hi2
  have h5 := hs.au hC i hi2
  have h6 := hs.pa hC i hi2
  have h7 := hs.rec hC i hi2
  have hk := hP.2.2.2.2.1 i hi
  rw [hP.gw hi] at h1
  refine ⟨h1, fun z => ?_, by rw [hk.2.1]; exact h3, by rw [hk.2.2.1]; exact h4, by rw [hk.1]; exact h5, by rw [hk.2.2.2.1]; exact h6, by rw [hk.2.2.2.2.1]; exact h7⟩
  by_cases q : z < 96
  · rw [hk.2.2.2.2.2.1 z q]; exact h2 z hi2 q
  · rw [gk_out q]; decide
theorem Sy.str (hS : Sy D x ar m L W t h) : (∀ j, 0 ≤ m 1 0 j ∧ m 1 0 j ≤ 4) ∧ m 0 0 2 = (L : Int) ∧ m 0 0 14 = (W : Int) := by
  obtain ⟨ad, c, hR, hx, hC, hs, hB, hn⟩ := hS
  exact ⟨hs.ss hC, hs.1.1, hs.1.2⟩
theorem PK.qs (hP : PK m L W q g l0 u v n w p r) : ∀ j : Nat, j < 3 → m 1 0 j = q (j + 2) := fun j hj => by rw [Nat.add_comm, hP.2.1 j hj]
/-- of a person's run -/
theorem Sy.run (hS : Sy D x ar m L W t h) (hP : PK m L W q g l0 u v n w p r) {y : Nat} (hy : y < 3) : (0 ≤ r (6 * y) ∧ r (6 * y) ≤ 4) ∧ (0 ≤ r (6 * y + 1) ∧ r (6 * y + 1) < 20 ∧ (r (6 * y) = 1 → r (6 * y + 1) < (W : Int))) ∧ (0 ≤ r (6 * y + 2) ∧ r (6 * y + 2) ≤ 95) ∧ (-4 ≤ r (6 * y + 3) ∧ r (6 * y + 3) ≤ 3) ∧ (0 ≤ r (6 * y + 4) ∧ r (6 * y + 4) < 8) ∧ (0 ≤ r (6 * y + 5) ∧ r (6 * y + 5) ≤ 200) := by
  obtain ⟨ad, c, hR, hx, hC, hs, hB, hn⟩ := hS
  have h1 := hs.rn hC y (by omega)
  have h2 := (hs.2.2.2.2.1 y (by omega)).2.2.2.2.1
  have h3 := hs.1.2
  obtain ⟨k1, k2, k3, k4, k5, k6⟩ := hP.2.2.2.2.2.2 y hy
  rw [k1, k2, k3, k4, k5, k6]
  refine ⟨h1.1, ⟨h2.1, h2.2, fun z => ?_⟩, h1.2.2.1, h1.2.2.2.1, h1.2.2.2.2.1, h1.2.1⟩
  have := h1.2.2.2.2.2 z
  omega
/-- of the edits that are remembered -/
theorem Sy.eds (hS : Sy D x ar m L W t h) (hP : PK m L W q g l0 u v n w p r) {i : Nat} (hi : i < L) : (0 ≤ n i ∧ 0 ≤ n (5 + i) ∧ n i + n (5 + i) ≤ 12) ∧ (∀ j : Nat, (j : Int) < n i → (0 ≤ m 9 0 (40 * i + j) ∧ m 9 0 (40 * i + j) ≤ 95) ∧ (0 ≤ m 10 0 (40 * i + j) ∧ m 10 0 (40 * i + j) ≤ 88) ∧ u (12 * i + j) = 100 * m 9 0 (40 * i + j) + m 10 0 (40 * i + j)) ∧ ∀ j : Nat, (j : Int) < n (5 + i) → (0 ≤ m 12 0 (40 * i + j) ∧ m 12 0 (40 * i + j) ≤ 95) ∧ (0 ≤ m 13 0 (40 * i + j) ∧ m 13 0 (40 * i + j) ≤ 88) ∧ v (12 * i + j) = 100 * m 12 0 (40 * i + j) + m 13 0 (40 * i + j) := by
  obtain ⟨ad, c, hR, hx, hC, hs, hB, hn⟩ := hS
  have hi2 : (i : Int) < m 0 0 2 := by have := hs.1.1; omega
  have h1 := hs.un hC i hi2
  obtain ⟨k1, k2, k3, k4, k5, k6, k7, k8, k9, k10⟩ := hP.2.2.1 i hi
  refine ⟨⟨by omega, by omega, k8⟩, fun j hj => ?_, fun j hj => ?_⟩
  · have h2 := hs.uc hC i j hi2 (by omega)
    exact ⟨h2.1, h2.2, k9 j hj⟩
  · have h2 := hs.rc hC i j hi2 (by omega)
    exact ⟨h2.1, h2.2, k10 j hj⟩
end PKs

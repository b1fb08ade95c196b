/-! ===== the keys of a grid under the class's names and under the reference's ===== -/
def GW (f q : Nat → Int) (a : Int) : Prop :=
  (∀ s, s < 3 → q s = -1 ∨ (0 ≤ q s ∧ q s < 96 ∧ f (q s).toNat = 2)) ∧
  (∀ z : Nat, z < 96 → f z = 2 → q 0 = z ∨ q 1 = z ∨ q 2 = z) ∧
  ((q 0 ≠ -1 → q 0 ≠ q 1 ∧ q 0 ≠ q 2) ∧ (q 1 ≠ -1 → q 1 ≠ q 2)) ∧
  a = (if q 0 = -1 then 0 else 1) + (if q 1 = -1 then 0 else 2) + (if q 2 = -1 then 0 else 4)
def u1 (x n : Int) : Nat := if x ≠ -1 ∧ x < n then 1 else 0
theorem u1_s {x n : Int} (h : x ≠ n) : u1 x (n + 1) = u1 x n := by unfold u1; split <;> split <;> omega
theorem u1_e {x n : Int} (h : x = n) (h0 : 0 ≤ n) : u1 x (n + 1) = u1 x n + 1 := by unfold u1; split <;> split <;> omega
theorem cnK_u {f q : Nat → Int} {a : Int} (h : GW f q a) : ∀ n : Nat, n ≤ 96 → cnK f n = u1 (q 0) n + u1 (q 1) n + u1 (q 2) n
  | 0, _ => by
    obtain ⟨h1, _⟩ := h
    have e0 := h1 0 (by decide)
    have e1 := h1 1 (by decide)
    have e2 := h1 2 (by decide)
    unfold u1
    rw [if_neg (by omega), if_neg (by omega), if_neg (by omega)]
    rfl
  | n + 1, hn => by
    have ih := cnK_u h n (by omega)
    obtain ⟨h1, h2, h3, _⟩ := h
    have hc : ((n + 1 : Nat) : Int) = (n : Int) + 1 := by omega
    rw [hc]
    by_cases hk : f n = 2
    · rw [cnK_t hk, ih]
      rcases h2 n (by omega) hk with e | e | e
      · rw [u1_e e (by omega), u1_s (x := q 1) (by omega), u1_s (x := q 2) (by omega)]; omega
      · rw [u1_e e (by omega), u1_s (x := q 0) (by omega), u1_s (x := q 2) (by omega)]; omega
      · rw [u1_e e (by omega), u1_s (x := q 0) (by omega), u1_s (x := q 1) (by omega)]; omega
    · rw [cnK_f hk, ih]
      have hq : ∀ s, s < 3 → q s ≠ n := fun s hs e => by
        rcases h1 s hs with z | ⟨z1, z2, z3⟩
        · omega
        · rw [e] at z3; exact hk z3
      rw [u1_s (hq 0 (by decide)), u1_s (hq 1 (by decide)), u1_s (hq 2 (by decide))]
theorem cnK_m {f : Nat → Int} : ∀ {n k : Nat}, n ≤ k → cnK f n ≤ cnK f k := by
  intro n k h
  induction k with
  | zero => have : n = 0 := by omega
            subst this; exact Nat.le_refl _
  | succ k ih =>
    by_cases q : n = k + 1
    · subst q; exact Nat.le_refl _
    · have h1 := ih (by omega)
      show _ ≤ cnK f k + _
      omega
theorem cnK_lt {f : Nat → Int} {n k : Nat} (h : f n = 2) (hk : n < k) : cnK f n < cnK f k := by
  have h1 := cnK_t h
  have h2 := cnK_m (f := f) (show n + 1 ≤ k by omega)
  omega
theorem lyA_k (f : Nat → Int) : ∀ n, lyA f n + 1 = 2 ^ cnK f n
  | 0 => rfl
  | n + 1 => by
    have ih := lyA_k f n
    have e : lyA f (n + 1) = lyA f n + (if f n = 2 then lyA f n + 1 else 0) := rfl
    rw [e]
    by_cases q : f n = 2
    · rw [if_pos q, cnK_t q, Nat.pow_succ]; omega
    · rw [if_neg q, cnK_f q]; omega
theorem cnK_3 {f q : Nat → Int} {a : Int} (h : GW f q a) : cnK f 96 ≤ 3 := by
  rw [cnK_u h 96 (Nat.le_refl _)]
  unfold u1
  split <;> split <;> split <;> omega
theorem lyA_7 {f q : Nat → Int} {a : Int} (h : GW f q a) : lyA f 96 ≤ 7 := by
  have h1 := lyA_k f 96
  have h2 := cnK_3 h
  rcases (show cnK f 96 = 0 ∨ cnK f 96 = 1 ∨ cnK f 96 = 2 ∨ cnK f 96 = 3 by omega) with e | e | e | e <;> rw [e] at h1 <;> omega
/-- the bit that the reference has for the class's bit s -/
def bS (f q : Nat → Int) (s : Nat) : Nat := if q s = -1 then 0 else 2 ^ cnK f (q s).toNat
def piT (b0 b1 b2 t : Nat) : Nat := (if t % 2 = 1 then b0 else 0) ||| (if t / 2 % 2 = 1 then b1 else 0) ||| (if t / 4 % 2 = 1 then b2 else 0)
def bT (u e : Nat) : Nat := if u = 0 then 0 else 2 ^ e
def allB : Nat → (Nat → Bool) → Bool
  | 0, _ => true
  | n + 1, p => p n && allB n p
theorem allB_t : ∀ {n : Nat} {p : Nat → Bool}, allB n p = true → ∀ i, i < n → p i = true
  | 0, _, _, i, hi => absurd hi (Nat.not_lt_zero _)
  | n + 1, p, h, i, hi => by
    have h2 : p n = true ∧ allB n p = true := by
      have e : (p n && allB n p) = true := h
      exact (Bool.and_eq_true _ _).mp e
    by_cases q : i = n
    · rw [q]; exact h2.1
    · exact allB_t h2.2 i (by omega)
def pfP (u0 u1 u2 e0 e1 e2 t : Nat) : Prop :=
    ((u0 = 1 → e0 < u0 + u1 + u2) ∧ (u1 = 1 → e1 < u0 + u1 + u2) ∧ (u2 = 1 → e2 < u0 + u1 + u2) ∧ (u0 = 1 → u1 = 1 → e0 ≠ e1) ∧ (u0 = 1 → u2 = 1 → e0 ≠ e2) ∧ (u1 = 1 → u2 = 1 → e1 ≠ e2) ∧ t &&& (u0 + 2 * u1 + 4 * u2) = t) →
    (t = u0 + 2 * u1 + 4 * u2 ↔ piT (bT u0 e0) (bT u1 e1) (bT u2 e2) t + 1 = 2 ^ (u0 + u1 + u2)) ∧ piT (bT u0 e0) (bT u1 e1) (bT u2 e2) t < 8 ∧ pc3 (piT (bT u0 e0) (bT u1 e1) (bT u2 e2) t) = pc3 t ∧
    (u0 = 1 → piT (bT u0 e0) (bT u1 e1) (bT u2 e2) (t ||| 1) = piT (bT u0 e0) (bT u1 e1) (bT u2 e2) t ||| 2 ^ e0 ∧ (t ||| 1) &&& (u0 + 2 * u1 + 4 * u2) = t ||| 1) ∧
    (u1 = 1 → piT (bT u0 e0) (bT u1 e1) (bT u2 e2) (t ||| 2) = piT (bT u0 e0) (bT u1 e1) (bT u2 e2) t ||| 2 ^ e1 ∧ (t ||| 2) &&& (u0 + 2 * u1 + 4 * u2) = t ||| 2) ∧
    (u2 = 1 → piT (bT u0 e0) (bT u1 e1) (bT u2 e2) (t ||| 4) = piT (bT u0 e0) (bT u1 e1) (bT u2 e2) t ||| 2 ^ e2 ∧ (t ||| 4) &&& (u0 + 2 * u1 + 4 * u2) = t ||| 4)
def pfB (u0 u1 u2 e0 e1 e2 t : Nat) : Bool :=
  !(decide ((u0 = 1 → e0 < u0 + u1 + u2) ∧ (u1 = 1 → e1 < u0 + u1 + u2) ∧ (u2 = 1 → e2 < u0 + u1 + u2)) && decide ((u0 = 1 → u1 = 1 → e0 ≠ e1) ∧ (u0 = 1 → u2 = 1 → e0 ≠ e2) ∧ (u1 = 1 → u2 = 1 → e1 ≠ e2)) && decide (t &&& (u0 + 2 * u1 + 4 * u2) = t)) ||
  (decide (t = u0 + 2 * u1 + 4 * u2 ↔ piT (bT u0 e0) (bT u1 e1) (bT u2 e2) t + 1 = 2 ^ (u0 + u1 + u2)) && decide (piT (bT u0 e0) (bT u1 e1) (bT u2 e2) t < 8) && decide (pc3 (piT (bT u0 e0) (bT u1 e1) (bT u2 e2) t) = pc3 t) &&
   decide (u0 = 1 → piT (bT u0 e0) (bT u1 e1) (bT u2 e2) (t ||| 1) = piT (bT u0 e0) (bT u1 e1) (bT u2 e2) t ||| 2 ^ e0 ∧ (t ||| 1) &&& (u0 + 2 * u1 + 4 * u2) = t ||| 1) &&
   decide (u1 = 1 → piT (bT u0 e0) (bT u1 e1) (bT u2 e2) (t ||| 2) = piT (bT u0 e0) (bT u1 e1) (bT u2 e2) t ||| 2 ^ e1 ∧ (t ||| 2) &&& (u0 + 2 * u1 + 4 * u2) = t ||| 2) &&
   decide (u2 = 1 → piT (bT u0 e0) (bT u1 e1) (bT u2 e2) (t ||| 4) = piT (bT u0 e0) (bT u1 e1) (bT u2 e2) t ||| 2 ^ e2 ∧ (t ||| 4) &&& (u0 + 2 * u1 + 4 * u2) = t ||| 4))
theorem pf_of {u0 u1 u2 e0 e1 e2 t : Nat} (h : pfB u0 u1 u2 e0 e1 e2 t = true) : pfP u0 u1 u2 e0 e1 e2 t := by
  unfold pfP
  intro ⟨c1, c2, c3, c4, c5, c6, c7⟩
  unfold pfB at h
  rw [decide_eq_true (⟨c1, c2, c3⟩ : _ ∧ _ ∧ _), decide_eq_true (⟨c4, c5, c6⟩ : _ ∧ _ ∧ _), decide_eq_true c7] at h
  simp only [Bool.and_true, Bool.not_true, Bool.false_or, Bool.and_eq_true, decide_eq_true_eq] at h
  obtain ⟨⟨⟨⟨⟨h1, h2⟩, h3⟩, h4⟩, h5⟩, h6⟩ := h
  exact ⟨h1, h2, h3, h4, h5, h6⟩
theorem pf_all : allB 2 (fun u0 => allB 2 fun u1 => allB 2 fun u2 => allB 3 fun e0 => allB 3 fun e1 => allB 3 fun e2 => allB 8 fun t => pfB u0 u1 u2 e0 e1 e2 t) = true := by decide +kernel
theorem pi_fin : ∀ u0, u0 < 2 → ∀ u1, u1 < 2 → ∀ u2, u2 < 2 → ∀ e0, e0 < 3 → ∀ e1, e1 < 3 → ∀ e2, e2 < 3 → ∀ t, t < 8 → pfP u0 u1 u2 e0 e1 e2 t :=
  fun u0 h0 u1 h1 u2 h2 e0 g0 e1 g1 e2 g2 t ht => pf_of (allB_t (allB_t (allB_t (allB_t (allB_t (allB_t (allB_t pf_all u0 h0) u1 h1) u2 h2) e0 g0) e1 g1) e2 g2) t ht)
/-- the keys t that the class notes are the keys t' that the reference notes -/
def EK (f q : Nat → Int) (a : Nat) (t t' : Nat) : Prop := t < 8 ∧ t &&& a = t ∧ t' = piT (bS f q 0) (bS f q 1) (bS f q 2) t
def uS (q : Nat → Int) (s : Nat) : Nat := if q s = -1 then 0 else 1
def eS (f q : Nat → Int) (s : Nat) : Nat := if q s = -1 then 0 else cnK f (q s).toNat
theorem bS_e (f q : Nat → Int) (s : Nat) : bS f q s = bT (uS q s) (eS f q s) := by
  unfold bS bT uS eS
  by_cases h : q s = -1
  · rw [if_pos h, if_pos h, if_pos h]; rfl
  · rw [if_neg h, if_neg h, if_neg h]; rfl
theorem uS_r (q : Nat → Int) (s : Nat) : (q s = -1 ∧ uS q s = 0) ∨ (q s ≠ -1 ∧ uS q s = 1) := by
  by_cases h : q s = -1
  · exact Or.inl ⟨h, if_pos h⟩
  · exact Or.inr ⟨h, if_neg h⟩
theorem GW.n {f q : Nat → Int} {a : Int} (h : GW f q a) : cnK f 96 = uS q 0 + uS q 1 + uS q 2 ∧ a = ((uS q 0 + 2 * uS q 1 + 4 * uS q 2 : Nat) : Int) := by
  have h1 := cnK_u h 96 (Nat.le_refl _)
  obtain ⟨g1, _, _, g4⟩ := h
  have hu : ∀ s, s < 3 → u1 (q s) ((96 : Nat) : Int) = uS q s := fun s hs => by
    have := g1 s hs
    unfold u1 uS
    split <;> split <;> omega
  rw [hu 0 (by decide), hu 1 (by decide), hu 2 (by decide)] at h1
  refine ⟨h1, ?_⟩
  rw [g4]
  unfold uS
  split <;> split <;> split <;> rfl
theorem GW.fin {f q : Nat → Int} {a : Int} (h : GW f q a) {t : Nat} (ht : t < 8) (hta : t &&& a.toNat = t) :
    (t = a.toNat ↔ piT (bS f q 0) (bS f q 1) (bS f q 2) t = lyA f 96) ∧ piT (bS f q 0) (bS f q 1) (bS f q 2) t < 8 ∧ pc3 (piT (bS f q 0) (bS f q 1) (bS f q 2) t) = pc3 t ∧
    ∀ s, s < 3 → q s ≠ -1 → piT (bS f q 0) (bS f q 1) (bS f q 2) (t ||| 2 ^ s) = piT (bS f q 0) (bS f q 1) (bS f q 2) t ||| 2 ^ cnK f (q s).toNat ∧ (t ||| 2 ^ s) &&& a.toNat = t ||| 2 ^ s := by
  obtain ⟨hn, ha⟩ := h.n
  have h3 := cnK_3 h
  obtain ⟨g1, g2, g3, _⟩ := id h
  have r0 := uS_r q 0
  have r1 := uS_r q 1
  have r2 := uS_r q 2
  have he : ∀ s, s < 3 → eS f q s < 3 ∧ (uS q s = 1 → eS f q s < cnK f 96) := fun s hs => by
    have r := uS_r q s
    unfold eS
    rcases g1 s hs with z | ⟨z1, z2, z3⟩
    · rw [if_pos z]; exact ⟨by decide, fun y => by omega⟩
    · rw [if_neg (by omega)]
      have := cnK_lt z3 (show (q s).toNat < 96 by omega)
      exact ⟨by omega, fun _ => this⟩
  have hne : ∀ s s', s < 3 → s' < 3 → q s ≠ -1 → q s' ≠ -1 → q s ≠ q s' → eS f q s ≠ eS f q s' := fun s s' hs hs' y y' yn => by
    unfold eS
    rw [if_neg y, if_neg y']
    rcases g1 s hs with z | ⟨z1, z2, z3⟩
    · exact absurd z y
    rcases g1 s' hs' with w | ⟨w1, w2, w3⟩
    · exact absurd w y'
    rcases Nat.lt_trichotomy (q s).toNat (q s').toNat with x | x | x
    · have := cnK_lt z3 x; omega
    · omega
    · have := cnK_lt w3 x; omega
  have haN : a.toNat = uS q 0 + 2 * uS q 1 + 4 * uS q 2 := by rw [ha]; rfl
  have e0 := he 0 (by decide)
  have e1 := he 1 (by decide)
  have e2 := he 2 (by decide)
  have P := pi_fin (uS q 0) (by omega) (uS q 1) (by omega) (uS q 2) (by omega) (eS f q 0) e0.1 (eS f q 1) e1.1 (eS f q 2) e2.1 t ht
    ⟨fun y => by rw [← hn]; exact e0.2 y, fun y => by rw [← hn]; exact e1.2 y, fun y => by rw [← hn]; exact e2.2 y,
     fun y y' => hne 0 1 (by decide) (by decide) (by omega) (by omega) (g3.1 (by omega)).1, fun y y' => hne 0 2 (by decide) (by decide) (by omega) (by omega) (g3.1 (by omega)).2, fun y y' => hne 1 2 (by decide) (by decide) (by omega) (by omega) (g3.2 (by omega)), by rw [← haN]; exact hta⟩
  rw [← bS_e, ← bS_e, ← bS_e, ← haN, ← hn] at P
  obtain ⟨p1, p2, p3, p4, p5, p6⟩ := P
  have hk := lyA_k f 96
  refine ⟨p1.trans ⟨fun y => by omega, fun y => by omega⟩, p2, p3, fun s hs y => ?_⟩
  have r := uS_r q s
  have hes : eS f q s = cnK f (q s).toNat := if_neg y
  rcases (show s = 0 ∨ s = 1 ∨ s = 2 by omega) with rfl | rfl | rfl
  · have := p4 (by omega); rw [hes] at this; exact this
  · have := p5 (by omega); rw [hes] at this; exact this
  · have := p6 (by omega); rw [hes] at this; exact this
theorem EK.z {f q : Nat → Int} {a : Nat} : EK f q a 0 0 := ⟨by decide, Nat.zero_and _, by simp [piT]⟩
theorem EK.all {f q : Nat → Int} {a : Int} (h : GW f q a) {t t' : Nat} (e : EK f q a.toNat t t') : t = a.toNat ↔ t' = lyA f 96 := by
  obtain ⟨e1, e2, rfl⟩ := e
  exact (h.fin e1 e2).1
theorem EK.lt {f q : Nat → Int} {a : Int} (h : GW f q a) {t t' : Nat} (e : EK f q a.toNat t t') : t < 8 ∧ t' < 8 := by
  obtain ⟨e1, e2, rfl⟩ := e
  exact ⟨e1, (h.fin e1 e2).2.1⟩
theorem EK.pc {f q : Nat → Int} {a : Int} (h : GW f q a) {t t' : Nat} (e : EK f q a.toNat t t') : pc3 t' = pc3 t := by
  obtain ⟨e1, e2, rfl⟩ := e
  exact (h.fin e1 e2).2.2.1
/-- the reference's bit of a cell -/
theorem kbr_e {src b : Nat → Int} {p : Int} (h0 : 0 ≤ p) (h1 : p < 96) : kbr src b p = if src p.toNat = 2 then 2 ^ cnK src p.toNat else 0 := by
  have hk := lyA_k src p.toNat
  unfold kbr lyB
  rw [if_pos (by omega)]
  by_cases h : src p.toNat = 2
  · rw [if_pos h, if_pos h, hk]; rfl
  · rw [if_neg h, if_neg h]; rfl
theorem cnK_c {f g : Nat → Int} : ∀ {n : Nat}, (∀ z, z < n → f z = g z) → cnK f n = cnK g n
  | 0, _ => rfl
  | n + 1, h => by
    have ih := cnK_c (n := n) (fun z hz => h z (by omega))
    by_cases q : f n = 2
    · rw [cnK_t q, cnK_t (by rw [← h n (by omega)]; exact q), ih]
    · rw [cnK_f q, cnK_f (by rw [← h n (by omega)]; exact q), ih]
theorem lyA_c {f g : Nat → Int} {n : Nat} (h : ∀ z, z < n → f z = g z) : lyA f n = lyA g n := by
  have h1 := lyA_k f n
  have h2 := lyA_k g n
  rw [cnK_c h] at h1
  omega
theorem EK.or {f q src b : Nat → Int} {a : Int} (h : GW f q a) (hs : ∀ z, z < 96 → f z = src z) {t t' : Nat} (e : EK f q a.toNat t t') {p : Int} (h0 : 0 ≤ p) (h1 : p < 96) : EK f q a.toNat (t ||| kbf f q p) (t' ||| kbr src b p) := by
  have hp : p.toNat < 96 := by omega
  rw [kbr_e h0 h1, ← hs _ hp, ← cnK_c (f := f) (g := src) (n := p.toNat) (fun z hz => hs z (by omega))]
  unfold kbf
  by_cases hk : f p.toNat = 2
  · rw [if_pos hk, if_pos hk]
    obtain ⟨e1, e2, rfl⟩ := e
    obtain ⟨_, _, _, h4⟩ := h.fin e1 e2
    obtain ⟨g1, g2, g3, _⟩ := id h
    have hc : ((p.toNat : Nat) : Int) = p := by omega
    have h2 := g2 p.toNat hp hk
    rw [hc] at h2
    have fin : ∀ s, s < 3 → q s = p → kb3 q p = 2 ^ s → EK f q a.toNat (t ||| kb3 q p) (piT (bS f q 0) (bS f q 1) (bS f q 2) t ||| 2 ^ cnK f p.toNat) := fun s hs hq hb => by
      have h5 := h4 s hs (by omega)
      rw [hb]
      rw [hq] at h5
      exact ⟨or8 e1 (by rcases (show s = 0 ∨ s = 1 ∨ s = 2 by omega) with rfl | rfl | rfl <;> decide), h5.2, h5.1.symm⟩
    unfold kb3 at fin ⊢
    rcases h2 with z | z | z
    · exact fin 0 (by decide) z (by rw [if_pos z])
    · have n0 : ¬ q 0 = p := fun y => by have := g3.1 (by omega); omega
      exact fin 1 (by decide) z (by rw [if_neg n0, if_pos z])
    · have n0 : ¬ q 0 = p := fun y => by have := g3.1 (by omega); omega
      have n1 : ¬ q 1 = p := fun y => by have := g3.2 (by omega); omega
      exact fin 2 (by decide) z (by rw [if_neg n0, if_neg n1, if_pos z])
  · rw [if_neg hk, if_neg hk]
    rw [Nat.or_zero, Nat.or_zero]
    exact e


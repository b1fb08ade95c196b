/-! ===== sets of bodies as words of bits ===== -/
theorem uL_s {f : Nat → Int64} {k : Nat} {x : Int64} : vp_updL f k x k = x := if_pos rfl
theorem uL_n {f : Nat → Int64} {k j : Nat} {x : Int64} (h : j ≠ k) : vp_updL f k x j = f j := if_neg h
def Mk (lo hi : Nat → Int64) (n : Nat) : Prop := (if n / 64 < 48 then lb (lo (n % 64)) (n / 64) else lb (hi (n % 64)) (n / 64 - 48)) = true
/-- no bit beyond the 48 cells of a word -/
def Cl (lo hi : Nat → Int64) : Prop := ∀ j, j < 64 → ∀ i, 48 ≤ i → lb (lo j) i = false ∧ lb (hi j) i = false
def mkL (lo : Nat → Int64) (n : Nat) : Nat → Int64 := vp_updL lo (n % 64) (lo (n % 64) ||| (if n / 64 < 48 then lsl 1 ((n / 64 : Nat) : Int) else 0))
def mkH (hi : Nat → Int64) (n : Nat) : Nat → Int64 := vp_updL hi (n % 64) (hi (n % 64) ||| (if n / 64 < 48 then 0 else lsl 1 ((n / 64 - 48 : Nat) : Int)))
theorem lb_or0 {x : Int64} {i : Nat} : lb (x ||| 0) i = lb x i := by rw [lb_or, lb_0, Bool.or_false]
theorem Mk_mk {lo hi : Nat → Int64} {n n' : Nat} (hn : n < 6144) (hn' : n' < 6144) : Mk (mkL lo n) (mkH hi n) n' ↔ Mk lo hi n' ∨ n' = n := by
  unfold Mk mkL mkH
  by_cases q : n' % 64 = n % 64
  · rw [q, uL_s, uL_s]
    by_cases a : n / 64 < 48
    · rw [if_pos a, if_pos a]
      by_cases b : n' / 64 < 48
      · rw [if_pos b, if_pos b, lb_set (by omega)]
        constructor
        · rintro (h | h)
          · exact Or.inl h
          · exact Or.inr (by omega)
        · rintro (h | h)
          · exact Or.inl h
          · exact Or.inr (by omega)
      · rw [if_neg b, if_neg b, lb_or0]
        exact ⟨Or.inl, fun h => h.elim id (fun h => (by exfalso; omega))⟩
    · rw [if_neg a, if_neg a]
      by_cases b : n' / 64 < 48
      · rw [if_pos b, if_pos b, lb_or0]
        exact ⟨Or.inl, fun h => h.elim id (fun h => (by exfalso; omega))⟩
      · rw [if_neg b, if_neg b, lb_set (by omega)]
        constructor
        · rintro (h | h)
          · exact Or.inl h
          · exact Or.inr (by omega)
        · rintro (h | h)
          · exact Or.inl h
          · exact Or.inr (by omega)
  · rw [uL_n q, uL_n q]
    exact ⟨Or.inl, fun h => h.elim id (fun h => (by exfalso; omega))⟩
theorem lb_bit0 {k i : Nat} (hk : k < 64) (h : i ≠ k) : lb (lsl 1 (k : Int)) i = false := by rw [lb_bit hk]; exact decide_eq_false h
theorem Cl_mk {lo hi : Nat → Int64} {n : Nat} (hn : n < 6144) (h : Cl lo hi) : Cl (mkL lo n) (mkH hi n) := by
  intro j hj i hi9
  unfold mkL mkH
  by_cases q : j = n % 64
  · subst q
    rw [uL_s, uL_s]
    have h1 := h _ hj i hi9
    by_cases a : n / 64 < 48
    · rw [if_pos a, if_pos a, lb_or0, lb_or, lb_bit0 (by omega) (by omega), h1.1]
      exact ⟨rfl, h1.2⟩
    · rw [if_neg a, if_neg a, lb_or0, lb_or, lb_bit0 (by omega) (by omega), h1.2]
      exact ⟨h1.1, rfl⟩
  · rw [uL_n q, uL_n q]
    exact h j hj i hi9
def Ms (m : Nat → Int64) (z : Nat) : Prop := lb (m (z / 48)) (z % 48) = true
def mkM (m : Nat → Int64) (z : Nat) : Nat → Int64 := vp_updL m (z / 48) (m (z / 48) ||| lsl 1 ((z % 48 : Nat) : Int))
theorem Ms_mk {m : Nat → Int64} {z z' : Nat} : Ms (mkM m z) z' ↔ Ms m z' ∨ z' = z := by
  unfold Ms mkM
  by_cases q : z' / 48 = z / 48
  · rw [q, uL_s, lb_set (by omega)]
    constructor
    · rintro (h | h)
      · exact Or.inl h
      · exact Or.inr (by omega)
    · rintro (h | h)
      · exact Or.inl h
      · exact Or.inr (by omega)
  · rw [uL_n q]
    exact ⟨Or.inl, fun h => h.elim id (fun h => (by exfalso; omega))⟩
theorem MkL {c d : Nat → Int64} {k now : Nat} (hk : k < 64) (hn : now < 48) : (lsr (c k) ((now : Nat) : Int) &&& 1 = 1 ∧ Mk c d (64 * now + k)) ∨ (lsr (c k) ((now : Nat) : Int) &&& 1 = 0 ∧ ¬ Mk c d (64 * now + k)) := by
  unfold Mk
  rw [show (64 * now + k) / 64 = now by omega, show (64 * now + k) % 64 = k by omega, if_pos hn, lb_get (by omega)]
  by_cases q : lb (c k) now = true
  · rw [if_pos q]; exact Or.inl ⟨rfl, q⟩
  · rw [if_neg q]; exact Or.inr ⟨rfl, q⟩
theorem MkH {c d : Nat → Int64} {k now : Nat} (hk : k < 64) (hn : 48 ≤ now) (hn2 : now < 96) : (lsr (d k) ((now - 48 : Nat) : Int) &&& 1 = 1 ∧ Mk c d (64 * now + k)) ∨ (lsr (d k) ((now - 48 : Nat) : Int) &&& 1 = 0 ∧ ¬ Mk c d (64 * now + k)) := by
  unfold Mk
  rw [show (64 * now + k) / 64 = now by omega, show (64 * now + k) % 64 = k by omega, if_neg (by omega), lb_get (by omega)]
  by_cases q : lb (d k) (now - 48) = true
  · rw [if_pos q]; exact Or.inl ⟨rfl, q⟩
  · rw [if_neg q]; exact Or.inr ⟨rfl, q⟩
/-! what spreads has done so far: the pairs (body n, input j) ahead of the place (k, now, i) -/
def Dn (k now i n j : Nat) : Prop := n % 64 < k ∨ (n % 64 = k ∧ (n / 64 < now ∨ (n / 64 = now ∧ j < i)))
def SPI (T : Nat → Nat → B4) (c d e f m : Nat → Int64) (k now i : Nat) (e1 f1 m1 : Nat → Int64) (w : Int) : Prop :=
  (∀ n', n' < 6144 → (Mk e1 f1 n' ↔ Mk e f n' ∨ ∃ n j, n < 6144 ∧ j < 6 ∧ Dn k now i n j ∧ Mk c d n ∧ (T n j).2.2.2 = 1 ∧ n' = cd (T n j))) ∧
  (∀ z : Nat, z < 96 → (Ms m1 z ↔ Ms m z ∨ ∃ n j, n < 6144 ∧ j < 6 ∧ Dn k now i n j ∧ Mk c d n ∧ (T n j).2.2.2 ≠ 3 ∧ (z : Int) = (T n j).1)) ∧
  (w = 0 ∨ w = 1) ∧ (w = 1 ↔ ∃ n j, n < 6144 ∧ j < 6 ∧ Dn k now i n j ∧ Mk c d n ∧ (T n j).2.2.2 = 2) ∧ (Cl e f → Cl e1 f1)
section SPI
variable {T : Nat → Nat → B4} {c d e f m e1 f1 m1 e2 f2 m2 : Nat → Int64} {k now i : Nat} {w w2 : Int}
theorem SPI.z : SPI T c d e f m 0 0 0 e f m 0 := by
  have no : ∀ n j, n < 6144 → j < 6 → ¬ Dn 0 0 0 n j := fun n j _ _ h => by unfold Dn at h; omega
  refine ⟨fun n' _ => ⟨Or.inl, fun h => h.elim id (fun ⟨n, j, h1, h2, h3, _⟩ => absurd h3 (no n j h1 h2))⟩, fun z _ => ⟨Or.inl, fun h => h.elim id (fun ⟨n, j, h1, h2, h3, _⟩ => absurd h3 (no n j h1 h2))⟩, Or.inl rfl, ⟨fun h => absurd h (by decide), fun ⟨n, j, h1, h2, h3, _⟩ => absurd h3 (no n j h1 h2)⟩, id⟩
theorem SPI.to {k' now' i' : Nat} (h : SPI T c d e f m k now i e1 f1 m1 w) (hd : ∀ n j, n < 6144 → j < 6 → Mk c d n → (Dn k now i n j ↔ Dn k' now' i' n j)) : SPI T c d e f m k' now' i' e1 f1 m1 w := by
  obtain ⟨h1, h2, h3, h4, h5⟩ := h
  refine ⟨fun n' hn => (h1 n' hn).trans (or_congr Iff.rfl ⟨fun ⟨n, j, a, b, x, y, z⟩ => ⟨n, j, a, b, (hd n j a b y).mp x, y, z⟩, fun ⟨n, j, a, b, x, y, z⟩ => ⟨n, j, a, b, (hd n j a b y).mpr x, y, z⟩⟩), fun n' hn => (h2 n' hn).trans (or_congr Iff.rfl ⟨fun ⟨n, j, a, b, x, y, z⟩ => ⟨n, j, a, b, (hd n j a b y).mp x, y, z⟩, fun ⟨n, j, a, b, x, y, z⟩ => ⟨n, j, a, b, (hd n j a b y).mpr x, y, z⟩⟩), h3, h4.trans ⟨fun ⟨n, j, a, b, x, y, z⟩ => ⟨n, j, a, b, (hd n j a b y).mp x, y, z⟩, fun ⟨n, j, a, b, x, y, z⟩ => ⟨n, j, a, b, (hd n j a b y).mpr x, y, z⟩⟩, h5⟩
theorem SPI.skip (h : SPI T c d e f m k now 0 e1 f1 m1 w) (hk : k < 64) (hm : ¬ Mk c d (64 * now + k)) : SPI T c d e f m k (now + 1) 0 e1 f1 m1 w := h.to fun n j _ _ hM => by
  have : n ≠ 64 * now + k := fun z => hm (z ▸ hM)
  unfold Dn
  constructor <;> intro <;> omega
theorem SPI.row (h : SPI T c d e f m k now 6 e1 f1 m1 w) : SPI T c d e f m k (now + 1) 0 e1 f1 m1 w := h.to fun n j _ _ hM => by
  unfold Dn
  constructor <;> intro <;> omega
theorem SPI.col (h : SPI T c d e f m k 96 0 e1 f1 m1 w) : SPI T c d e f m (k + 1) 0 0 e1 f1 m1 w := h.to fun n j _ _ hM => by
  unfold Dn
  constructor <;> intro <;> omega
theorem SPI.step (h : SPI T c d e f m k now i e1 f1 m1 w) (hk : k < 64) (hnow : now < 96) (hi : i < 6) (hm : Mk c d (64 * now + k)) {x : B4} (hx : x = T (64 * now + k) i) (he : ∀ n', n' < 6144 → (Mk e2 f2 n' ↔ Mk e1 f1 n' ∨ (x.2.2.2 = 1 ∧ n' = cd x))) (hz : ∀ z : Nat, z < 96 → (Ms m2 z ↔ Ms m1 z ∨ (x.2.2.2 ≠ 3 ∧ (z : Int) = x.1))) (hw : (w2 = 0 ∨ w2 = 1) ∧ (w2 = 1 ↔ w = 1 ∨ x.2.2.2 = 2)) (hc : Cl e1 f1 → Cl e2 f2) : SPI T c d e f m k now (i + 1) e2 f2 m2 w2 := by
  subst hx
  obtain ⟨h1, h2, h3, h4, h5⟩ := h
  have hd : ∀ n j, Dn k now (i + 1) n j ↔ Dn k now i n j ∨ (n = 64 * now + k ∧ j = i) := fun n j => by
    unfold Dn
    constructor <;> intro <;> omega
  refine ⟨fun n' hn => ?_, fun z hz9 => ?_, hw.1, ?_, fun z => hc (h5 z)⟩
  · rw [he n' hn, h1 n' hn]
    constructor
    · rintro ((q | ⟨n, j, a, b, x, y, z⟩) | ⟨q1, q2⟩)
      · exact Or.inl q
      · exact Or.inr ⟨n, j, a, b, (hd n j).mpr (Or.inl x), y, z⟩
      · exact Or.inr ⟨_, i, by omega, hi, (hd _ i).mpr (Or.inr ⟨rfl, rfl⟩), hm, q1, q2⟩
    · rintro (q | ⟨n, j, a, b, x, y, z⟩)
      · exact Or.inl (Or.inl q)
      · rcases (hd n j).mp x with q | ⟨rfl, rfl⟩
        · exact Or.inl (Or.inr ⟨n, j, a, b, q, y, z⟩)
        · exact Or.inr z
  · rw [hz z hz9, h2 z hz9]
    constructor
    · rintro ((q | ⟨n, j, a, b, x, y, z⟩) | ⟨q1, q2⟩)
      · exact Or.inl q
      · exact Or.inr ⟨n, j, a, b, (hd n j).mpr (Or.inl x), y, z⟩
      · exact Or.inr ⟨_, i, by omega, hi, (hd _ i).mpr (Or.inr ⟨rfl, rfl⟩), hm, q1, q2⟩
    · rintro (q | ⟨n, j, a, b, x, y, z⟩)
      · exact Or.inl (Or.inl q)
      · rcases (hd n j).mp x with q | ⟨rfl, rfl⟩
        · exact Or.inl (Or.inr ⟨n, j, a, b, q, y, z⟩)
        · exact Or.inr z
  · rw [hw.2, h4]
    constructor
    · rintro (⟨n, j, a, b, x, y, z⟩ | q)
      · exact ⟨n, j, a, b, (hd n j).mpr (Or.inl x), y, z⟩
      · exact ⟨_, i, by omega, hi, (hd _ i).mpr (Or.inr ⟨rfl, rfl⟩), hm, q⟩
    · rintro ⟨n, j, a, b, x, y, z⟩
      rcases (hd n j).mp x with q | ⟨rfl, rfl⟩
      · exact Or.inl ⟨n, j, a, b, q, y, z⟩
      · exact Or.inr z
theorem SPI.fin (h : SPI T c d e f m 64 0 0 e1 f1 m1 w) : (∀ n', n' < 6144 → (Mk e1 f1 n' ↔ Mk e f n' ∨ ∃ n j, n < 6144 ∧ j < 6 ∧ Mk c d n ∧ (T n j).2.2.2 = 1 ∧ n' = cd (T n j))) ∧
  (∀ z : Nat, z < 96 → (Ms m1 z ↔ Ms m z ∨ ∃ n j, n < 6144 ∧ j < 6 ∧ Mk c d n ∧ (T n j).2.2.2 ≠ 3 ∧ (z : Int) = (T n j).1)) ∧ (w = 1 ↔ ∃ n j, n < 6144 ∧ j < 6 ∧ Mk c d n ∧ (T n j).2.2.2 = 2) := by
  have al : ∀ n j, Dn 64 0 0 n j := fun n j => Or.inl (by omega)
  obtain ⟨h1, h2, h3, h4, h5⟩ := h
  refine ⟨fun n' hn => (h1 n' hn).trans (or_congr Iff.rfl ⟨fun ⟨n, j, a, b, x, y⟩ => ⟨n, j, a, b, y⟩, fun ⟨n, j, a, b, y⟩ => ⟨n, j, a, b, al n j, y⟩⟩), fun n' hn => (h2 n' hn).trans (or_congr Iff.rfl ⟨fun ⟨n, j, a, b, x, y⟩ => ⟨n, j, a, b, y⟩, fun ⟨n, j, a, b, y⟩ => ⟨n, j, a, b, al n j, y⟩⟩), h4.trans ⟨fun ⟨n, j, a, b, x, y⟩ => ⟨n, j, a, b, y⟩, fun ⟨n, j, a, b, y⟩ => ⟨n, j, a, b, al n j, y⟩⟩⟩
end SPI
theorem mk_yes {e f : Nat → Int64} {x : B4} (hx : cd x < 6144) (h : x.2.2.2 = 1) : ∀ n', n' < 6144 → (Mk (mkL e (cd x)) (mkH f (cd x)) n' ↔ Mk e f n' ∨ (x.2.2.2 = 1 ∧ n' = cd x)) := fun n' hn => (Mk_mk hx hn).trans (or_congr Iff.rfl ⟨fun z => ⟨h, z⟩, fun z => z.2⟩)
theorem mk_no {e f : Nat → Int64} {x : B4} (h : x.2.2.2 ≠ 1) : ∀ n', n' < 6144 → (Mk e f n' ↔ Mk e f n' ∨ (x.2.2.2 = 1 ∧ n' = cd x)) := fun n' _ => ⟨Or.inl, fun z => z.elim id (fun y => absurd y.1 h)⟩
theorem ms_yes {m : Nat → Int64} {x : B4} (hx : 0 ≤ x.1) (h : x.2.2.2 ≠ 3) : ∀ z : Nat, z < 96 → (Ms (mkM m x.1.toNat) z ↔ Ms m z ∨ (x.2.2.2 ≠ 3 ∧ (z : Int) = x.1)) := fun z _ => Ms_mk.trans (or_congr Iff.rfl ⟨fun y => ⟨h, by omega⟩, fun y => by have := y.2; omega⟩)
theorem ms_no {m : Nat → Int64} {x : B4} (h : ¬ x.2.2.2 ≠ 3) : ∀ z : Nat, z < 96 → (Ms m z ↔ Ms m z ∨ (x.2.2.2 ≠ 3 ∧ (z : Int) = x.1)) := fun z _ => ⟨Or.inl, fun y => y.elim id (fun y => absurd y.1 h)⟩
theorem hu3_of {h h' : vh} {a b c : Nat} {x y z : va_E} (ha : h' a = some x) (hb : h' b = some y) (hc : h' c = some z) (fr : ∀ q, q ≠ a → q ≠ b → q ≠ c → h' q = h q) : h' = hu (hu (hu h a x) b y) c z := by
  funext q
  by_cases q1 : q = c
  · rw [q1, hu_s]; exact hc
  · rw [hu_n q1]
    by_cases q2 : q = b
    · rw [q2, hu_s]; exact hb
    · rw [hu_n q2]
      by_cases q3 : q = a
      · rw [q3, hu_s]; exact ha
      · rw [hu_n q3]; exact fr q q3 q2 q1
/-! rows of words that are written one behind the other -/
def upN (f g : Nat → Int64) (k : Nat) : Nat → Int64 := fun j => if j < k then f j else g j
theorem upN_0 {f g : Nat → Int64} : upN f g 0 = g := by funext j; exact if_neg (Nat.not_lt_zero _)
theorem upN_k {f g : Nat → Int64} {k : Nat} : upN f g k k = g k := if_neg (Nat.lt_irrefl k)
theorem upN_s {f g : Nat → Int64} {k : Nat} {x : Int64} (hx : x = f k) : vp_updL (upN f g k) k x = upN f g (k + 1) := by
  funext j
  unfold vp_updL upN
  by_cases q : j = k
  · rw [if_pos q, if_pos (by omega), q, hx]
  · rw [if_neg q]
    by_cases r : j < k
    · rw [if_pos r, if_pos (by omega)]
    · rw [if_neg r, if_neg (by omega)]
theorem Mk_up {f f' g g' : Nat → Int64} {n : Nat} : Mk (upN f g 64) (upN f' g' 64) n ↔ Mk f f' n := by
  unfold Mk upN
  rw [if_pos (show n % 64 < 64 by omega), if_pos (show n % 64 < 64 by omega)]
theorem Cl_up {f f' g g' : Nat → Int64} (h : Cl f f') : Cl (upN f g 64) (upN f' g' 64) := fun j hj i hi => by
  unfold upN
  rw [if_pos hj, if_pos hj]
  exact h j hj i hi
theorem Mk_0 {n : Nat} : ¬ Mk (fun _ => 0) (fun _ => 0) n := by
  unfold Mk
  rw [lb_0, lb_0]
  split <;> decide
theorem Cl_0 : Cl (fun _ => 0) (fun _ => 0) := fun j _ i _ => ⟨lb_0, lb_0⟩
theorem lb_dif {x y : Int64} {i : Nat} (h : i < 64) : lb (x &&& (y ^^^ (-1))) i = (lb x i && !lb y i) := by rw [lb_and, lb_not h]
theorem Mk_dif {a b e f : Nat → Int64} {n : Nat} (hn : n < 6144) : Mk (fun j => e j &&& (a j ^^^ (-1))) (fun j => f j &&& (b j ^^^ (-1))) n ↔ Mk e f n ∧ ¬ Mk a b n := by
  unfold Mk
  by_cases q : n / 64 < 48
  · rw [if_pos q, if_pos q, if_pos q]
    rw [lb_dif (by omega)]
    cases lb (e (n % 64)) (n / 64) <;> cases lb (a (n % 64)) (n / 64) <;> simp
  · rw [if_neg q, if_neg q, if_neg q]
    rw [lb_dif (by omega)]
    cases lb (f (n % 64)) (n / 64 - 48) <;> cases lb (b (n % 64)) (n / 64 - 48) <;> simp
theorem Mk_un {a b e f : Nat → Int64} {n : Nat} : Mk (fun j => a j ||| e j) (fun j => b j ||| f j) n ↔ Mk a b n ∨ Mk e f n := by
  unfold Mk
  by_cases q : n / 64 < 48
  · rw [if_pos q, if_pos q, if_pos q, lb_or, Bool.or_eq_true]
  · rw [if_neg q, if_neg q, if_neg q, lb_or, Bool.or_eq_true]
theorem lb_nz {x : Int64} : x ≠ 0 ↔ ∃ i, i < 64 ∧ lb x i = true := by
  constructor
  · intro h
    apply Classical.byContradiction
    intro q
    apply h
    apply lb_ext
    intro i hi
    rw [lb_0]
    cases hx : lb x i
    · rfl
    · exact absurd ⟨i, hi, hx⟩ q
  · rintro ⟨i, hi, h⟩ rfl
    rw [lb_0] at h
    cases h
/-- a word of the new bodies isn't 0 if one is marked in it -/
theorem nz_mk {a b e f : Nat → Int64} (hC : Cl e f) {k : Nat} (hk : k < 64) : (e k &&& (a k ^^^ (-1)) ≠ 0 ∨ f k &&& (b k ^^^ (-1)) ≠ 0) ↔ ∃ n, n < 6144 ∧ n % 64 = k ∧ Mk e f n ∧ ¬ Mk a b n := by
  constructor
  · rintro (h | h)
    · obtain ⟨i, hi, h1⟩ := lb_nz.mp h
      have hi48 : i < 48 := by
        apply Classical.byContradiction
        intro q
        rw [lb_and, (hC k hk i (by omega)).1] at h1
        cases h1
      have h2 : Mk (fun j => e j &&& (a j ^^^ (-1))) (fun j => f j &&& (b j ^^^ (-1))) (64 * i + k) := by
        unfold Mk
        rw [show (64 * i + k) / 64 = i by omega, show (64 * i + k) % 64 = k by omega, if_pos hi48]
        exact h1
      exact ⟨64 * i + k, by omega, by omega, (Mk_dif (by omega)).mp h2⟩
    · obtain ⟨i, hi, h1⟩ := lb_nz.mp h
      have hi48 : i < 48 := by
        apply Classical.byContradiction
        intro q
        rw [lb_and, (hC k hk i (by omega)).2] at h1
        cases h1
      have h2 : Mk (fun j => e j &&& (a j ^^^ (-1))) (fun j => f j &&& (b j ^^^ (-1))) (64 * (i + 48) + k) := by
        unfold Mk
        rw [show (64 * (i + 48) + k) / 64 = i + 48 by omega, show (64 * (i + 48) + k) % 64 = k by omega, if_neg (by omega), show i + 48 - 48 = i by omega]
        exact h1
      exact ⟨64 * (i + 48) + k, by omega, by omega, (Mk_dif (by omega)).mp h2⟩
  · rintro ⟨n, hn, hk9, h1, h2⟩
    have h3 := (Mk_dif (a := a) (b := b) (e := e) (f := f) hn).mpr ⟨h1, h2⟩
    unfold Mk at h3
    rw [hk9] at h3
    by_cases q : n / 64 < 48
    · rw [if_pos q] at h3
      exact Or.inl (lb_nz.mpr ⟨n / 64, by omega, h3⟩)
    · rw [if_neg q] at h3
      exact Or.inr (lb_nz.mpr ⟨n / 64 - 48, by omega, h3⟩)
/-! how many are marked -/
noncomputable def cntM (P : Nat → Prop) : Nat → Nat
  | 0 => 0
  | n + 1 => cntM P n + (@ite Nat (P n) (Classical.propDecidable _) 1 0)
theorem cntM_le (P : Nat → Prop) : ∀ n, cntM P n ≤ n
  | 0 => Nat.le_refl _
  | n + 1 => by
    have := cntM_le P n
    unfold cntM
    split <;> omega
theorem cntM_m {P Q : Nat → Prop} : ∀ {n : Nat}, (∀ j, j < n → P j → Q j) → cntM P n ≤ cntM Q n
  | 0, _ => Nat.le_refl _
  | n + 1, h => by
    have ih := cntM_m (n := n) (fun j hj => h j (by omega))
    have h1 := h n (by omega)
    unfold cntM
    by_cases p : P n
    · rw [if_pos p, if_pos (h1 p)]; omega
    · rw [if_neg p]; split <;> omega
theorem cntM_lt {P Q : Nat → Prop} : ∀ {n : Nat}, (∀ j, j < n → P j → Q j) → ∀ {k : Nat}, k < n → ¬ P k → Q k → cntM P n < cntM Q n
  | 0, _, k, hk, _, _ => absurd hk (Nat.not_lt_zero _)
  | n + 1, h, k, hk, hp, hq => by
    have h1 := h n (by omega)
    have h9 : ∀ j, j < n → P j → Q j := fun j hj => h j (by omega)
    unfold cntM
    by_cases e : k = n
    · subst e
      have ih := cntM_m h9
      rw [if_neg hp, if_pos hq]; omega
    · have ih := cntM_lt h9 (k := k) (by omega) hp hq
      by_cases p : P n
      · rw [if_pos p, if_pos (h1 p)]; omega
      · rw [if_neg p]; split <;> omega
/-! the search by steps: a, b hold what was done, e, f what was come to -/
def BS (T : Nat → Nat → B4) (x0 : B4) (a b e f m : Nat → Int64) (s : Nat) (w : Int) : Prop :=
  (∀ n, n < 6144 → (Mk a b n ↔ ∃ d, d < s ∧ Rch T x0 d n)) ∧ (∀ n, n < 6144 → Mk e f n → Rch T x0 s n) ∧ (∀ n, n < 6144 → Rch T x0 s n → Mk e f n ∨ Mk a b n) ∧
  ((w = -1 ∧ ∀ d, d ≤ s → ¬ Win T x0 d) ∨ ∃ d : Nat, d ≤ s ∧ w = d ∧ Win T x0 d ∧ ∀ e, e < d → ¬ Win T x0 e) ∧
  (∀ z : Nat, z < 96 → (Ms m z ↔ ((z : Int) = x0.1 ∨ ∃ d p i, d < s ∧ Rch T x0 d p ∧ i < 6 ∧ (T p i).2.2.2 ≠ 3 ∧ (z : Int) = (T p i).1))) ∧ Cl e f
theorem Rch_lt {T : Nat → Nat → B4} {x0 : B4} (hT : ∀ n, n < 6144 → ∀ i, i < 6 → bOK (T n i) ∧ b123 (T n i)) (h0 : bOK x0) : ∀ {d n : Nat}, Rch T x0 d n → n < 6144
  | 0, n, h => by rw [h.2]; exact cd_lt h0
  | d + 1, n, h => by
    obtain ⟨p, h1, i, h2, h3, h4⟩ := h
    rw [h4]; exact cd_lt (hT p (Rch_lt hT h0 h1) i h2).1
section BS
variable {T : Nat → Nat → B4} {x0 : B4} {a b e f m c d a1 b1 e1 f1 m1 : Nat → Int64} {s : Nat} {w w1 : Int}
theorem BS.z (hx : x0.2.2.2 = 1) (ha : ∀ n, n < 6144 → ¬ Mk a b n) (he : ∀ n, n < 6144 → (Mk e f n ↔ n = cd x0)) (hm : ∀ z : Nat, z < 96 → (Ms m z ↔ (z : Int) = x0.1)) (hC : Cl e f) : BS T x0 a b e f m 0 (-1) := by
  refine ⟨fun n hn => ⟨fun h => absurd h (ha n hn), fun ⟨d, h, _⟩ => absurd h (Nat.not_lt_zero _)⟩, fun n hn h => ⟨hx, (he n hn).mp h⟩, fun n hn h => Or.inl ((he n hn).mpr h.2), Or.inl ⟨rfl, fun d hd h => ?_⟩, fun z hz => (hm z hz).trans ⟨Or.inl, fun h => h.elim id (fun ⟨d, p, i, h, _⟩ => absurd h (Nat.not_lt_zero _))⟩, hC⟩
  have : d = 0 := by omega
  subst this
  have h2 : x0.2.2.2 = 2 := h
  omega
/-- one round: c, d the new ones -/
theorem BS.next (hT : ∀ n, n < 6144 → ∀ i, i < 6 → bOK (T n i) ∧ b123 (T n i)) (h0 : bOK x0) (h : BS T x0 a b e f m s w) (hc : ∀ n, n < 6144 → (Mk c d n ↔ Mk e f n ∧ ¬ Mk a b n)) (ha : ∀ n, n < 6144 → (Mk a1 b1 n ↔ Mk a b n ∨ Mk e f n))
    {e0 f0 : Nat → Int64} (hz : ∀ n, n < 6144 → ¬ Mk e0 f0 n) (hz2 : Cl e0 f0) {w2 : Int} (hS : SPI T c d e0 f0 m 64 0 0 e1 f1 m1 w2) (hw : w1 = if w2 = 1 ∧ w < 0 then ((s + 1 : Nat) : Int) else w) : BS T x0 a1 b1 e1 f1 m1 (s + 1) w1 := by
  have hC1 := hS.2.2.2.2 hz2
  have hw01 := hS.2.2.1
  obtain ⟨g1, g2, g3⟩ := hS.fin
  obtain ⟨h1, h2, h3, h4, h5, h6⟩ := h
  -- who is come to by one step more
  have sp : ∀ n p i, Rch T x0 s p → i < 6 → (T p i).2.2.2 = 1 → n = cd (T p i) → Mk e1 f1 n ∨ Mk a1 b1 n := fun n p i r hi q1 q2 => by
    have hp := Rch_lt hT h0 r
    have hn : n < 6144 := by rw [q2]; exact cd_lt (hT p hp i hi).1
    by_cases hA : Mk a b p
    · obtain ⟨d9, l1, l2⟩ := (h1 p hp).mp hA
      have l3 : Rch T x0 (d9 + 1) n := ⟨p, l2, i, hi, q1, q2⟩
      refine Or.inr ((ha n hn).mpr ?_)
      by_cases l4 : d9 + 1 < s
      · exact Or.inl ((h1 n hn).mpr ⟨_, l4, l3⟩)
      · have : d9 + 1 = s := by omega
        rw [this] at l3
        exact (h3 n hn l3).symm
    · have hE := (h3 p hp r).resolve_right hA
      exact Or.inl ((g1 n hn).mpr (Or.inr ⟨p, i, hp, hi, (hc p hp).mpr ⟨hE, hA⟩, q1, q2⟩))
  refine ⟨fun n hn => ?_, fun n hn q => ?_, fun n hn q => ?_, ?_, fun z hz9 => ?_, hC1⟩
  · rw [ha n hn, h1 n hn]
    constructor
    · rintro (⟨d9, l1, l2⟩ | q)
      · exact ⟨d9, by omega, l2⟩
      · exact ⟨s, by omega, h2 n hn q⟩
    · rintro ⟨d9, l1, l2⟩
      by_cases l3 : d9 < s
      · exact Or.inl ⟨d9, l3, l2⟩
      · have : d9 = s := by omega
        subst this
        rcases h3 n hn l2 with q | q
        · exact Or.inr q
        · exact Or.inl ((h1 n hn).mp q)
  · rcases (g1 n hn).mp q with q | ⟨p, i, l1, l2, l3, l4, l5⟩
    · exact absurd q (hz n hn)
    · exact ⟨p, h2 p l1 ((hc p l1).mp l3).1, i, l2, l4, l5⟩
  · obtain ⟨p, l1, i, l2, l3, l4⟩ := q
    exact sp n p i l1 l2 l3 l4
  · -- the wins
    have wn : Win T x0 (s + 1) → (∃ d9, d9 ≤ s ∧ Win T x0 d9) ∨ w2 = 1 := fun q => by
      obtain ⟨p, l1, i, l2, l3⟩ := q
      have hp := Rch_lt hT h0 l1
      by_cases hA : Mk a b p
      · obtain ⟨d9, k1, k2⟩ := (h1 p hp).mp hA
        exact Or.inl ⟨d9 + 1, by omega, p, k2, i, l2, l3⟩
      · exact Or.inr (g3.mpr ⟨p, i, hp, l2, (hc p hp).mpr ⟨(h3 p hp l1).resolve_right hA, hA⟩, l3⟩)
    rcases h4 with ⟨q1, q2⟩ | ⟨d9, q0, q1, q2, q3⟩
    · by_cases q : w2 = 1
      · rw [if_pos ⟨q, by omega⟩] at hw
        obtain ⟨p, i, l1, l2, l3, l4⟩ := g3.mp q
        exact Or.inr ⟨s + 1, by omega, hw, ⟨p, h2 p l1 ((hc p l1).mp l3).1, i, l2, l4⟩, fun e9 he => q2 e9 (by omega)⟩
      · rw [if_neg (fun z => q z.1)] at hw
        refine Or.inl ⟨by omega, fun d8 hd8 hW => ?_⟩
        by_cases l : d8 ≤ s
        · exact q2 d8 l hW
        · have : d8 = s + 1 := by omega
          subst this
          rcases wn hW with ⟨d7, k1, k2⟩ | k
          · exact q2 d7 k1 k2
          · exact q k
    · rw [if_neg (fun z => by have := z.2; omega)] at hw
      exact Or.inr ⟨d9, by omega, by omega, q2, q3⟩
  · rw [g2 z hz9, h5 z hz9]
    constructor
    · rintro ((q | ⟨d9, p, i, l0, l1, l2, l3, l4⟩) | ⟨p, i, l1, l2, l3, l4, l5⟩)
      · exact Or.inl q
      · exact Or.inr ⟨d9, p, i, by omega, l1, l2, l3, l4⟩
      · exact Or.inr ⟨s, p, i, by omega, h2 p l1 ((hc p l1).mp l3).1, l2, l4, l5⟩
    · rintro (q | ⟨d9, p, i, l0, l1, l2, l3, l4⟩)
      · exact Or.inl (Or.inl q)
      · have hp := Rch_lt hT h0 l1
        by_cases l : d9 < s
        · exact Or.inl (Or.inr ⟨d9, p, i, l, l1, l2, l3, l4⟩)
        · have : d9 = s := by omega
          subst this
          by_cases hA : Mk a b p
          · obtain ⟨d8, k1, k2⟩ := (h1 p hp).mp hA
            exact Or.inl (Or.inr ⟨d8, p, i, k1, k2, l2, l3, l4⟩)
          · exact Or.inr ⟨p, i, hp, l2, (hc p hp).mpr ⟨(h3 p hp l1).resolve_right hA, hA⟩, l3, l4⟩
theorem BS.fin (hT : ∀ n, n < 6144 → ∀ i, i < 6 → bOK (T n i) ∧ b123 (T n i)) (h0 : bOK x0) (h1x : x0.2.2.2 = 1) (h : BS T x0 a b e f m s w) (hno : ∀ n, n < 6144 → ¬ Mk e f n) : Found T x0 w ∧ ∀ z : Nat, z < 96 → (Ms m z ↔ Seen T x0 z) := by
  obtain ⟨h1, h2, h3, h4, h5, h6⟩ := h
  have cl : ∀ d n, Rch T x0 d n → ∃ d', d' < s ∧ Rch T x0 d' n := by
    intro d
    induction d with
    | zero => intro n hr
              have hn := Rch_lt hT h0 hr
              by_cases q : 0 < s
              · exact ⟨0, q, hr⟩
              · have : s = 0 := by omega
                subst this
                rcases h3 n hn hr with z | z
                · exact absurd z (hno n hn)
                · exact (h1 n hn).mp z
    | succ d ih =>
      intro n hr
      have hn := Rch_lt hT h0 hr
      obtain ⟨p, l1, i, l2, l3, l4⟩ := hr
      obtain ⟨d', k1, k2⟩ := ih p l1
      have l5 : Rch T x0 (d' + 1) n := ⟨p, k2, i, l2, l3, l4⟩
      by_cases q : d' + 1 < s
      · exact ⟨_, q, l5⟩
      · have : d' + 1 = s := by omega
        rw [this] at l5
        rcases h3 n hn l5 with z | z
        · exact absurd z (hno n hn)
        · exact (h1 n hn).mp z
  refine ⟨?_, fun z hz => (h5 z hz).trans ⟨?_, ?_⟩⟩
  · rcases h4 with ⟨q1, q2⟩ | ⟨d9, q0, q1, q2, q3⟩
    · refine Or.inl ⟨q1, fun d hd => ?_⟩
      cases d with
      | zero => exact q2 0 (by omega) hd
      | succ d =>
        obtain ⟨p, l1, i, l2, l3⟩ := hd
        obtain ⟨d', k1, k2⟩ := cl d p l1
        exact q2 (d' + 1) (by omega) ⟨p, k2, i, l2, l3⟩
    · exact Or.inr ⟨d9, q1, q2, q3⟩
  · rintro (q | ⟨d9, p, i, l0, l1, l2, l3, l4⟩)
    · exact Or.inl ⟨by omega, q⟩
    · exact Or.inr ⟨d9, p, i, l1, l2, l3, l4⟩
  · rintro (⟨_, q⟩ | ⟨d9, p, i, l1, l2, l3, l4⟩)
    · exact Or.inl q
    · obtain ⟨d', k1, k2⟩ := cl d9 p l1
      exact Or.inr ⟨d', p, i, k1, k2, l2, l3, l4⟩
theorem BS.r (h : BS T x0 a b e f m s w) : -1 ≤ w ∧ w ≤ (s : Int) := by
  rcases h.2.2.2.1 with ⟨q1, q2⟩ | ⟨d9, q0, q1, q2, q3⟩ <;> omega
end BS

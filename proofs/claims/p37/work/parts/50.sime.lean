/-! ===== two grounds that are the same but for the names of keys ===== -/
def GE (f f' : Nat → Int) (B B' : Int → Nat) (a a' : Nat) (E : Nat → Nat → Prop) : Prop :=
  (∀ z, z < 96 → f z = f' z) ∧ (∀ t t', E t t' → (t = a ↔ t' = a')) ∧ (∀ (p : Int) (t t' : Nat), 0 ≤ p → p < 96 → E t t' → E (t ||| B p) (t' ||| B' p)) ∧ (∀ t t', E t t' → t < 8 ∧ t' < 8) ∧ E 0 0
def XE (E : Nat → Nat → Prop) (x x' : Int × Nat × Int) : Prop := x.1 = x'.1 ∧ E x.2.1 x'.2.1 ∧ x.2.2 = x'.2.2
def XF (E : Nat → Nat → Prop) (x x' : B4) : Prop := x.1 = x'.1 ∧ x.2.1 = x'.2.1 ∧ E x.2.2.1 x'.2.2.1 ∧ x.2.2.2 = x'.2.2.2
section GEs
variable {f f' : Nat → Int} {B B' : Int → Nat} {a a' : Nat} {E : Nat → Nat → Prop}
theorem GE.k (h : GE f f' B B' a a' E) (p : Int) : kAt f p = kAt f' p := by
  unfold kAt
  by_cases q : 0 ≤ p ∧ p < 96
  · rw [if_pos q, if_pos q]; exact h.1 _ (by omega)
  · rw [if_neg q, if_neg q]
theorem GE.sol_ (h : GE f f' B B' a a' E) {t t' : Nat} (e : E t t') (p : Int) : sol f a t p ↔ sol f' a' t' p := by
  have h1 := h.k p
  have h2 := h.2.1 t t' e
  unfold sol
  rw [h1]
  have h3 : t ≠ a ↔ t' ≠ a' := not_congr h2
  constructor
  · rintro (z | z | z | z)
    · exact Or.inl z
    · exact Or.inr (Or.inl z)
    · exact Or.inr (Or.inr (Or.inl z))
    · exact Or.inr (Or.inr (Or.inr ⟨z.1, h3.mp z.2⟩))
  · rintro (z | z | z | z)
    · exact Or.inl z
    · exact Or.inr (Or.inl z)
    · exact Or.inr (Or.inr (Or.inl z))
    · exact Or.inr (Or.inr (Or.inr ⟨z.1, h3.mpr z.2⟩))
theorem GE.cm_ (h : GE f f' B B' a a' E) {x x' : Int × Nat × Int} (e : XE E x x') (p : Int) : XE E (cm f B p x) (cm f' B' p x') := by
  obtain ⟨e1, e2, e3⟩ := e
  unfold cm
  by_cases q : 0 ≤ p ∧ p < 96
  · rw [if_pos q, if_pos q]
    have hf := h.1 p.toNat (by omega)
    refine ⟨rfl, h.2.2.1 p _ _ q.1 q.2 e2, ?_⟩
    dsimp only
    rw [hf, e3]
  · rw [if_neg q, if_neg q]
    exact ⟨e1, e2, rfl⟩
theorem GE.sd_ (h : GE f f' B B' a a' E) {x x' : Int × Nat × Int} (e : XE E x x') (d : Int) : XE E (sd f B a d x) (sd f' B' a' d x') := by
  have e1 := e.1
  have hs := h.sol_ e.2.1 (x.1 + d)
  rw [e1] at hs
  have hc := h.cm_ e (x'.1 + d)
  unfold sd
  rw [e1]
  by_cases q : d ≠ 0 ∧ 0 ≤ x'.1 % 12 + d ∧ x'.1 % 12 + d < 12 ∧ ¬ sol f a x.2.1 (x'.1 + d)
  · rw [if_pos q, if_pos ⟨q.1, q.2.1, q.2.2.1, fun z => q.2.2.2 (hs.mpr z)⟩]
    exact hc
  · rw [if_neg q, if_neg (fun z => q ⟨z.1, z.2.1, z.2.2.1, fun y => z.2.2.2 (hs.mp y)⟩)]
    exact e
theorem GE.vt_ (h : GE f f' B B' a a' E) {S : Nat → Int} {w v : Int} : ∀ (n : Nat) {x x' : Int × Nat × Int}, XE E x x' → XF E (vt f B a S w v n x) (vt f' B' a' S w v n x')
  | 0, x, x', e => ⟨e.1, rfl, e.2.1, e.2.2⟩
  | n + 1, x, x', e => by
    have e1 := e.1
    have hs := h.sol_ e.2.1 (x.1 + w)
    have hk := h.k (x.1 + w)
    have hc := h.cm_ e (x.1 + w)
    have hv := GE.vt_ h (S := S) (w := w) (v := v) n hc
    rw [e1] at hs hk hc hv
    unfold vt
    rw [e1]
    by_cases q : sol f a x.2.1 (x'.1 + w)
    · rw [if_pos q, if_pos (hs.mp q), hk]
      exact ⟨rfl, rfl, e.2.1, e.2.2⟩
    · rw [if_neg q, if_neg (fun z => q (hs.mpr z))]
      by_cases r : (cm f B (x'.1 + w) x).2.2 = 1
      · rw [if_pos r, if_pos (by rw [← hc.2.2]; exact r)]
        exact hv
      · rw [if_neg r, if_neg (by rw [← hc.2.2]; exact r)]
        exact ⟨hc.1, rfl, hc.2.1, hc.2.2⟩
theorem GE.sv_ (h : GE f f' B B' a a' E) {t t' : Nat} (e : E t t') {i c v : Int} : sv f a i c v t = sv f' a' i c v t' := by
  have hs := h.sol_ e (c + 12)
  unfold sv
  by_cases q : 0 ≤ v ∧ sol f a t (c + 12)
  · rw [if_pos q, if_pos (show 0 ≤ v ∧ sol f' a' t' (c + 12) from ⟨q.1, hs.mp q.2⟩)]
  · rw [if_neg q, if_neg (show ¬ (0 ≤ v ∧ sol f' a' t' (c + 12)) from fun z => q ⟨z.1, hs.mpr z.2⟩)]
theorem GE.mv_ (h : GE f f' B B' a a' E) {S : Nat → Int} {t t' : Nat} (e : E t t') {i c v : Int} : XF E (mv f B a S i c v t) (mv f' B' a' S i c v t') := by
  have hd := h.sd_ (x := (c, t, 1)) (x' := (c, t', 1)) ⟨rfl, e, rfl⟩ (i % 3 - 1)
  have hv := h.sv_ e (i := i) (c := c) (v := v)
  unfold mv
  rw [← hv]
  by_cases q : (sd f B a (i % 3 - 1) (c, t, 1)).2.2 = 1
  · rw [if_pos q, if_pos (show (sd f' B' a' (i % 3 - 1) (c, t', 1)).2.2 = 1 by rw [← hd.2.2]; exact q)]
    exact h.vt_ _ hd
  · rw [if_neg q, if_neg (show ¬ (sd f' B' a' (i % 3 - 1) (c, t', 1)).2.2 = 1 by rw [← hd.2.2]; exact q)]
    exact ⟨hd.1, rfl, hd.2.1, hd.2.2⟩
def RN (E : Nat → Nat → Prop) (n n' : Nat) : Prop := n / 8 = n' / 8 ∧ E (n % 8) (n' % 8)
theorem GE.T (h : GE f f' B B' a a' E) {S : Nat → Int} {n n' : Nat} (e : RN E n n') (i : Nat) : XF E (TTr f B a S n i) (TTr f' B' a' S n' i) := by
  unfold TTr
  rw [show n / 64 = n' / 64 by have := e.1; omega, show n / 8 % 8 = n' / 8 % 8 by rw [e.1]]
  exact h.mv_ e.2
theorem GE.X (h : GE f f' B B' a a' E) (z : Int) : XF E (X0r f B z) (X0r f' B' z) := by
  have hc := h.cm_ (x := (z, 0, 1)) (x' := (z, 0, 1)) ⟨rfl, h.2.2.2.2, rfl⟩ z
  exact ⟨hc.1, rfl, hc.2.1, hc.2.2⟩
theorem GE.cd_ (h : GE f f' B B' a a' E) {x x' : B4} (e : XF E x x') : RN E (cd x) (cd x') := by
  obtain ⟨e1, e2, e3, e4⟩ := e
  have hl := h.2.2.2.1 _ _ e3
  unfold cd pkc RN
  rw [e1, e2]
  refine ⟨by omega, ?_⟩
  rw [show (64 * x'.1.toNat + 8 * (x'.2.1 + 4).toNat + x.2.2.1) % 8 = x.2.2.1 by omega, show (64 * x'.1.toNat + 8 * (x'.2.1 + 4).toNat + x'.2.2.1) % 8 = x'.2.2.1 by omega]
  exact e3
theorem GE.R (h : GE f f' B B' a a' E) {S : Nat → Int} {z : Int} : ∀ (d n : Nat), Rch (TTr f B a S) (X0r f B z) d n → ∃ n', RN E n n' ∧ Rch (TTr f' B' a' S) (X0r f' B' z) d n'
  | 0, n, hr => by
    have hx := h.X z
    obtain ⟨r1, rfl⟩ := hr
    exact ⟨_, h.cd_ hx, by rw [← hx.2.2.2]; exact r1, rfl⟩
  | d + 1, n, hr => by
    obtain ⟨p, hp, i, hi, hs, rfl⟩ := hr
    obtain ⟨p', e, hp'⟩ := GE.R h d p hp
    have ht := h.T (S := S) e i
    exact ⟨_, h.cd_ ht, p', hp', i, hi, by rw [← ht.2.2.2]; exact hs, rfl⟩
theorem GE.R' (h : GE f f' B B' a a' E) {S : Nat → Int} {z : Int} : ∀ (d n' : Nat), Rch (TTr f' B' a' S) (X0r f' B' z) d n' → ∃ n, RN E n n' ∧ Rch (TTr f B a S) (X0r f B z) d n
  | 0, n, hr => by
    have hx := h.X z
    obtain ⟨r1, rfl⟩ := hr
    exact ⟨_, h.cd_ hx, by rw [hx.2.2.2]; exact r1, rfl⟩
  | d + 1, n, hr => by
    obtain ⟨p, hp, i, hi, hs, rfl⟩ := hr
    obtain ⟨p', e, hp'⟩ := GE.R' h d p hp
    have ht := h.T (S := S) e i
    exact ⟨_, h.cd_ ht, p', hp', i, hi, by rw [ht.2.2.2]; exact hs, rfl⟩
theorem GE.W (h : GE f f' B B' a a' E) {S : Nat → Int} {z : Int} : ∀ (d : Nat), Win (TTr f B a S) (X0r f B z) d ↔ Win (TTr f' B' a' S) (X0r f' B' z) d
  | 0 => by
    have hx := h.X z
    show _ = _ ↔ _ = _
    rw [hx.2.2.2]
  | d + 1 => by
    constructor
    · rintro ⟨p, hp, i, hi, hs⟩
      obtain ⟨p', e, hp'⟩ := h.R d p hp
      exact ⟨p', hp', i, hi, by rw [← (h.T (S := S) e i).2.2.2]; exact hs⟩
    · rintro ⟨p, hp, i, hi, hs⟩
      obtain ⟨p', e, hp'⟩ := h.R' d p hp
      exact ⟨p', hp', i, hi, by rw [(h.T (S := S) e i).2.2.2]; exact hs⟩
theorem GE.F (h : GE f f' B B' a a' E) {S : Nat → Int} {z r : Int} : Found (TTr f B a S) (X0r f B z) r ↔ Found (TTr f' B' a' S) (X0r f' B' z) r := by
  have hw := fun d => h.W (S := S) (z := z) d
  constructor
  · rintro (⟨h1, h2⟩ | ⟨d, h1, h2, h3⟩)
    · exact Or.inl ⟨h1, fun d y => h2 d ((hw d).mpr y)⟩
    · exact Or.inr ⟨d, h1, (hw d).mp h2, fun e he y => h3 e he ((hw e).mpr y)⟩
  · rintro (⟨h1, h2⟩ | ⟨d, h1, h2, h3⟩)
    · exact Or.inl ⟨h1, fun d y => h2 d ((hw d).mp y)⟩
    · exact Or.inr ⟨d, h1, (hw d).mpr h2, fun e he y => h3 e he ((hw e).mp y)⟩
theorem GE.S (h : GE f f' B B' a a' E) {S : Nat → Int} {z c : Int} : Seen (TTr f B a S) (X0r f B z) c ↔ Seen (TTr f' B' a' S) (X0r f' B' z) c := by
  have hx := h.X z
  constructor
  · rintro (⟨h1, h2⟩ | ⟨d, p, i, h1, h2, h3, h4⟩)
    · exact Or.inl ⟨by rw [← hx.2.2.2]; exact h1, by rw [← hx.1]; exact h2⟩
    · obtain ⟨p', e, hp'⟩ := h.R d p h1
      have ht := h.T (S := S) e i
      exact Or.inr ⟨d, p', i, hp', h2, by rw [← ht.2.2.2]; exact h3, by rw [← ht.1]; exact h4⟩
  · rintro (⟨h1, h2⟩ | ⟨d, p, i, h1, h2, h3, h4⟩)
    · exact Or.inl ⟨by rw [hx.2.2.2]; exact h1, by rw [hx.1]; exact h2⟩
    · obtain ⟨p', e, hp'⟩ := h.R' d p h1
      have ht := h.T (S := S) e i
      exact Or.inr ⟨d, p', i, hp', h2, by rw [ht.2.2.2]; exact h3, by rw [ht.1]; exact h4⟩
end GEs
/-- the class's grid and the reference's ground of the same cells -/
theorem GW.ge {f q : Nat → Int} {a : Int} (h : GW f q a) {src : Nat → Int} (hs : ∀ z, z < 96 → f z = src z) (g b : Nat → Int) : GE f (lyG src g 96) (kbf f q) (kbr src b) a.toNat (lyA src 96) (EK f q a.toNat) :=
  ⟨fun z hz => (hs z hz).trans (if_pos hz).symm, fun t t' e => by rw [← lyA_c hs]; exact EK.all h e, fun p t t' h0 h1 e => EK.or h hs e h0 h1, fun t t' e => EK.lt h e, EK.z⟩
/-- a search of the class answers as the reference's -/
theorem GW.found {f q : Nat → Int} {a : Int} (h : GW f q a) {m : CS} {src S : Nat → Int} (hs : ∀ z, z < 96 → f z = src z) (hS : m 1 0 = S) {z r s : Int} (h1 : Found (TT f q a.toNat S) (X0 f q z) r) (h2 : FdR m src z s) : r = s := by
  have h3 := (h.ge hs (m 28 0) (m 29 0)).F (S := S) (z := z) (r := r)
  unfold FdR at h2
  rw [hS] at h2
  exact Found.uniq (h3.mp h1) h2
theorem GW.seen {f q : Nat → Int} {a : Int} (h : GW f q a) {m : CS} {src S : Nat → Int} (hs : ∀ z, z < 96 → f z = src z) (hS : m 1 0 = S) {z c : Int} : Seen (TT f q a.toNat S) (X0 f q z) c ↔ SnR m src z c := by
  have h3 := (h.ge hs (m 28 0) (m 29 0)).S (S := S) (z := z) (c := c)
  unfold SnR
  rw [hS]
  exact h3
theorem GW.mv_ {f q : Nat → Int} {a : Int} (h : GW f q a) {m : CS} {src S : Nat → Int} (hs : ∀ z, z < 96 → f z = src z) (hS : m 1 0 = S) {t t' : Nat} (e : EK f q a.toNat t t') {i c v : Int} : XF (EK f q a.toNat) (mv f (kbf f q) a.toNat S i c v t) (mv (lyG src (m 28 0) 96) (kbr src (m 29 0)) (lyA src 96) (m 1 0) i c v t') := by
  rw [hS]
  exact (h.ge hs (m 28 0) (m 29 0)).mv_ e
theorem GW.x0 {f q : Nat → Int} {a : Int} (h : GW f q a) {m : CS} {src : Nat → Int} (hs : ∀ z, z < 96 → f z = src z) (z : Int) : XF (EK f q a.toNat) (X0 f q z) (X0r (lyG src (m 28 0) 96) (kbr src (m 29 0)) z) :=
  (h.ge hs (m 28 0) (m 29 0)).X z


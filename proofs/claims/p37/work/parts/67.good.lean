/-! ===== a body has taken the keys where it is ===== -/
theorem or_g {t a : Nat} : t ||| a ||| a = t ||| a := by rw [Nat.or_assoc, Nat.or_self]
def Gx (B : Int → Nat) (x : Int × Nat × Int) : Prop := x.2.1 ||| B x.1 = x.2.1
theorem cm_g {f : Nat → Int} {B : Int → Nat} {p : Int} {x : Int × Nat × Int} (h : Gx B x) : Gx B (cm f B p x) := by
  unfold cm
  split
  · exact or_g
  · exact h
theorem sd_g {f : Nat → Int} {B : Int → Nat} {al : Nat} {d : Int} {x : Int × Nat × Int} (h : Gx B x) : Gx B (sd f B al d x) := by
  unfold sd
  split
  · exact cm_g h
  · exact h
theorem vt_g {f : Nat → Int} {B : Int → Nat} {al : Nat} {S : Nat → Int} {w v : Int} : ∀ (n : Nat) (x : Int × Nat × Int), Gx B x → (vt f B al S w v n x).2.2.1 ||| B (vt f B al S w v n x).1 = (vt f B al S w v n x).2.2.1
  | 0, x, h => h
  | n + 1, x, h => by
    unfold vt
    split
    · exact h
    · split
      · exact vt_g n _ (cm_g h)
      · exact cm_g (f := f) (p := x.1 + w) h
theorem mv_g {f : Nat → Int} {B : Int → Nat} {al : Nat} {S : Nat → Int} {inp c v : Int} {t : Nat} (h : t ||| B c = t) : (mv f B al S inp c v t).2.2.1 ||| B (mv f B al S inp c v t).1 = (mv f B al S inp c v t).2.2.1 := by
  have h1 : Gx B (c, t, (1 : Int)) := h
  unfold mv
  split
  · exact vt_g _ _ (sd_g h1)
  · exact sd_g (f := f) (al := al) (d := inp % 3 - 1) h1
theorem GB_of {f : Nat → Int} {x : B4} (hx : bOK x) (h : x.2.2.1 ||| kbr f (fun _ => 0) x.1 = x.2.2.1) : GB f (cd x) := by
  obtain ⟨h1, h2, h3, h4, h5, h6, h7⟩ := hx
  have hcd : cd x = 64 * x.1.toNat + 8 * (x.2.1 + 4).toNat + x.2.2.1 := rfl
  unfold GB
  rw [show cd x % 8 = x.2.2.1 by omega, show ((cd x / 64 : Nat) : Int) = x.1 by omega]
  exact h
theorem Rch_g {f : Nat → Int} {al : Nat} {S : Nat → Int} {x0 : B4} (hA : lyA f 96 ≤ 7) (hS : ∀ j, 0 ≤ S j ∧ S j ≤ 4) (h0 : bOK x0) (hg : x0.2.2.1 ||| kbr f (fun _ => 0) x0.1 = x0.2.2.1) : ∀ {d n : Nat}, Rch (TTr f (kbr f (fun _ => 0)) al S) x0 d n → GB f n
  | 0, n, h => by rw [h.2]; exact GB_of h0 hg
  | d + 1, n, h => by
    have hT := TTr_ok (f := f) (B := kbr f (fun _ => 0)) (al := al) (S := S) (kbr_8 hA) hS
    obtain ⟨p, h1, i, h2, h3, h4⟩ := h
    have hp := Rch_g hA hS h0 hg h1
    have hp2 := Rch_lt hT h0 h1
    rw [h4]
    refine GB_of (hT p hp2 i h2).1 ?_
    exact mv_g hp
theorem X0_e {f : Nat → Int} {B : Int → Nat} {z : Int} (hz : 0 ≤ z ∧ z < 96) : X0r f B z = (z, 0, B z, if f z.toNat = 4 then 3 else if f z.toNat = 5 then 2 else 1) := by
  unfold X0r
  rw [cm_in hz]
  show (z, (0 : Int), 0 ||| B z, _) = _
  rw [Nat.zero_or]
theorem X0_enc {f : Nat → Int} {B : Int → Nat} {z : Int} (hz : 0 ≤ z ∧ z < 96) : encB (X0r f B z) = z + 512 + 1024 * ((B z : Nat) : Int) + (if f z.toNat = 4 then 32768 else if f z.toNat = 5 then 16384 else 0) := by
  rw [X0_e hz]
  show z + 128 * (0 + 4) + 1024 * ((B z : Nat) : Int) + stK _ = _
  rw [stK_of stK_if]
  omega
theorem X0_g {f : Nat → Int} {z : Int} (hz : 0 ≤ z ∧ z < 96) : (X0r f (kbr f (fun _ => 0)) z).2.2.1 ||| kbr f (fun _ => 0) (X0r f (kbr f (fun _ => 0)) z).1 = (X0r f (kbr f (fun _ => 0)) z).2.2.1 := by
  rw [X0_e hz]
  exact Nat.or_self _
theorem Rch_no {T : Nat → Nat → B4} {x0 : B4} (h : x0.2.2.2 ≠ 1) : ∀ {d n : Nat}, ¬ Rch T x0 d n
  | 0, _, hr => h hr.1
  | d + 1, n, hr => by
    obtain ⟨p, h1, _⟩ := hr
    exact Rch_no h h1
theorem FS_lost {T : Nat → Nat → B4} {x0 : B4} (h : x0.2.2.2 = 3) : Found T x0 (-1) ∧ ∀ z, ¬ Seen T x0 z := by
  refine ⟨Or.inl ⟨rfl, fun d hd => ?_⟩, fun z hz => ?_⟩
  · cases d with
    | zero => have h2 : x0.2.2.2 = 2 := hd
              omega
    | succ d => obtain ⟨p, h1, _⟩ := hd
                exact Rch_no (by omega) h1
  · rcases hz with ⟨h1, _⟩ | ⟨d, p, i, h1, _⟩
    · exact h1 h
    · exact Rch_no (by omega) h1
theorem FS_won {T : Nat → Nat → B4} {x0 : B4} (h : x0.2.2.2 = 2) : Found T x0 0 ∧ ∀ z, (Seen T x0 z ↔ z = x0.1) := by
  refine ⟨Or.inr ⟨0, rfl, h, fun e he => absurd he (Nat.not_lt_zero _)⟩, fun z => ⟨?_, fun q => Or.inl ⟨by omega, q⟩⟩⟩
  rintro (⟨_, h1⟩ | ⟨d, p, i, h1, _⟩)
  · exact h1
  · exact absurd h1 (Rch_no (by omega))
theorem Ms_0 {m : Nat → Int64} {z : Nat} (hz : z < 96) : ¬ Ms (vp_updL (vp_updL m 0 0) 1 0) z := by
  unfold Ms
  rcases (show z / 48 = 0 ∨ z / 48 = 1 by omega) with q | q
  · rw [q, uL_n (by decide), uL_s, lb_0]; decide
  · rw [q, uL_s, lb_0]; decide
theorem Ms_1 {m : Nat → Int64} {z z' : Nat} (hz : z < 96) (hz' : z' < 96) : Ms (vp_updL (vp_updL (vp_updL m 0 0) 1 0) (z / 48) (lsl 1 ((z % 48 : Nat) : Int))) z' ↔ z' = z := by
  by_cases q : z' / 48 = z / 48
  · unfold Ms
    rw [q, uL_s, lb_bit (by omega), decide_eq_true_eq]
    omega
  · have h0 := Ms_0 (m := m) hz'
    unfold Ms at h0 ⊢
    rw [uL_n q]
    exact ⟨fun z9 => absurd z9 h0, fun z9 => by omega⟩
theorem g2_old {P : Nat → Prop} {k : Nat} {g2 : Int} (h : (g2 = 0 ∨ g2 = 1) ∧ (g2 = 1 ↔ ∃ j, j < k ∧ P j)) (hn : ¬ g2 = 0) : ((1 : Int) = 0 ∨ (1 : Int) = 1) ∧ ((1 : Int) = 1 ↔ ∃ j, j < k + 1 ∧ P j) := by
  refine ⟨Or.inr rfl, fun _ => ?_, fun _ => rfl⟩
  obtain ⟨j, h1, h2⟩ := h.2.mp (h.1.resolve_left hn)
  exact ⟨j, by omega, h2⟩
theorem g2_new {P : Nat → Prop} {k : Nat} (hp : P k) : ((1 : Int) = 0 ∨ (1 : Int) = 1) ∧ ((1 : Int) = 1 ↔ ∃ j, j < k + 1 ∧ P j) := ⟨Or.inr rfl, fun _ => ⟨k, by omega, hp⟩, fun _ => rfl⟩
theorem g2_no {P : Nat → Prop} {k : Nat} {g2 : Int} (h : (g2 = 0 ∨ g2 = 1) ∧ (g2 = 1 ↔ ∃ j, j < k ∧ P j)) (hn : g2 = 0) (hp : ¬ P k) : ((0 : Int) = 0 ∨ (0 : Int) = 1) ∧ ((0 : Int) = 1 ↔ ∃ j, j < k + 1 ∧ P j) := by
  refine ⟨Or.inl rfl, fun z => absurd z (by decide), fun ⟨j, h1, h2⟩ => ?_⟩
  by_cases q : j = k
  · subst q; exact absurd h2 hp
  · have := h.2.mpr ⟨j, by omega, h2⟩
    omega
theorem g2_fin {a b e f : Nat → Int64} (hC : Cl e f) {g2 : Int} (h : (g2 = 0 ∨ g2 = 1) ∧ (g2 = 1 ↔ ∃ j, j < 64 ∧ (e j &&& (a j ^^^ (-1)) ≠ 0 ∨ f j &&& (b j ^^^ (-1)) ≠ 0))) : (g2 = 0 ∧ ∀ n, n < 6144 → ¬ (Mk e f n ∧ ¬ Mk a b n)) ∨ (g2 = 1 ∧ ∃ n, n < 6144 ∧ Mk e f n ∧ ¬ Mk a b n) := by
  by_cases q : ∃ n, n < 6144 ∧ Mk e f n ∧ ¬ Mk a b n
  · obtain ⟨n, h1, h2⟩ := id q
    exact Or.inr ⟨h.2.mpr ⟨n % 64, by omega, (nz_mk hC (by omega)).mpr ⟨n, h1, rfl, h2⟩⟩, q⟩
  · refine Or.inl ⟨h.1.resolve_right (fun z => ?_), fun n h1 h2 => q ⟨n, h1, h2⟩⟩
    obtain ⟨j, h1, h2⟩ := h.2.mp z
    obtain ⟨n, h3, _, h4⟩ := (nz_mk hC h1).mp h2
    exact q ⟨n, h3, h4⟩
theorem cnt_step {a b a2 b2 e f : Nat → Int64} (ha : ∀ n, n < 6144 → (Mk a2 b2 n ↔ Mk a b n ∨ Mk e f n)) (h : ∃ n, n < 6144 ∧ Mk e f n ∧ ¬ Mk a b n) : cntM (Mk a b) 6144 + 1 ≤ cntM (Mk a2 b2) 6144 := by
  obtain ⟨n, h1, h2, h3⟩ := h
  exact cntM_lt (fun j hj q => (ha j hj).mpr (Or.inl q)) h1 h3 ((ha n h1).mpr (Or.inr h2))
/-- what the law's search leaves -/
def SRp (D : va_G) (aA bA cA dA eA fA mA : Nat) (h : vh) (T : Nat → Nat → B4) (x0 : B4) : Option Value → vh → Prop := fun rv h' =>
  ∃ (a1 b1 c1 d1 e1 f1 m1 : Nat → Int64) (w1 : Int), rv = some (vI w1) ∧ (h' aA = some (eJ D 64 a1) ∧ h' bA = some (eJ D 64 b1) ∧ h' cA = some (eJ D 64 c1) ∧ h' dA = some (eJ D 64 d1) ∧ h' eA = some (eJ D 64 e1) ∧ h' fA = some (eJ D 64 f1) ∧ h' mA = some (eJ D 2 m1)) ∧
  (∀ q, q ≠ aA → q ≠ bA → q ≠ cA → q ≠ dA → q ≠ eA → q ≠ fA → q ≠ mA → h' q = h q) ∧ (-1 ≤ w1 ∧ w1 ≤ 6145) ∧ Found T x0 w1 ∧ ∀ z : Nat, z < 96 → (Ms m1 z ↔ Seen T x0 z)
theorem x_toplv {κ : KX} {n1 n2 : Nat} {h : vh} {ls : List (Nat × Value)} {pc : Nat} {st : List Value} {z y : Int64} (e : z = y) (kk : X κ n1 n2 h ls pc (.long y :: st)) : X κ n1 n2 h ls pc (.long z :: st) := e ▸ kk

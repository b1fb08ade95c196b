def bM (m : CS) (c v : Int) (t : Nat) (s : Int) : CS := cu m 0 0 (fu (fu (fu (fu (m 0 0) 31 c) 32 v) 33 ((t : Nat) : Int)) 34 s)
theorem fu4 {f : Nat → Int} {a b c d a' b' c' d' : Int} : fu (fu (fu (fu (fu (fu (fu (fu f 31 a) 32 b) 33 c) 34 d) 31 a') 32 b') 33 c') 34 d' = fu (fu (fu (fu f 31 a') 32 b') 33 c') 34 d' := by
  funext j
  unfold fu
  by_cases h1 : j = 34
  · simp only [if_pos h1]
  · by_cases h2 : j = 33
    · simp only [if_neg h1, if_pos h2]
    · by_cases h3 : j = 32
      · simp only [if_neg h1, if_neg h2, if_pos h3]
      · by_cases h4 : j = 31
        · simp only [if_neg h1, if_neg h2, if_neg h3, if_pos h4]
        · simp only [if_neg h1, if_neg h2, if_neg h3, if_neg h4]
theorem bM_up {m : CS} {a b a' b' : Int} {c c' : Nat} {d d' : Int} : cu (bM m a b c d) 0 0 (fu (fu (fu (fu (bM m a b c d 0 0) 31 a') 32 b') 33 ((c' : Nat) : Int)) 34 d') = bM m a' b' c' d' := by
  rw [show bM m a b c d 0 0 = fu (fu (fu (fu (m 0 0) 31 a) 32 b) 33 ((c : Nat) : Int)) 34 d from cu_s, fu4]
  unfold bM
  rw [cu_u]
theorem bM_bd {m : CS} {a b : Int} {c : Nat} {d : Int} {x : Int × Nat × Int} : bdM (bM m a b c d) x = bM m x.1 b x.2.1 x.2.2 := by
  unfold bdM
  have e : fu (fu (fu (bM m a b c d 0 0) 31 x.1) 33 ((x.2.1 : Nat) : Int)) 34 x.2.2 = fu (fu (fu (fu (bM m a b c d 0 0) 31 x.1) 32 b) 33 ((x.2.1 : Nat) : Int)) 34 x.2.2 := by
    have h32 : bM m a b c d 0 0 32 = b := rfl
    funext j
    unfold fu
    by_cases h1 : j = 34
    · simp only [if_pos h1]
    · by_cases h2 : j = 33
      · simp only [if_neg h1, if_pos h2]
      · by_cases h3 : j = 32
        · simp only [if_neg h1, if_neg h2, if_pos h3]
          rw [h3, if_neg (by decide)]; exact h32
        · simp only [if_neg h1, if_neg h2, if_neg h3]
  rw [e]; exact bM_up
theorem bM_32 {m : CS} {v : Int} (h33 : 0 ≤ m 0 0 33) (h34 : m 0 0 34 = 1) : cu m 0 0 (fu (m 0 0) 32 v) = bM m (m 0 0 31) v (m 0 0 33).toNat 1 := by
  unfold bM
  have e : fu (m 0 0) 32 v = fu (fu (fu (fu (m 0 0) 31 (m 0 0 31)) 32 v) 33 (((m 0 0 33).toNat : Nat) : Int)) 34 1 := by
    funext j
    unfold fu
    by_cases h1 : j = 34
    · rw [if_pos h1, if_neg (by omega), h1]; exact h34
    · rw [if_neg h1]
      by_cases h2 : j = 33
      · rw [if_pos h2, if_neg (by omega), h2]; omega
      · rw [if_neg h2]
        by_cases h3 : j = 32
        · rw [if_pos h3, if_pos h3]
        · rw [if_neg h3, if_neg h3]
          by_cases h4 : j = 31
          · rw [if_pos h4, h4]
          · rw [if_neg h4]
  rw [e]
theorem bM_0 {m : CS} (h33 : 0 ≤ m 0 0 33) (h34 : m 0 0 34 = 1) : m = bM m (m 0 0 31) (m 0 0 32) (m 0 0 33).toNat 1 := by
  rw [← bM_32 h33 h34]
  funext k i
  by_cases q : k = 0 ∧ i = 0
  · simp only [cu, if_pos q]
    rw [q.1, q.2]
    funext j
    unfold fu
    by_cases h : j = 32
    · rw [if_pos h, h]
    · rw [if_neg h]
  · simp only [cu, if_neg q]
def mvM (m : CS) (x : Int × Int × Nat × Int) : CS := bM m x.1 x.2.1 x.2.2.1 x.2.2.2
theorem sol_in {f : Nat → Int} {al t : Nat} {p : Int} (h : sol f al t p) (h0 : 0 ≤ p) : p < 96 ∧ kAt f p = f p.toNat := by
  by_cases q : p < 96
  · exact ⟨q, if_pos ⟨h0, q⟩⟩
  · exfalso
    have hk : kAt f p = 0 := if_neg (by omega)
    unfold sol at h
    rw [hk] at h
    omega
theorem sol_lo {f : Nat → Int} {al t : Nat} {p : Int} (h : ¬ sol f al t p) : 0 ≤ p := by
  unfold sol at h; omega

/-- the loop of the steps up or down: n are left, st tells a stop -/
def LVI (F9 : Int × Int × Nat × Int) (f : Nat → Int) (B : Int → Nat) (al : Nat) (S : Nat → Int) (w v : Int) (n : Nat) (c : Int) (t : Nat) (s st : Int) : Prop := (st = 0 ∧ s = 1 ∧ F9 = vt f B al S w v n (c, t, s)) ∨ (st = 0 ∧ s ≠ 1 ∧ F9 = (c, v, t, s)) ∨ (st = 1 ∧ s = 1 ∧ sol f al t (c + w) ∧ F9 = (c, if w < 0 then 0 else - strK S (kAt f (c + w)), t, s))
section LVIs
variable {F9 : Int × Int × Nat × Int} {f : Nat → Int} {B : Int → Nat} {al : Nat} {S : Nat → Int} {w v c : Int} {n t : Nat} {s st : Int}
theorem LVI.r (h : LVI F9 f B al S w v n c t s st) : 0 ≤ st ∧ st ≤ 1 ∧ (st ≠ 0 → s = 1) := by
  rcases h with ⟨i1, i2, i3⟩ | ⟨i1, i2, i3⟩ | ⟨i1, i2, i3, i4⟩ <;> omega
theorem LVI.lost (h : LVI F9 f B al S w v n c t s st) (hs : s ≠ 1) : F9 = (c, v, t, s) := by
  rcases h with ⟨i1, i2, i3⟩ | ⟨i1, i2, i3⟩ | ⟨i1, i2, i3, i4⟩
  · exact absurd i2 hs
  · exact i3
  · exact absurd i2 hs
theorem LVI.fin (h : LVI F9 f B al S w v n c t s st) (hst : st = 0) (hs : s = 1) (hn : n = 0) : F9 = (c, if v < 3 then v + 1 else 3, t, s) := by
  subst hn
  rcases h with ⟨i1, i2, i3⟩ | ⟨i1, i2, i3⟩ | ⟨i1, i2, i3, i4⟩
  · exact i3
  · exact absurd hs i2
  · exfalso; omega
theorem LVI.stp (h : LVI F9 f B al S w v n c t s st) (hst : st ≠ 0) : sol f al t (c + w) ∧ F9 = (c, if w < 0 then 0 else - strK S (kAt f (c + w)), t, s) := by
  rcases h with ⟨i1, i2, i3⟩ | ⟨i1, i2, i3⟩ | ⟨i1, i2, i3, i4⟩
  · exact absurd i1 hst
  · exact absurd i1 hst
  · exact ⟨i3, i4⟩
theorem LVI.move (h : LVI F9 f B al S w v n c t s st) (hst : st = 0) (hs : s = 1) (hn : 0 < n) (hns : ¬ sol f al t (c + w)) : LVI F9 f B al S w v (n - 1) (cm f B (c + w) (c, t, 1)).1 (cm f B (c + w) (c, t, 1)).2.1 (cm f B (c + w) (c, t, 1)).2.2 0 := by
  obtain ⟨n9, rfl⟩ : ∃ n9, n = n9 + 1 := ⟨n - 1, by omega⟩
  subst hs
  have hvt : vt f B al S w v (n9 + 1) (c, t, 1) = if (cm f B (c + w) (c, t, 1)).2.2 = 1 then vt f B al S w v n9 (cm f B (c + w) (c, t, 1)) else ((cm f B (c + w) (c, t, 1)).1, v, (cm f B (c + w) (c, t, 1)).2.1, (cm f B (c + w) (c, t, 1)).2.2) := if_neg hns
  rcases h with ⟨i1, i2, i3⟩ | ⟨i1, i2, i3⟩ | ⟨i1, i2, i3, i4⟩
  · by_cases q : (cm f B (c + w) (c, t, 1)).2.2 = 1
    · rw [if_pos q] at hvt; exact Or.inl ⟨rfl, q, i3.trans hvt⟩
    · rw [if_neg q] at hvt; exact Or.inr (Or.inl ⟨rfl, q, i3.trans hvt⟩)
  · exact absurd rfl i2
  · exfalso; omega
theorem LVI.stop (h : LVI F9 f B al S w v n c t s st) (hst : st = 0) (hs : s = 1) (hn : 0 < n) (hso : sol f al t (c + w)) : LVI F9 f B al S w v (n - 1) c t s 1 := by
  obtain ⟨n9, rfl⟩ : ∃ n9, n = n9 + 1 := ⟨n - 1, by omega⟩
  have hvt : vt f B al S w v (n9 + 1) (c, t, s) = (c, if w < 0 then 0 else - strK S (kAt f (c + w)), t, s) := if_pos hso
  rcases h with ⟨i1, i2, i3⟩ | ⟨i1, i2, i3⟩ | ⟨i1, i2, i3, i4⟩
  · exact Or.inr (Or.inr ⟨rfl, hs, hso, i3.trans hvt⟩)
  · exact absurd hs i2
  · exfalso; omega
theorem LVI.up (h : LVI F9 f B al S w v n c t s st) (hst : st ≠ 0) (hw : w < 0) : F9 = (c, 0, t, s) := by
  rw [(h.stp hst).2, if_pos hw]
theorem LVI.spr (h : LVI F9 f B al S w v n c t s st) (hst : st ≠ 0) (hw : w = 12) (hc : 0 ≤ c) (hf : ∀ j, 0 ≤ f j ∧ f j ≤ 8) (hk : 6 ≤ f (c + 12).toNat) : F9 = (c, - S (f (c + 12).toNat - 6).toNat, t, s) := by
  subst hw
  have h1 := h.stp hst
  have h2 := sol_in h1.1 (by omega)
  have h3 := hf (c + 12).toNat
  rw [h1.2, if_neg (by decide), h2.2]
  unfold strK
  rw [if_pos ⟨hk, by omega⟩]
theorem LVI.flat (h : LVI F9 f B al S w v n c t s st) (hst : st ≠ 0) (hw : w = 12) (hc : 0 ≤ c) (hk : ¬ 6 ≤ f (c + 12).toNat) : F9 = (c, 0, t, s) := by
  subst hw
  have h1 := h.stp hst
  have h2 := sol_in h1.1 (by omega)
  rw [h1.2, if_neg (by decide), h2.2]
  unfold strK
  rw [if_neg (fun z => hk z.1)]
  rfl
end LVIs


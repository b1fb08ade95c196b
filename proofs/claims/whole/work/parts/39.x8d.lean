def bM (m : CS) (c v : Int) (t : Nat) (s : Int) : CS := cu m 0 0 (fu (fu (fu (fu (m 0 0) 31 c) 32 v) 33 ((t : Nat) : Int)) 34 s)
theorem fu4 {f : Nat → Int} {a b c d a' b' c' d' : Int} : fu (fu (fu (fu (fu (fu (fu (fu f 31 a) 32 b) 33 c) 34 d) 31 a') 32 b') 33 c') 34 d' = fu (fu (fu (fu f 31 a') 32 b') 33 c') 34 d' := by
  funext j
  unfold fu
  by_cases h1 : j = 34
  · simp only [if_pos h1]
  · by_cases h2 : j = 33
    · simp only [if_neg h1, if_pos h2]
    · by_cases h3 : j = 32
      · simp only [if_neg h1, if_neg h2, if_pos h3]
      · by_cases h4 : j = 31
        · simp only [if_neg h1, if_neg h2, if_neg h3, if_pos h4]
        · simp only [if_neg h1, if_neg h2, if_neg h3, if_neg h4]
theorem bM_up {m : CS} {a b a' b' : Int} {c c' : Nat} {d d' : Int} : cu (bM m a b c d) 0 0 (fu (fu (fu (fu (bM m a b c d 0 0) 31 a') 32 b') 33 ((c' : Nat) : Int)) 34 d') = bM m a' b' c' d' := by
  rw [show bM m a b c d 0 0 = fu (fu (fu (fu (m 0 0) 31 a) 32 b) 33 ((c : Nat) : Int)) 34 d from cu_s, fu4]
  unfold bM
  rw [cu_u]
theorem bM_bd {m : CS} {a b : Int} {c : Nat} {d : Int} {x : Int × Nat × Int} : bdM (bM m a b c d) x = bM m x.1 b x.2.1 x.2.2 := by
  unfold bdM
  have e : fu (fu (fu (bM m a b c d 0 0) 31 x.1) 33 ((x.2.1 : Nat) : Int)) 34 x.2.2 = fu (fu (fu (fu (bM m a b c d 0 0) 31 x.1) 32 b) 33 ((x.2.1 : Nat) : Int)) 34 x.2.2 := by
    have h32 : bM m a b c d 0 0 32 = b := rfl
    funext j
    unfold fu
    by_cases h1 : j = 34
    · simp only [if_pos h1]
    · by_cases h2 : j = 33
      · simp only [if_neg h1, if_pos h2]
      · by_cases h3 : j = 32
        · simp only [if_neg h1, if_neg h2, if_pos h3]
          rw [h3, if_neg (by decide)]; exact h32
        · simp only [if_neg h1, if_neg h2, if_neg h3]
  rw [e]; exact bM_up
theorem bM_32 {m : CS} {v : Int} (h33 : 0 ≤ m 0 0 33) (h34 : m 0 0 34 = 1) : cu m 0 0 (fu (m 0 0) 32 v) = bM m (m 0 0 31) v (m 0 0 33).toNat 1 := by
  unfold bM
  have e : fu (m 0 0) 32 v = fu (fu (fu (fu (m 0 0) 31 (m 0 0 31)) 32 v) 33 (((m 0 0 33).toNat : Nat) : Int)) 34 1 := by
    funext j
    unfold fu
    by_cases h1 : j = 34
    · rw [if_pos h1, if_neg (by omega), h1]; exact h34
    · rw [if_neg h1]
      by_cases h2 : j = 33
      · rw [if_pos h2, if_neg (by omega), h2]; omega
      · rw [if_neg h2]
        by_cases h3 : j = 32
        · rw [if_pos h3, if_pos h3]
        · rw [if_neg h3, if_neg h3]
          by_cases h4 : j = 31
          · rw [if_pos h4, h4]
          · rw [if_neg h4]
  rw [e]
theorem bM_0 {m : CS} (h33 : 0 ≤ m 0 0 33) (h34 : m 0 0 34 = 1) : m = bM m (m 0 0 31) (m 0 0 32) (m 0 0 33).toNat 1 := by
  rw [← bM_32 h33 h34]
  funext k i
  by_cases q : k = 0 ∧ i = 0
  · simp only [cu, if_pos q]
    rw [q.1, q.2]
    funext j
    unfold fu
    by_cases h : j = 32
    · rw [if_pos h, h]
    · rw [if_neg h]
  · simp only [cu, if_neg q]
def mvM (m : CS) (x : Int × Int × Nat × Int) : CS := bM m x.1 x.2.1 x.2.2.1 x.2.2.2
theorem mv_end {D : va_G} {am : AD} {h h' : vh} {m : CS} {F M : Int × Int × Nat × Int} {c v : Int} {t : Nat} {s : Int} (hF : F = M) (hv : F = (c, v, t, s)) (q : MP D am h (bM m c v t s) h') : MP D am h (mvM m M) h' := by
  rw [← hF, hv]; exact q
theorem sol_in {f : Nat → Int} {al t : Nat} {p : Int} (h : sol f al t p) (h0 : 0 ≤ p) : p < 96 ∧ kAt f p = f p.toNat := by
  by_cases q : p < 96
  · exact ⟨q, if_pos ⟨h0, q⟩⟩
  · exfalso
    have hk : kAt f p = 0 := if_neg (by omega)
    unfold sol at h
    rw [hk] at h
    omega
theorem sol_lo {f : Nat → Int} {al t : Nat} {p : Int} (h : ¬ sol f al t p) : 0 ≤ p := by
  unfold sol at h; omega

/-- the loop of the steps up or down: n are left, st tells a stop -/
def LVI (F9 : Int × Int × Nat × Int) (f : Nat → Int) (B : Int → Nat) (al : Nat) (S : Nat → Int) (w v : Int) (n : Nat) (c : Int) (t : Nat) (s st : Int) : Prop := (st = 0 ∧ s = 1 ∧ F9 = vt f B al S w v n (c, t, s)) ∨ (st = 0 ∧ s ≠ 1 ∧ F9 = (c, v, t, s)) ∨ (st = 1 ∧ s = 1 ∧ sol f al t (c + w) ∧ F9 = (c, if w < 0 then 0 else - strK S (kAt f (c + w)), t, s))
section LVIs
variable {F9 : Int × Int × Nat × Int} {f : Nat → Int} {B : Int → Nat} {al : Nat} {S : Nat → Int} {w v c : Int} {n t : Nat} {s st : Int}
theorem LVI.r (h : LVI F9 f B al S w v n c t s st) : 0 ≤ st ∧ st ≤ 1 ∧ (st ≠ 0 → s = 1) := by
  rcases h with ⟨i1, i2, i3⟩ | ⟨i1, i2, i3⟩ | ⟨i1, i2, i3, i4⟩ <;> omega
theorem LVI.lost (h : LVI F9 f B al S w v n c t s st) (hs : s ≠ 1) : F9 = (c, v, t, s) := by
  rcases h with ⟨i1, i2, i3⟩ | ⟨i1, i2, i3⟩ | ⟨i1, i2, i3, i4⟩
  · exact absurd i2 hs
  · exact i3
  · exact absurd i2 hs
theorem LVI.fin (h : LVI F9 f B al S w v n c t s st) (hst : st = 0) (hs : s = 1) (hn : n = 0) : F9 = (c, if v < 3 then v + 1 else 3, t, s) := by
  subst hn
  rcases h with ⟨i1, i2, i3⟩ | ⟨i1, i2, i3⟩ | ⟨i1, i2, i3, i4⟩
  · exact i3
  · exact absurd hs i2
  · exfalso; omega
theorem LVI.stp (h : LVI F9 f B al S w v n c t s st) (hst : st ≠ 0) : sol f al t (c + w) ∧ F9 = (c, if w < 0 then 0 else - strK S (kAt f (c + w)), t, s) := by
  rcases h with ⟨i1, i2, i3⟩ | ⟨i1, i2, i3⟩ | ⟨i1, i2, i3, i4⟩
  · exact absurd i1 hst
  · exact absurd i1 hst
  · exact ⟨i3, i4⟩
theorem LVI.move (h : LVI F9 f B al S w v n c t s st) (hst : st = 0) (hs : s = 1) (hn : 0 < n) (hns : ¬ sol f al t (c + w)) : LVI F9 f B al S w v (n - 1) (cm f B (c + w) (c, t, 1)).1 (cm f B (c + w) (c, t, 1)).2.1 (cm f B (c + w) (c, t, 1)).2.2 0 := by
  obtain ⟨n9, rfl⟩ : ∃ n9, n = n9 + 1 := ⟨n - 1, by omega⟩
  subst hs
  have hvt : vt f B al S w v (n9 + 1) (c, t, 1) = if (cm f B (c + w) (c, t, 1)).2.2 = 1 then vt f B al S w v n9 (cm f B (c + w) (c, t, 1)) else ((cm f B (c + w) (c, t, 1)).1, v, (cm f B (c + w) (c, t, 1)).2.1, (cm f B (c + w) (c, t, 1)).2.2) := if_neg hns
  rcases h with ⟨i1, i2, i3⟩ | ⟨i1, i2, i3⟩ | ⟨i1, i2, i3, i4⟩
  · by_cases q : (cm f B (c + w) (c, t, 1)).2.2 = 1
    · rw [if_pos q] at hvt; exact Or.inl ⟨rfl, q, i3.trans hvt⟩
    · rw [if_neg q] at hvt; exact Or.inr (Or.inl ⟨rfl, q, i3.trans hvt⟩)
  · exact absurd rfl i2
  · exfalso; omega
theorem LVI.stop (h : LVI F9 f B al S w v n c t s st) (hst : st = 0) (hs : s = 1) (hn : 0 < n) (hso : sol f al t (c + w)) : LVI F9 f B al S w v (n - 1) c t s 1 := by
  obtain ⟨n9, rfl⟩ : ∃ n9, n = n9 + 1 := ⟨n - 1, by omega⟩
  have hvt : vt f B al S w v (n9 + 1) (c, t, s) = (c, if w < 0 then 0 else - strK S (kAt f (c + w)), t, s) := if_pos hso
  rcases h with ⟨i1, i2, i3⟩ | ⟨i1, i2, i3⟩ | ⟨i1, i2, i3, i4⟩
  · exact Or.inr (Or.inr ⟨rfl, hs, hso, i3.trans hvt⟩)
  · exact absurd hs i2
  · exfalso; omega
theorem LVI.up (h : LVI F9 f B al S w v n c t s st) (hst : st ≠ 0) (hw : w < 0) : F9 = (c, 0, t, s) := by
  rw [(h.stp hst).2, if_pos hw]
theorem LVI.spr (h : LVI F9 f B al S w v n c t s st) (hst : st ≠ 0) (hw : w = 12) (hc : 0 ≤ c) (hf : ∀ j, 0 ≤ f j ∧ f j ≤ 8) (hk : 6 ≤ f (c + 12).toNat) : F9 = (c, - S (f (c + 12).toNat - 6).toNat, t, s) := by
  subst hw
  have h1 := h.stp hst
  have h2 := sol_in h1.1 (by omega)
  have h3 := hf (c + 12).toNat
  rw [h1.2, if_neg (by decide), h2.2]
  unfold strK
  rw [if_pos ⟨hk, by omega⟩]
theorem LVI.flat (h : LVI F9 f B al S w v n c t s st) (hst : st ≠ 0) (hw : w = 12) (hc : 0 ≤ c) (hk : ¬ 6 ≤ f (c + 12).toNat) : F9 = (c, 0, t, s) := by
  subst hw
  have h1 := h.stp hst
  have h2 := sol_in h1.1 (by omega)
  rw [h1.2, if_neg (by decide), h2.2]
  unfold strK
  rw [if_neg (fun z => hk z.1)]
  rfl
end LVIs

theorem kX8_moves_0 : Cond.fieldLink "LedgeLevelsModel" 127 "LedgeLevelsModel" "speed" "I" ∈ wsX8_moves := by decide +kernel
theorem kX8_moves_1 : ∀ w ∈ wsX80, w ∈ wsX8_moves := by decide +kernel
theorem kX8_moves_2 : Cond.fieldLink "LedgeLevelsModel" 7 "LedgeLevelsModel" "strength" "[I" ∈ wsX8_moves := by decide +kernel
theorem kX8_moves_3 : Cond.fieldLink "LedgeLevelsModel" 121 "LedgeLevelsModel" "state" "I" ∈ wsX8_moves := by decide +kernel
theorem kX8_moves_4 : Cond.fieldLink "LedgeLevelsModel" 85 "LedgeLevelsModel" "ground" "[I" ∈ wsX8_moves := by decide +kernel
theorem kX8_moves_5 : Cond.fieldLink "LedgeLevelsModel" 124 "LedgeLevelsModel" "cell" "I" ∈ wsX8_moves := by decide +kernel
set_option maxRecDepth 100000 in
set_option maxHeartbeats 4000000 in
theorem c_X8_moves {l : Launch} {D : va_G} {A : Nat → Prop} {h : vh} {am : AD} {m : CS} {z : Int}  (hR : RepM D am m h) (hz : 0 ≤ z ∧ z ≤ 5) (hc : 0 ≤ m 0 0 31 ∧ m 0 0 31 ≤ 95) (hv : -4 ≤ m 0 0 32 ∧ m 0 0 32 ≤ 3) (hG : ∀ j, 0 ≤ m 28 0 j ∧ m 28 0 j ≤ 8) (hKB : ∀ j, 0 ≤ m 29 0 j ∧ m 29 0 j ≤ 7) (ht : 0 ≤ m 0 0 33 ∧ m 0 0 33 < 8) (hal : 0 ≤ m 0 0 30 ∧ m 0 0 30 < 8) (hSS : ∀ j, 0 ≤ m 1 0 j ∧ m 1 0 j ≤ 4) (hs1 : m 0 0 34 = 1) : MX l D A yX8_moves wsX8_moves { frames := 2, cells := 0, slots := 0, locals := 45 } [.ref (am 0 0), vI z] h (fun rv h' => rv = none ∧ MP D am h (mvM m (mv (m 28 0) (KBm m) (m 0 0 30).toNat (m 1 0) z (m 0 0 31) (m 0 0 32) (m 0 0 33).toNat)) h') := by
  refine MX.of (cc := cX8_moves) (maxL := 8) (ret := none) [(0, .ref (am 0 0)), (1, vI z)] (by decide +kernel) rfl rfl (Nat.le_of_ble_eq_true rfl) ?_
  intro κ C hkl G
  subst hkl
  have C : CX κ "LedgeLevelsModel" "moves" cX8_moves wsX8_moves { frames := 2, cells := 0, slots := 0, locals := 45 } D A 8 := C
  have hiz : nq (D.1 20) (D.1 21) := cx_iz C
  have hBr : ∀ p, KBm m p < 8 := fun p => by have := hKB p.toNat; unfold KBm; omega
  have hv9 := sv_r (f := (m 28 0)) (al := (m 0 0 30).toNat) (inp := z) (c := m 0 0 31) (t := (m 0 0 33).toNat) hv
  have hT9 : 0 ≤ (((m 0 0 33).toNat : Nat) : Int) ∧ (((m 0 0 33).toNat : Nat) : Int) < 8 := by omega
  have SPD : ∀ (v1 w9 cB sB by9 st9 be mo : Int) (tB n : Nat) (F9 : Int × Int × Nat × Int) (h1 : vh)   (hvr : -4 ≤ v1 ∧ v1 ≤ 3) (hF9 : F9 = (mv (m 28 0) (KBm m) (m 0 0 30).toNat (m 1 0) z (m 0 0 31) (m 0 0 32) (m 0 0 33).toNat)) (hn8 : n ≤ 4) (hby : (by9 = -1 ∧ v1 < 0) ∨ (by9 = 1 ∧ ¬ v1 < 0)) (hx2 : bX (cB, tB, sB)) (hb2 : b3 (cB, tB, sB)) (hI : LVI F9 (m 28 0) (KBm m) (m 0 0 30).toNat (m 1 0) (12 * by9) v1 n cB tB sB st9) (hcp3 : MP D am h (bM m cB v1 tB sB) h1) (hex : n = 0 ∨ st9 ≠ 0) (hsB : sB = 1) (hbe : 0 ≤ be ∧ be ≤ 8) (hbe2 : (st9 ≠ 0 ∧ by9 = 1 ∧ be = m 28 0 (cB + 12).toNat) ∨ (¬ (st9 ≠ 0 ∧ by9 = 1) ∧ be = 0)) (hmo : mo = if v1 < 3 then v1 + 1 else 3) (hmr : -4 ≤ mo ∧ mo ≤ 4), X κ 0 0 h1 [(0, .ref (am 0 0)), (1, vI z), (2, vI (cB % 12)), (3, vI w9), (4, vI by9), (5, vI st9), (6, vI be), (7, vI mo)] 233 [] := by
    intro v1 w9 cB sB by9 st9 be mo tB n F9 h1 hvr hF9 hn8 hby hx2 hb2 hI hcp3 hex hsB hbe hbe2 hmo hmr
    obtain ⟨y1, y2, y3, y4, y5⟩ := id hx2
    dsimp only at y1 y2 y3 y4 y5
    obtain ⟨k1, k2, _⟩ := hI.r
    clear hv9 hT9 hz hc hv ht hs1
    have f2 : h1 (am 0 0) = some (eO 8 [vI (((bM m cB v1 tB sB) 0 0) 0), .ref (am 1 0), vI (((bM m cB v1 tB sB) 0 0) 2), .ref (am 3 0), .ref (am 4 0), .ref (am 5 0), .ref (am 6 0), .ref (am 7 0), .ref (am 8 0), .ref (am 9 0), .ref (am 10 0), .ref (am 11 0), .ref (am 12 0), .ref (am 13 0), vI (((bM m cB v1 tB sB) 0 0) 14), .ref (am 15 0), .ref (am 16 0), .ref (am 17 0), .ref (am 18 0), .ref (am 19 0), .ref (am 20 0), .ref (am 21 0), .ref (am 22 0), .ref (am 23 0), .ref (am 24 0), .ref (am 25 0), .ref (am 26 0), .ref (am 27 0), .ref (am 28 0), .ref (am 29 0), vI (((((bM m cB v1 tB sB) 0 0) 30).toNat : Nat) : Int), vI (((bM m cB v1 tB sB) 0 0) 31), vI (((bM m cB v1 tB sB) 0 0) 32), vI (((((bM m cB v1 tB sB) 0 0) 33).toNat : Nat) : Int), vI (((bM m cB v1 tB sB) 0 0) 34), .ref (am 35 0), .ref (am 36 0), .ref (am 37 0)]) := hcp3.1.1 0 0 (lm0 (by decide))
    have f3 : h1 (am 0 0) = some (eO 8 [vI (((bM m cB v1 tB sB) 0 0) 0), .ref (am 1 0), vI (((bM m cB v1 tB sB) 0 0) 2), .ref (am 3 0), .ref (am 4 0), .ref (am 5 0), .ref (am 6 0), .ref (am 7 0), .ref (am 8 0), .ref (am 9 0), .ref (am 10 0), .ref (am 11 0), .ref (am 12 0), .ref (am 13 0), vI (((bM m cB v1 tB sB) 0 0) 14), .ref (am 15 0), .ref (am 16 0), .ref (am 17 0), .ref (am 18 0), .ref (am 19 0), .ref (am 20 0), .ref (am 21 0), .ref (am 22 0), .ref (am 23 0), .ref (am 24 0), .ref (am 25 0), .ref (am 26 0), .ref (am 27 0), .ref (am 28 0), .ref (am 29 0), vI (((((bM m cB v1 tB sB) 0 0) 30).toNat : Nat) : Int), vI cB, vI v1, vI ((tB : Nat) : Int), vI sB, .ref (am 35 0), .ref (am 36 0), .ref (am 37 0)]) := by have q9 := f2; exact q9
    refine x_aload_n C dX8_moves_233 0 rfl ?_
    refine x_iload C dX8_moves_234 5 rfl ?_
    refine x_if_ne (tgt := 244) C dX8_moves_236 (by decide) (by omega) (fun c4 => ?_) (fun c4 => ?_)
    · skip
      refine x_iload C dX8_moves_244 6 rfl ?_
      refine x_bipush C dX8_moves_246 6 (by decide) ?_
      refine x_icmp_lt (tgt := 265) C dX8_moves_248 (by decide) (by omega) (by omega) (fun c5 => ?_) (fun c5 => ?_)
      · skip
        refine x_iconst C dX8_moves_265 0 (by decide) ?_
        refine x_put C f3 (T := TX8) rfl tyX8_ok nmX8 kX8_moves_1 32 (by decide) kX8_moves_0 rfl (fs' := [vI (((bM m cB v1 tB sB) 0 0) 0), .ref (am 1 0), vI (((bM m cB v1 tB sB) 0 0) 2), .ref (am 3 0), .ref (am 4 0), .ref (am 5 0), .ref (am 6 0), .ref (am 7 0), .ref (am 8 0), .ref (am 9 0), .ref (am 10 0), .ref (am 11 0), .ref (am 12 0), .ref (am 13 0), vI (((bM m cB v1 tB sB) 0 0) 14), .ref (am 15 0), .ref (am 16 0), .ref (am 17 0), .ref (am 18 0), .ref (am 19 0), .ref (am 20 0), .ref (am 21 0), .ref (am 22 0), .ref (am 23 0), .ref (am 24 0), .ref (am 25 0), .ref (am 26 0), .ref (am 27 0), .ref (am 28 0), .ref (am 29 0), vI (((((bM m cB v1 tB sB) 0 0) 30).toNat : Nat) : Int), vI cB, vI 0, vI ((tB : Nat) : Int), vI sB, .ref (am 35 0), .ref (am 36 0), .ref (am 37 0)]) rfl rfl (by simp) rfl dX8_moves_266 (x_hn (fun h6 e7 => ?_))
        have f8 : h6 (am 0 0) = some (eO 8 [vI (((bM m cB v1 tB sB) 0 0) 0), .ref (am 1 0), vI (((bM m cB v1 tB sB) 0 0) 2), .ref (am 3 0), .ref (am 4 0), .ref (am 5 0), .ref (am 6 0), .ref (am 7 0), .ref (am 8 0), .ref (am 9 0), .ref (am 10 0), .ref (am 11 0), .ref (am 12 0), .ref (am 13 0), vI (((bM m cB v1 tB sB) 0 0) 14), .ref (am 15 0), .ref (am 16 0), .ref (am 17 0), .ref (am 18 0), .ref (am 19 0), .ref (am 20 0), .ref (am 21 0), .ref (am 22 0), .ref (am 23 0), .ref (am 24 0), .ref (am 25 0), .ref (am 26 0), .ref (am 27 0), .ref (am 28 0), .ref (am 29 0), vI (((((bM m cB v1 tB sB) 0 0) 30).toNat : Nat) : Int), vI cB, vI 0, vI ((tB : Nat) : Int), vI sB, .ref (am 35 0), .ref (am 36 0), .ref (am 37 0)]) := by rw [e7]; exact hu_s
        refine x_vret C G dX8_moves_269 ?_ (by decide) (by decide)
        have cp9 : MP D am h (cu (bM m cB v1 tB sB) 0 0 ((fu (fu (fu (fu ((bM m cB v1 tB sB) 0 0) 31 cB) 32 0) 33 ((tB : Nat) : Int)) 34 sB))) h6 := by rw [e7]; exact (MP.up hcp3 (lm0 (by decide)) ((fu (fu (fu (fu ((bM m cB v1 tB sB) 0 0) 31 cB) 32 0) 33 ((tB : Nat) : Int)) 34 sB)) rfl)
        refine ⟨rfl, ?_⟩
        have q9 := cp9
        rw [bM_up] at q9
        have hFv : F9 = (cB, 0, tB, sB) := by
          rcases hbe2 with ⟨z1, z2, z3⟩ | ⟨z1, z2⟩
          · exact hI.flat (by omega) (by omega) y1 (by omega)
          · exact hI.up (by omega) (by omega)
        exact mv_end hF9 hFv q9
      · skip
        have f10 : h1 (am 1 0) = some (eI D 3 (((bM m cB v1 tB sB) 1 0))) := hcp3.1.1 1 0 (lm0 (by decide))
        have f11 : h1 (am 1 0) = some (eI D 3 (m 1 0)) := by have q9 := f10; exact q9
        refine x_aload_n C dX8_moves_251 0 rfl ?_
        refine x_get C (v := .ref (am 1 0)) f3 (T := TX8) rfl kX8_moves_1 1 (by decide) kX8_moves_2 rfl dX8_moves_252 ?_
        refine x_iload C dX8_moves_255 6 rfl ?_
        refine x_bipush C dX8_moves_257 6 (by decide) ?_
        refine x_isub C dX8_moves_259 ?_
        refine x_iald C f11 ⟨by omega, by omega⟩ (by decide) dX8_moves_260 ?_
        have r12 := hSS (Int.toNat (be - 6))
        refine x_ineg C dX8_moves_261 ?_
        refine x_goto (tgt := 266) C dX8_moves_262 (by decide) ?_
        refine x_put C f3 (T := TX8) rfl tyX8_ok nmX8 kX8_moves_1 32 (by decide) kX8_moves_0 rfl (fs' := [vI (((bM m cB v1 tB sB) 0 0) 0), .ref (am 1 0), vI (((bM m cB v1 tB sB) 0 0) 2), .ref (am 3 0), .ref (am 4 0), .ref (am 5 0), .ref (am 6 0), .ref (am 7 0), .ref (am 8 0), .ref (am 9 0), .ref (am 10 0), .ref (am 11 0), .ref (am 12 0), .ref (am 13 0), vI (((bM m cB v1 tB sB) 0 0) 14), .ref (am 15 0), .ref (am 16 0), .ref (am 17 0), .ref (am 18 0), .ref (am 19 0), .ref (am 20 0), .ref (am 21 0), .ref (am 22 0), .ref (am 23 0), .ref (am 24 0), .ref (am 25 0), .ref (am 26 0), .ref (am 27 0), .ref (am 28 0), .ref (am 29 0), vI (((((bM m cB v1 tB sB) 0 0) 30).toNat : Nat) : Int), vI cB, vI (-((m 1 0) (Int.toNat (be - 6)))), vI ((tB : Nat) : Int), vI sB, .ref (am 35 0), .ref (am 36 0), .ref (am 37 0)]) rfl rfl (by simp) rfl dX8_moves_266 (x_hn (fun h13 e14 => ?_))
        have f15 : h13 (am 0 0) = some (eO 8 [vI (((bM m cB v1 tB sB) 0 0) 0), .ref (am 1 0), vI (((bM m cB v1 tB sB) 0 0) 2), .ref (am 3 0), .ref (am 4 0), .ref (am 5 0), .ref (am 6 0), .ref (am 7 0), .ref (am 8 0), .ref (am 9 0), .ref (am 10 0), .ref (am 11 0), .ref (am 12 0), .ref (am 13 0), vI (((bM m cB v1 tB sB) 0 0) 14), .ref (am 15 0), .ref (am 16 0), .ref (am 17 0), .ref (am 18 0), .ref (am 19 0), .ref (am 20 0), .ref (am 21 0), .ref (am 22 0), .ref (am 23 0), .ref (am 24 0), .ref (am 25 0), .ref (am 26 0), .ref (am 27 0), .ref (am 28 0), .ref (am 29 0), vI (((((bM m cB v1 tB sB) 0 0) 30).toNat : Nat) : Int), vI cB, vI (-((m 1 0) (Int.toNat (be - 6)))), vI ((tB : Nat) : Int), vI sB, .ref (am 35 0), .ref (am 36 0), .ref (am 37 0)]) := by rw [e14]; exact hu_s
        refine x_vret C G dX8_moves_269 ?_ (by decide) (by decide)
        have cp16 : MP D am h (cu (bM m cB v1 tB sB) 0 0 ((fu (fu (fu (fu ((bM m cB v1 tB sB) 0 0) 31 cB) 32 (-((m 1 0) (Int.toNat (be - 6))))) 33 ((tB : Nat) : Int)) 34 sB))) h13 := by rw [e14]; exact (MP.up hcp3 (lm0 (by decide)) ((fu (fu (fu (fu ((bM m cB v1 tB sB) 0 0) 31 cB) 32 (-((m 1 0) (Int.toNat (be - 6))))) 33 ((tB : Nat) : Int)) 34 sB)) rfl)
        refine ⟨rfl, ?_⟩
        have q9 := cp16
        rw [bM_up] at q9
        have hFv : F9 = (cB, -((m 1 0) (Int.toNat (be - 6))), tB, sB) := by
          rcases hbe2 with ⟨z1, z2, z3⟩ | ⟨z1, z2⟩
          · subst z3; exact hI.spr (by omega) (by omega) y1 hG (by omega)
          · exfalso; omega
        exact mv_end hF9 hFv q9
    · skip
      refine x_iload C dX8_moves_239 7 rfl ?_
      refine x_goto (tgt := 266) C dX8_moves_241 (by decide) ?_
      refine x_put C f3 (T := TX8) rfl tyX8_ok nmX8 kX8_moves_1 32 (by decide) kX8_moves_0 rfl (fs' := [vI (((bM m cB v1 tB sB) 0 0) 0), .ref (am 1 0), vI (((bM m cB v1 tB sB) 0 0) 2), .ref (am 3 0), .ref (am 4 0), .ref (am 5 0), .ref (am 6 0), .ref (am 7 0), .ref (am 8 0), .ref (am 9 0), .ref (am 10 0), .ref (am 11 0), .ref (am 12 0), .ref (am 13 0), vI (((bM m cB v1 tB sB) 0 0) 14), .ref (am 15 0), .ref (am 16 0), .ref (am 17 0), .ref (am 18 0), .ref (am 19 0), .ref (am 20 0), .ref (am 21 0), .ref (am 22 0), .ref (am 23 0), .ref (am 24 0), .ref (am 25 0), .ref (am 26 0), .ref (am 27 0), .ref (am 28 0), .ref (am 29 0), vI (((((bM m cB v1 tB sB) 0 0) 30).toNat : Nat) : Int), vI cB, vI mo, vI ((tB : Nat) : Int), vI sB, .ref (am 35 0), .ref (am 36 0), .ref (am 37 0)]) rfl rfl (by simp) rfl dX8_moves_266 (x_hn (fun h17 e18 => ?_))
      have f19 : h17 (am 0 0) = some (eO 8 [vI (((bM m cB v1 tB sB) 0 0) 0), .ref (am 1 0), vI (((bM m cB v1 tB sB) 0 0) 2), .ref (am 3 0), .ref (am 4 0), .ref (am 5 0), .ref (am 6 0), .ref (am 7 0), .ref (am 8 0), .ref (am 9 0), .ref (am 10 0), .ref (am 11 0), .ref (am 12 0), .ref (am 13 0), vI (((bM m cB v1 tB sB) 0 0) 14), .ref (am 15 0), .ref (am 16 0), .ref (am 17 0), .ref (am 18 0), .ref (am 19 0), .ref (am 20 0), .ref (am 21 0), .ref (am 22 0), .ref (am 23 0), .ref (am 24 0), .ref (am 25 0), .ref (am 26 0), .ref (am 27 0), .ref (am 28 0), .ref (am 29 0), vI (((((bM m cB v1 tB sB) 0 0) 30).toNat : Nat) : Int), vI cB, vI mo, vI ((tB : Nat) : Int), vI sB, .ref (am 35 0), .ref (am 36 0), .ref (am 37 0)]) := by rw [e18]; exact hu_s
      refine x_vret C G dX8_moves_269 ?_ (by decide) (by decide)
      have cp20 : MP D am h (cu (bM m cB v1 tB sB) 0 0 ((fu (fu (fu (fu ((bM m cB v1 tB sB) 0 0) 31 cB) 32 mo) 33 ((tB : Nat) : Int)) 34 sB))) h17 := by rw [e18]; exact (MP.up hcp3 (lm0 (by decide)) ((fu (fu (fu (fu ((bM m cB v1 tB sB) 0 0) 31 cB) 32 mo) 33 ((tB : Nat) : Int)) 34 sB)) rfl)
      refine ⟨rfl, ?_⟩
      have q9 := cp20
      rw [bM_up] at q9
      have hFv : F9 = (cB, mo, tB, sB) := by
        rw [hmo]; exact hI.fin (by omega) (by omega) (by omega)
      exact mv_end hF9 hFv q9
  have EXT : ∀ (v1 w9 cB sB by9 st9 : Int) (tB n : Nat) (F9 : Int × Int × Nat × Int) (h21 : vh)   (hvr : -4 ≤ v1 ∧ v1 ≤ 3) (hF9 : F9 = (mv (m 28 0) (KBm m) (m 0 0 30).toNat (m 1 0) z (m 0 0 31) (m 0 0 32) (m 0 0 33).toNat)) (hn8 : n ≤ 4) (hby : (by9 = -1 ∧ v1 < 0) ∨ (by9 = 1 ∧ ¬ v1 < 0)) (hx2 : bX (cB, tB, sB)) (hb2 : b3 (cB, tB, sB)) (hI : LVI F9 (m 28 0) (KBm m) (m 0 0 30).toNat (m 1 0) (12 * by9) v1 n cB tB sB st9) (hcp3 : MP D am h (bM m cB v1 tB sB) h21) (hex : n = 0 ∨ sB ≠ 1 ∨ st9 ≠ 0), X κ 0 0 h21 [(0, .ref (am 0 0)), (1, vI z), (2, vI (cB % 12)), (3, vI w9), (4, vI by9), (5, vI st9), (6, vI ((n : Nat) : Int))] 176 [] := by
    intro v1 w9 cB sB by9 st9 tB n F9 h21 hvr hF9 hn8 hby hx2 hb2 hI hcp3 hex
    obtain ⟨y1, y2, y3, y4, y5⟩ := id hx2
    dsimp only at y1 y2 y3 y4 y5
    obtain ⟨k1, k2, _⟩ := hI.r
    clear hv9 hT9 hz hc hv ht hs1
    have f22 : h21 (am 0 0) = some (eO 8 [vI (((bM m cB v1 tB sB) 0 0) 0), .ref (am 1 0), vI (((bM m cB v1 tB sB) 0 0) 2), .ref (am 3 0), .ref (am 4 0), .ref (am 5 0), .ref (am 6 0), .ref (am 7 0), .ref (am 8 0), .ref (am 9 0), .ref (am 10 0), .ref (am 11 0), .ref (am 12 0), .ref (am 13 0), vI (((bM m cB v1 tB sB) 0 0) 14), .ref (am 15 0), .ref (am 16 0), .ref (am 17 0), .ref (am 18 0), .ref (am 19 0), .ref (am 20 0), .ref (am 21 0), .ref (am 22 0), .ref (am 23 0), .ref (am 24 0), .ref (am 25 0), .ref (am 26 0), .ref (am 27 0), .ref (am 28 0), .ref (am 29 0), vI (((((bM m cB v1 tB sB) 0 0) 30).toNat : Nat) : Int), vI (((bM m cB v1 tB sB) 0 0) 31), vI (((bM m cB v1 tB sB) 0 0) 32), vI (((((bM m cB v1 tB sB) 0 0) 33).toNat : Nat) : Int), vI (((bM m cB v1 tB sB) 0 0) 34), .ref (am 35 0), .ref (am 36 0), .ref (am 37 0)]) := hcp3.1.1 0 0 (lm0 (by decide))
    have f23 : h21 (am 0 0) = some (eO 8 [vI (((bM m cB v1 tB sB) 0 0) 0), .ref (am 1 0), vI (((bM m cB v1 tB sB) 0 0) 2), .ref (am 3 0), .ref (am 4 0), .ref (am 5 0), .ref (am 6 0), .ref (am 7 0), .ref (am 8 0), .ref (am 9 0), .ref (am 10 0), .ref (am 11 0), .ref (am 12 0), .ref (am 13 0), vI (((bM m cB v1 tB sB) 0 0) 14), .ref (am 15 0), .ref (am 16 0), .ref (am 17 0), .ref (am 18 0), .ref (am 19 0), .ref (am 20 0), .ref (am 21 0), .ref (am 22 0), .ref (am 23 0), .ref (am 24 0), .ref (am 25 0), .ref (am 26 0), .ref (am 27 0), .ref (am 28 0), .ref (am 29 0), vI (((((bM m cB v1 tB sB) 0 0) 30).toNat : Nat) : Int), vI cB, vI v1, vI ((tB : Nat) : Int), vI sB, .ref (am 35 0), .ref (am 36 0), .ref (am 37 0)]) := by have q9 := f22; exact q9
    refine x_aload_n C dX8_moves_176 0 rfl ?_
    refine x_get C (v := vI sB) f23 (T := TX8) rfl kX8_moves_1 34 (by decide) kX8_moves_3 rfl dX8_moves_177 ?_
    refine x_iconst C dX8_moves_180 1 (by decide) ?_
    refine x_icmp_eq (tgt := 185) C dX8_moves_181 (by decide) (by omega) (by omega) (fun c24 => ?_) (fun c24 => ?_)
    · skip
      refine x_iload C dX8_moves_185 5 rfl ?_
      refine x_if_eq (tgt := 210) C dX8_moves_187 (by decide) (by omega) (fun c25 => ?_) (fun c25 => ?_)
      · skip
        refine x_iconst C dX8_moves_210 0 (by decide) ?_
        refine x_istore C (ls' := [(0, .ref (am 0 0)), (1, vI z), (2, vI (cB % 12)), (3, vI w9), (4, vI by9), (5, vI st9), (6, vI 0)]) dX8_moves_211 (by decide) rfl ?_
        refine x_aload_n C dX8_moves_213 0 rfl ?_
        refine x_get C (v := vI v1) f23 (T := TX8) rfl kX8_moves_1 32 (by decide) kX8_moves_0 rfl dX8_moves_214 ?_
        refine x_iconst C dX8_moves_217 3 (by decide) ?_
        refine x_icmp_ge (tgt := 230) C dX8_moves_218 (by decide) (by omega) (by omega) (fun c26 => ?_) (fun c26 => ?_)
        · skip
          refine x_iconst C dX8_moves_230 3 (by decide) ?_
          refine x_istore C (ls' := [(0, .ref (am 0 0)), (1, vI z), (2, vI (cB % 12)), (3, vI w9), (4, vI by9), (5, vI st9), (6, vI 0), (7, vI 3)]) dX8_moves_231 (by decide) rfl ?_
          exact SPD v1 w9 cB sB by9 st9 0 3 tB n F9 h21 (hvr) (hF9) (hn8) (hby) (hx2) (hb2) (hI) (hcp3) (by omega) (by omega) (⟨by decide, by decide⟩) (Or.inr ⟨fun z9 => by omega, rfl⟩) (by first | exact (if_pos (by omega)).symm | exact (if_neg (by omega)).symm) (by omega)
        · skip
          refine x_aload_n C dX8_moves_221 0 rfl ?_
          refine x_get C (v := vI v1) f23 (T := TX8) rfl kX8_moves_1 32 (by decide) kX8_moves_0 rfl dX8_moves_222 ?_
          refine x_iconst C dX8_moves_225 1 (by decide) ?_
          refine x_iadd C dX8_moves_226 ?_
          refine x_goto (tgt := 231) C dX8_moves_227 (by decide) ?_
          refine x_istore C (ls' := [(0, .ref (am 0 0)), (1, vI z), (2, vI (cB % 12)), (3, vI w9), (4, vI by9), (5, vI st9), (6, vI 0), (7, vI (v1 + 1))]) dX8_moves_231 (by decide) rfl ?_
          exact SPD v1 w9 cB sB by9 st9 0 (v1 + 1) tB n F9 h21 (hvr) (hF9) (hn8) (hby) (hx2) (hb2) (hI) (hcp3) (by omega) (by omega) (⟨by decide, by decide⟩) (Or.inr ⟨fun z9 => by omega, rfl⟩) (by first | exact (if_pos (by omega)).symm | exact (if_neg (by omega)).symm) (by omega)
      · skip
        refine x_iload C dX8_moves_190 4 rfl ?_
        refine x_if_le (tgt := 210) C dX8_moves_192 (by decide) (by omega) (fun c27 => ?_) (fun c27 => ?_)
        · skip
          refine x_iconst C dX8_moves_210 0 (by decide) ?_
          refine x_istore C (ls' := [(0, .ref (am 0 0)), (1, vI z), (2, vI (cB % 12)), (3, vI w9), (4, vI by9), (5, vI st9), (6, vI 0)]) dX8_moves_211 (by decide) rfl ?_
          refine x_aload_n C dX8_moves_213 0 rfl ?_
          refine x_get C (v := vI v1) f23 (T := TX8) rfl kX8_moves_1 32 (by decide) kX8_moves_0 rfl dX8_moves_214 ?_
          refine x_iconst C dX8_moves_217 3 (by decide) ?_
          refine x_icmp_ge (tgt := 230) C dX8_moves_218 (by decide) (by omega) (by omega) (fun c28 => ?_) (fun c28 => ?_)
          · skip
            refine x_iconst C dX8_moves_230 3 (by decide) ?_
            refine x_istore C (ls' := [(0, .ref (am 0 0)), (1, vI z), (2, vI (cB % 12)), (3, vI w9), (4, vI by9), (5, vI st9), (6, vI 0), (7, vI 3)]) dX8_moves_231 (by decide) rfl ?_
            exact SPD v1 w9 cB sB by9 st9 0 3 tB n F9 h21 (hvr) (hF9) (hn8) (hby) (hx2) (hb2) (hI) (hcp3) (by omega) (by omega) (⟨by decide, by decide⟩) (Or.inr ⟨fun z9 => by omega, rfl⟩) (by first | exact (if_pos (by omega)).symm | exact (if_neg (by omega)).symm) (by omega)
          · skip
            refine x_aload_n C dX8_moves_221 0 rfl ?_
            refine x_get C (v := vI v1) f23 (T := TX8) rfl kX8_moves_1 32 (by decide) kX8_moves_0 rfl dX8_moves_222 ?_
            refine x_iconst C dX8_moves_225 1 (by decide) ?_
            refine x_iadd C dX8_moves_226 ?_
            refine x_goto (tgt := 231) C dX8_moves_227 (by decide) ?_
            refine x_istore C (ls' := [(0, .ref (am 0 0)), (1, vI z), (2, vI (cB % 12)), (3, vI w9), (4, vI by9), (5, vI st9), (6, vI 0), (7, vI (v1 + 1))]) dX8_moves_231 (by decide) rfl ?_
            exact SPD v1 w9 cB sB by9 st9 0 (v1 + 1) tB n F9 h21 (hvr) (hF9) (hn8) (hby) (hx2) (hb2) (hI) (hcp3) (by omega) (by omega) (⟨by decide, by decide⟩) (Or.inr ⟨fun z9 => by omega, rfl⟩) (by first | exact (if_pos (by omega)).symm | exact (if_neg (by omega)).symm) (by omega)
        · skip
          have hsin : 0 ≤ cB + 12 ∧ cB + 12 < 96 := by
              have hb1 : by9 = 1 := by omega
              have q9 := (sol_in (hI.stp (by assumption)).1 (by omega)).1
              omega
          refine x_aload_n C dX8_moves_195 0 rfl ?_
          refine x_get C (v := .ref (am 28 0)) f23 (T := TX8) rfl kX8_moves_1 28 (by decide) kX8_moves_4 rfl dX8_moves_196 ?_
          have f29 : h21 (am 28 0) = some (eI D 96 (((bM m cB v1 tB sB) 28 0))) := hcp3.1.1 28 0 (lm0 (by decide))
          have f30 : h21 (am 28 0) = some (eI D 96 (m 28 0)) := by have q9 := f29; exact q9
          refine x_aload_n C dX8_moves_199 0 rfl ?_
          refine x_get C (v := vI cB) f23 (T := TX8) rfl kX8_moves_1 31 (by decide) kX8_moves_5 rfl dX8_moves_200 ?_
          refine x_bipush C dX8_moves_203 12 (by decide) ?_
          refine x_iadd C dX8_moves_205 ?_
          refine x_iald C f30 ⟨by omega, by omega⟩ (by decide) dX8_moves_206 ?_
          have r31 := hG (Int.toNat (cB + 12))
          refine x_goto (tgt := 211) C dX8_moves_207 (by decide) ?_
          refine x_istore C (ls' := [(0, .ref (am 0 0)), (1, vI z), (2, vI (cB % 12)), (3, vI w9), (4, vI by9), (5, vI st9), (6, vI ((m 28 0) (Int.toNat (cB + 12))))]) dX8_moves_211 (by decide) rfl ?_
          refine x_aload_n C dX8_moves_213 0 rfl ?_
          refine x_get C (v := vI v1) f23 (T := TX8) rfl kX8_moves_1 32 (by decide) kX8_moves_0 rfl dX8_moves_214 ?_
          refine x_iconst C dX8_moves_217 3 (by decide) ?_
          refine x_icmp_ge (tgt := 230) C dX8_moves_218 (by decide) (by omega) (by omega) (fun c32 => ?_) (fun c32 => ?_)
          · skip
            refine x_iconst C dX8_moves_230 3 (by decide) ?_
            refine x_istore C (ls' := [(0, .ref (am 0 0)), (1, vI z), (2, vI (cB % 12)), (3, vI w9), (4, vI by9), (5, vI st9), (6, vI ((m 28 0) (Int.toNat (cB + 12)))), (7, vI 3)]) dX8_moves_231 (by decide) rfl ?_
            exact SPD v1 w9 cB sB by9 st9 ((m 28 0) (Int.toNat (cB + 12))) 3 tB n F9 h21 (hvr) (hF9) (hn8) (hby) (hx2) (hb2) (hI) (hcp3) (by omega) (by omega) (hG _) (Or.inl ⟨by assumption, by omega, rfl⟩) (by first | exact (if_pos (by omega)).symm | exact (if_neg (by omega)).symm) (by omega)
          · skip
            refine x_aload_n C dX8_moves_221 0 rfl ?_
            refine x_get C (v := vI v1) f23 (T := TX8) rfl kX8_moves_1 32 (by decide) kX8_moves_0 rfl dX8_moves_222 ?_
            refine x_iconst C dX8_moves_225 1 (by decide) ?_
            refine x_iadd C dX8_moves_226 ?_
            refine x_goto (tgt := 231) C dX8_moves_227 (by decide) ?_
            refine x_istore C (ls' := [(0, .ref (am 0 0)), (1, vI z), (2, vI (cB % 12)), (3, vI w9), (4, vI by9), (5, vI st9), (6, vI ((m 28 0) (Int.toNat (cB + 12)))), (7, vI (v1 + 1))]) dX8_moves_231 (by decide) rfl ?_
            exact SPD v1 w9 cB sB by9 st9 ((m 28 0) (Int.toNat (cB + 12))) (v1 + 1) tB n F9 h21 (hvr) (hF9) (hn8) (hby) (hx2) (hb2) (hI) (hcp3) (by omega) (by omega) (hG _) (Or.inl ⟨by assumption, by omega, rfl⟩) (by first | exact (if_pos (by omega)).symm | exact (if_neg (by omega)).symm) (by omega)
    · skip
      refine x_vret C G dX8_moves_184 ?_ (by decide) (by decide)
      refine ⟨rfl, ?_⟩
      exact mv_end hF9 (hI.lost (by assumption)) hcp3
  have LV : ∀ (N : Nat) (v1 w9 cB sB by9 st9 : Int) (tB n : Nat) (F9 : Int × Int × Nat × Int) (h33 : vh)   (hvr : -4 ≤ v1 ∧ v1 ≤ 3) (hF9 : F9 = (mv (m 28 0) (KBm m) (m 0 0 30).toNat (m 1 0) z (m 0 0 31) (m 0 0 32) (m 0 0 33).toNat)) (hn8 : n ≤ 4) (hby : (by9 = -1 ∧ v1 < 0) ∨ (by9 = 1 ∧ ¬ v1 < 0)) (hx2 : bX (cB, tB, sB)) (hb2 : b3 (cB, tB, sB)) (hI : LVI F9 (m 28 0) (KBm m) (m 0 0 30).toNat (m 1 0) (12 * by9) v1 n cB tB sB st9) (hN9 : n < N) (hcp3 : MP D am h (bM m cB v1 tB sB) h33), X κ 0 0 h33 [(0, .ref (am 0 0)), (1, vI z), (2, vI (cB % 12)), (3, vI w9), (4, vI by9), (5, vI st9), (6, vI ((n : Nat) : Int))] 115 [] := by
    intro N
    induction N with
    | zero => intro v1 w9 cB sB by9 st9 tB n F9 h33 hvr hF9 hn8 hby hx2 hb2 hI hN9 hcp3; exfalso; omega
    | succ N ihLV =>
      intro v1 w9 cB sB by9 st9 tB n F9 h33 hvr hF9 hn8 hby hx2 hb2 hI hN9 hcp3
      obtain ⟨y1, y2, y3, y4, y5⟩ := id hx2
      dsimp only at y1 y2 y3 y4 y5
      obtain ⟨k1, k2, _⟩ := hI.r
      clear hv9 hT9 hz hc hv ht hs1
      have hT8 : 0 ≤ ((tB : Nat) : Int) ∧ ((tB : Nat) : Int) < 8 := by omega
      refine x_iload C dX8_moves_115 6 rfl ?_
      refine x_if_le (tgt := 176) C dX8_moves_117 (by decide) (by omega) (fun c34 => ?_) (fun c34 => ?_)
      · skip
        exact EXT v1 w9 cB sB by9 st9 tB n F9 h33 (hvr) (hF9) (hn8) (hby) (hx2) (hb2) (hI) (hcp3) (by omega)
      · skip
        have f35 : h33 (am 0 0) = some (eO 8 [vI (((bM m cB v1 tB sB) 0 0) 0), .ref (am 1 0), vI (((bM m cB v1 tB sB) 0 0) 2), .ref (am 3 0), .ref (am 4 0), .ref (am 5 0), .ref (am 6 0), .ref (am 7 0), .ref (am 8 0), .ref (am 9 0), .ref (am 10 0), .ref (am 11 0), .ref (am 12 0), .ref (am 13 0), vI (((bM m cB v1 tB sB) 0 0) 14), .ref (am 15 0), .ref (am 16 0), .ref (am 17 0), .ref (am 18 0), .ref (am 19 0), .ref (am 20 0), .ref (am 21 0), .ref (am 22 0), .ref (am 23 0), .ref (am 24 0), .ref (am 25 0), .ref (am 26 0), .ref (am 27 0), .ref (am 28 0), .ref (am 29 0), vI (((((bM m cB v1 tB sB) 0 0) 30).toNat : Nat) : Int), vI (((bM m cB v1 tB sB) 0 0) 31), vI (((bM m cB v1 tB sB) 0 0) 32), vI (((((bM m cB v1 tB sB) 0 0) 33).toNat : Nat) : Int), vI (((bM m cB v1 tB sB) 0 0) 34), .ref (am 35 0), .ref (am 36 0), .ref (am 37 0)]) := hcp3.1.1 0 0 (lm0 (by decide))
        have f36 : h33 (am 0 0) = some (eO 8 [vI (((bM m cB v1 tB sB) 0 0) 0), .ref (am 1 0), vI (((bM m cB v1 tB sB) 0 0) 2), .ref (am 3 0), .ref (am 4 0), .ref (am 5 0), .ref (am 6 0), .ref (am 7 0), .ref (am 8 0), .ref (am 9 0), .ref (am 10 0), .ref (am 11 0), .ref (am 12 0), .ref (am 13 0), vI (((bM m cB v1 tB sB) 0 0) 14), .ref (am 15 0), .ref (am 16 0), .ref (am 17 0), .ref (am 18 0), .ref (am 19 0), .ref (am 20 0), .ref (am 21 0), .ref (am 22 0), .ref (am 23 0), .ref (am 24 0), .ref (am 25 0), .ref (am 26 0), .ref (am 27 0), .ref (am 28 0), .ref (am 29 0), vI (((((bM m cB v1 tB sB) 0 0) 30).toNat : Nat) : Int), vI cB, vI v1, vI ((tB : Nat) : Int), vI sB, .ref (am 35 0), .ref (am 36 0), .ref (am 37 0)]) := by have q9 := f35; exact q9
        refine x_aload_n C dX8_moves_120 0 rfl ?_
        refine x_get C (v := vI sB) f36 (T := TX8) rfl kX8_moves_1 34 (by decide) kX8_moves_3 rfl dX8_moves_121 ?_
        refine x_iconst C dX8_moves_124 1 (by decide) ?_
        refine x_icmp_ne (tgt := 176) C dX8_moves_125 (by decide) (by omega) (by omega) (fun c37 => ?_) (fun c37 => ?_)
        · skip
          exact EXT v1 w9 cB sB by9 st9 tB n F9 h33 (hvr) (hF9) (hn8) (hby) (hx2) (hb2) (hI) (hcp3) (by omega)
        · skip
          refine x_iload C dX8_moves_128 5 rfl ?_
          refine x_if_ne (tgt := 176) C dX8_moves_130 (by decide) (by omega) (fun c38 => ?_) (fun c38 => ?_)
          · skip
            exact EXT v1 w9 cB sB by9 st9 tB n F9 h33 (hvr) (hF9) (hn8) (hby) (hx2) (hb2) (hI) (hcp3) (by omega)
          · skip
            refine x_aload_n C dX8_moves_133 0 rfl ?_
            refine x_iload_n C dX8_moves_134 2 rfl ?_
            refine x_aload_n C dX8_moves_135 0 rfl ?_
            refine x_get C (v := vI cB) f36 (T := TX8) rfl kX8_moves_1 31 (by decide) kX8_moves_5 rfl dX8_moves_136 ?_
            refine x_bipush C dX8_moves_139 12 (by decide) ?_
            refine x_idiv C dX8_moves_141 (by omega) (by omega) (by omega) (by omega) ?_
            refine x_iload C dX8_moves_142 4 rfl ?_
            refine x_iadd C dX8_moves_144 ?_
            refine x_callV C (n := 2) (qc := (RX8, TX8, 38)) (As := [vI (cB % 12), vI ((cB / 12) + by9)]) (rest := []) (c_X8_isSolid (hcp3.1) (by omega) (by omega) (hG) (hT8) (hal)) gX8_moves_X8_isSolid (by decide +kernel) f36 rfl rfl rfl rfl (Nat.le_of_ble_eq_true rfl) ⟨by decide, by decide⟩ ⟨(by decide), (by decide)⟩ dX8_moves_145 (fun rv39 h40 hp41 => ?_)
            obtain ⟨rfl, e42⟩ := hp41
            obtain rfl := e42.symm
            have hbr := bI_01 (¬ (0 ≤ (cB % 12) ∧ (cB % 12) ≤ 11) ∨ sol (((bM m cB v1 tB sB)) 28 0) (((bM m cB v1 tB sB)) 0 0 30).toNat (((bM m cB v1 tB sB)) 0 0 33).toNat (12 * ((cB / 12) + by9) + (cB % 12)))
            refine x_istore C (ls' := [(0, .ref (am 0 0)), (1, vI z), (2, vI (cB % 12)), (3, vI w9), (4, vI by9), (5, vI (bI (¬ (0 ≤ (cB % 12) ∧ (cB % 12) ≤ 11) ∨ sol (((bM m cB v1 tB sB)) 28 0) (((bM m cB v1 tB sB)) 0 0 30).toNat (((bM m cB v1 tB sB)) 0 0 33).toNat (12 * ((cB / 12) + by9) + (cB % 12))))), (6, vI ((n : Nat) : Int))]) dX8_moves_148 (by decide) rfl ?_
            refine x_iload C dX8_moves_150 5 rfl ?_
            refine x_if_ne (tgt := 170) C dX8_moves_152 (by decide) (by omega) (fun c43 => ?_) (fun c43 => ?_)
            · skip
              have hsoo : sol (m 28 0) (m 0 0 30).toNat tB (12 * (cB / 12 + by9) + cB % 12) := by
                  rcases bI_ne.mp c43 with q8 | q8
                  · exact absurd (show 0 ≤ cB % 12 ∧ cB % 12 ≤ 11 by omega) q8
                  · exact q8
              refine x_iinc C (x := ((n : Nat) : Int)) (ls' := [(0, .ref (am 0 0)), (1, vI z), (2, vI (cB % 12)), (3, vI w9), (4, vI by9), (5, vI (bI (¬ (0 ≤ (cB % 12) ∧ (cB % 12) ≤ 11) ∨ sol (((bM m cB v1 tB sB)) 28 0) (((bM m cB v1 tB sB)) 0 0 30).toNat (((bM m cB v1 tB sB)) 0 0 33).toNat (12 * ((cB / 12) + by9) + (cB % 12))))), (6, vI ((((n : Nat) : Int)) + (-1)))]) dX8_moves_170 6 rfl (by decide) rfl ?_
              refine x_goto (tgt := 115) C dX8_moves_173 (by decide) ?_
              rw [show ((n : Nat) : Int) + (-1) = ((n - 1 : Nat) : Int) by omega]
              have hsB : sB = 1 := by omega
              have hst9 : st9 = 0 := by omega
              have hso : sol (m 28 0) (m 0 0 30).toNat tB (cB + 12 * by9) := by rw [show cB + 12 * by9 = 12 * (cB / 12 + by9) + cB % 12 by omega]; exact hsoo
              have hst1 : bI (¬ (0 ≤ (cB % 12) ∧ (cB % 12) ≤ 11) ∨ sol (((bM m cB v1 tB sB)) 28 0) (((bM m cB v1 tB sB)) 0 0 30).toNat (((bM m cB v1 tB sB)) 0 0 33).toNat (12 * ((cB / 12) + by9) + (cB % 12))) = 1 := by omega
              rw [hst1]
              refine x_widen (m1 := 0) (m2 := 0) (by first | omega | (dsimp only; omega)) (by first | omega | (dsimp only; omega)) ?_
              exact ihLV v1 w9 cB sB by9 1 tB (n - 1) F9 h33 (hvr) (hF9) (by omega) (hby) (hx2) (hb2) (hI.stop hst9 hsB (by omega) hso) (by omega) (hcp3)
            · skip
              have hnso : ¬ sol (m 28 0) (m 0 0 30).toNat tB (12 * (cB / 12 + by9) + cB % 12) := fun z9 => absurd c43 (bI_ne.mpr (Or.inr z9))
              refine x_aload_n C dX8_moves_155 0 rfl ?_
              refine x_iload_n C dX8_moves_156 2 rfl ?_
              refine x_aload_n C dX8_moves_157 0 rfl ?_
              refine x_get C (v := vI cB) f36 (T := TX8) rfl kX8_moves_1 31 (by decide) kX8_moves_5 rfl dX8_moves_158 ?_
              refine x_bipush C dX8_moves_161 12 (by decide) ?_
              refine x_idiv C dX8_moves_163 (by omega) (by omega) (by omega) (by omega) ?_
              refine x_iload C dX8_moves_164 4 rfl ?_
              refine x_iadd C dX8_moves_166 ?_
              refine x_callV C (n := 2) (qc := (RX8, TX8, 38)) (As := [vI (cB % 12), vI ((cB / 12) + by9)]) (rest := []) (c_X8_comes (hcp3.1) (by omega) (⟨by have q9 := sol_lo hnso; omega, by omega⟩) (hG) (hKB) (hT8)) gX8_moves_X8_comes (by decide +kernel) f36 rfl rfl rfl rfl (Nat.le_of_ble_eq_true rfl) ⟨by decide, by decide⟩ ⟨(by decide), (by decide)⟩ dX8_moves_167 (fun rv44 h45 hp46 => ?_)
              obtain ⟨rfl, cp48⟩ := hp46
              have cp49 : MP D am h (bdM ((bM m cB v1 tB sB)) (cm (((bM m cB v1 tB sB)) 28 0) (KBm ((bM m cB v1 tB sB))) (12 * ((cB / 12) + by9) + (cB % 12)) (((bM m cB v1 tB sB)) 0 0 31, (((bM m cB v1 tB sB)) 0 0 33).toNat, 1))) h45 := MP.trans hcp3 cp48
              refine x_iinc C (x := ((n : Nat) : Int)) (ls' := [(0, .ref (am 0 0)), (1, vI z), (2, vI (cB % 12)), (3, vI w9), (4, vI by9), (5, vI (bI (¬ (0 ≤ (cB % 12) ∧ (cB % 12) ≤ 11) ∨ sol (((bM m cB v1 tB sB)) 28 0) (((bM m cB v1 tB sB)) 0 0 30).toNat (((bM m cB v1 tB sB)) 0 0 33).toNat (12 * ((cB / 12) + by9) + (cB % 12))))), (6, vI ((((n : Nat) : Int)) + (-1)))]) dX8_moves_170 6 rfl (by decide) rfl ?_
              refine x_goto (tgt := 115) C dX8_moves_173 (by decide) ?_
              rw [show ((n : Nat) : Int) + (-1) = ((n - 1 : Nat) : Int) by omega]
              have hsB : sB = 1 := by omega
              have hst9 : st9 = 0 := by omega
              have hns : ¬ sol (m 28 0) (m 0 0 30).toNat tB (cB + 12 * by9) := fun z9 => hnso (by rw [show 12 * (cB / 12 + by9) + cB % 12 = cB + 12 * by9 by omega]; exact z9)
              have hst0 : bI (¬ (0 ≤ (cB % 12) ∧ (cB % 12) ≤ 11) ∨ sol (((bM m cB v1 tB sB)) 28 0) (((bM m cB v1 tB sB)) 0 0 30).toNat (((bM m cB v1 tB sB)) 0 0 33).toNat (12 * ((cB / 12) + by9) + (cB % 12))) = 0 := by assumption
              rw [hst0]
              have hcm : (cm (m 28 0) (KBm m) (cB + 12 * by9) (cB, tB, 1)).1 % 12 = cB % 12 := by unfold cm; split <;> first | rfl | (dsimp only; omega)
              rw [← hcm]
              refine x_widen (m1 := 0) (m2 := 0) (by first | omega | (dsimp only; omega)) (by first | omega | (dsimp only; omega)) ?_
              exact ihLV v1 w9 ((cm (m 28 0) (KBm m) (cB + 12 * by9) (cB, tB, 1)).1) ((cm (m 28 0) (KBm m) (cB + 12 * by9) (cB, tB, 1)).2.2) by9 0 ((cm (m 28 0) (KBm m) (cB + 12 * by9) (cB, tB, 1)).2.1) (n - 1) F9 h45 (hvr) (hF9) (by omega) (hby) (cm_r hBr (by rw [hsB] at hx2; exact hx2)) (cm_b3 (x := (cB, tB, 1)) (Or.inl rfl)) (hI.move hst9 hsB (by omega) hns) (by omega) (by have q9 := cp49; rw [bM_bd, show 12 * (cB / 12 + by9) + cB % 12 = cB + 12 * by9 by omega] at q9; exact q9)
  have SDD : ∀ (v1 cA sA w9 : Int) (tA : Nat) (h50 : vh)   (hv1 : v1 = (sv (m 28 0) (m 0 0 30).toNat z (m 0 0 31) (m 0 0 32) (m 0 0 33).toNat)) (hx : (cA, tA, sA) = (sd (m 28 0) (KBm m) (m 0 0 30).toNat (z % 3 - 1) ((m 0 0 31), (m 0 0 33).toNat, 1))) (hcp2 : MP D am h (bM m cA v1 tA sA) h50), X κ 0 0 h50 [(0, .ref (am 0 0)), (1, vI z), (2, vI (cA % 12)), (3, vI w9)] 89 [] := by
    intro v1 cA sA w9 tA h50 hv1 hx hcp2
    rw [← hv1] at hv9
    have hbX : bX (cA, tA, sA) := by rw [hx]; exact sd_r hBr ⟨hc.1, hc.2, show (m 0 0 33).toNat < 8 by omega, show (0 : Int) ≤ 1 by decide, show (1 : Int) ≤ 4 by decide⟩
    have hb3 : b3 (cA, tA, sA) := by rw [hx]; exact sd_b3 (Or.inl rfl)
    obtain ⟨x1, x2, x3, x4, x5⟩ := id hbX
    dsimp only at x1 x2 x3 x4 x5
    obtain ⟨F9, hF9⟩ : ∃ F, F = (mv (m 28 0) (KBm m) (m 0 0 30).toNat (m 1 0) z (m 0 0 31) (m 0 0 32) (m 0 0 33).toNat) := ⟨_, rfl⟩
    have hF8 : F9 = if sA = 1 then vt (m 28 0) (KBm m) (m 0 0 30).toNat (m 1 0) (if v1 < 0 then -12 else 12) v1 (vab v1) (cA, tA, sA) else (cA, v1, tA, sA) := by
      rw [hF9]; unfold mv; rw [← hx, ← hv1]
    have f51 : h50 (am 0 0) = some (eO 8 [vI (((bM m cA v1 tA sA) 0 0) 0), .ref (am 1 0), vI (((bM m cA v1 tA sA) 0 0) 2), .ref (am 3 0), .ref (am 4 0), .ref (am 5 0), .ref (am 6 0), .ref (am 7 0), .ref (am 8 0), .ref (am 9 0), .ref (am 10 0), .ref (am 11 0), .ref (am 12 0), .ref (am 13 0), vI (((bM m cA v1 tA sA) 0 0) 14), .ref (am 15 0), .ref (am 16 0), .ref (am 17 0), .ref (am 18 0), .ref (am 19 0), .ref (am 20 0), .ref (am 21 0), .ref (am 22 0), .ref (am 23 0), .ref (am 24 0), .ref (am 25 0), .ref (am 26 0), .ref (am 27 0), .ref (am 28 0), .ref (am 29 0), vI (((((bM m cA v1 tA sA) 0 0) 30).toNat : Nat) : Int), vI (((bM m cA v1 tA sA) 0 0) 31), vI (((bM m cA v1 tA sA) 0 0) 32), vI (((((bM m cA v1 tA sA) 0 0) 33).toNat : Nat) : Int), vI (((bM m cA v1 tA sA) 0 0) 34), .ref (am 35 0), .ref (am 36 0), .ref (am 37 0)]) := hcp2.1.1 0 0 (lm0 (by decide))
    have f52 : h50 (am 0 0) = some (eO 8 [vI (((bM m cA v1 tA sA) 0 0) 0), .ref (am 1 0), vI (((bM m cA v1 tA sA) 0 0) 2), .ref (am 3 0), .ref (am 4 0), .ref (am 5 0), .ref (am 6 0), .ref (am 7 0), .ref (am 8 0), .ref (am 9 0), .ref (am 10 0), .ref (am 11 0), .ref (am 12 0), .ref (am 13 0), vI (((bM m cA v1 tA sA) 0 0) 14), .ref (am 15 0), .ref (am 16 0), .ref (am 17 0), .ref (am 18 0), .ref (am 19 0), .ref (am 20 0), .ref (am 21 0), .ref (am 22 0), .ref (am 23 0), .ref (am 24 0), .ref (am 25 0), .ref (am 26 0), .ref (am 27 0), .ref (am 28 0), .ref (am 29 0), vI (((((bM m cA v1 tA sA) 0 0) 30).toNat : Nat) : Int), vI cA, vI v1, vI ((tA : Nat) : Int), vI sA, .ref (am 35 0), .ref (am 36 0), .ref (am 37 0)]) := by have q9 := f51; exact q9
    refine x_aload_n C dX8_moves_89 0 rfl ?_
    refine x_get C (v := vI v1) f52 (T := TX8) rfl kX8_moves_1 32 (by decide) kX8_moves_0 rfl dX8_moves_90 ?_
    refine x_if_ge (tgt := 100) C dX8_moves_93 (by decide) (by omega) (fun c53 => ?_) (fun c53 => ?_)
    · skip
      refine x_iconst C dX8_moves_100 1 (by decide) ?_
      refine x_istore C (ls' := [(0, .ref (am 0 0)), (1, vI z), (2, vI (cA % 12)), (3, vI w9), (4, vI 1)]) dX8_moves_101 (by decide) rfl ?_
      refine x_iconst C dX8_moves_103 0 (by decide) ?_
      refine x_istore C (ls' := [(0, .ref (am 0 0)), (1, vI z), (2, vI (cA % 12)), (3, vI w9), (4, vI 1), (5, vI 0)]) dX8_moves_104 (by decide) rfl ?_
      refine x_aload_n C dX8_moves_106 0 rfl ?_
      refine x_get C (v := vI v1) f52 (T := TX8) rfl kX8_moves_1 32 (by decide) kX8_moves_0 rfl dX8_moves_107 ?_
      refine x_iload C dX8_moves_110 4 rfl ?_
      refine x_imul C dX8_moves_112 ?_
      refine x_topv (show v1 * 1 = ((vab v1 : Nat) : Int) from by unfold vab; split <;> omega) ?_
      refine x_istore C (ls' := [(0, .ref (am 0 0)), (1, vI z), (2, vI (cA % 12)), (3, vI w9), (4, vI 1), (5, vI 0), (6, vI ((vab v1 : Nat) : Int))]) dX8_moves_113 (by decide) rfl ?_
      exact LV (vab v1 + 1) v1 w9 cA sA 1 0 tA (vab v1) F9 h50 (hv9) (hF9) (by unfold vab; split <;> omega) (by omega) (hbX) (hb3) (by
    by_cases q : sA = 1
    · rw [if_pos q] at hF8
      refine Or.inl ⟨rfl, q, ?_⟩
      rw [hF8]
      first
        | (rw [if_pos (by assumption)]; rfl)
        | (rw [if_neg (by assumption)]; rfl)
        | (rw [if_neg (by omega)]; rfl)
        | (rw [if_pos (by omega)]; rfl)
    · rw [if_neg q] at hF8
      exact Or.inr (Or.inl ⟨rfl, q, hF8⟩)) (by omega) (hcp2)
    · skip
      refine x_iconst C dX8_moves_96 (-1) (by decide) ?_
      refine x_goto (tgt := 101) C dX8_moves_97 (by decide) ?_
      refine x_istore C (ls' := [(0, .ref (am 0 0)), (1, vI z), (2, vI (cA % 12)), (3, vI w9), (4, vI (-1))]) dX8_moves_101 (by decide) rfl ?_
      refine x_iconst C dX8_moves_103 0 (by decide) ?_
      refine x_istore C (ls' := [(0, .ref (am 0 0)), (1, vI z), (2, vI (cA % 12)), (3, vI w9), (4, vI (-1)), (5, vI 0)]) dX8_moves_104 (by decide) rfl ?_
      refine x_aload_n C dX8_moves_106 0 rfl ?_
      refine x_get C (v := vI v1) f52 (T := TX8) rfl kX8_moves_1 32 (by decide) kX8_moves_0 rfl dX8_moves_107 ?_
      refine x_iload C dX8_moves_110 4 rfl ?_
      refine x_imul C dX8_moves_112 ?_
      refine x_topv (show v1 * ((-1)) = ((vab v1 : Nat) : Int) from by unfold vab; split <;> omega) ?_
      refine x_istore C (ls' := [(0, .ref (am 0 0)), (1, vI z), (2, vI (cA % 12)), (3, vI w9), (4, vI (-1)), (5, vI 0), (6, vI ((vab v1 : Nat) : Int))]) dX8_moves_113 (by decide) rfl ?_
      exact LV (vab v1 + 1) v1 w9 cA sA ((-1)) 0 tA (vab v1) F9 h50 (hv9) (hF9) (by unfold vab; split <;> omega) (by omega) (hbX) (hb3) (by
    by_cases q : sA = 1
    · rw [if_pos q] at hF8
      refine Or.inl ⟨rfl, q, ?_⟩
      rw [hF8]
      first
        | (rw [if_pos (by assumption)]; rfl)
        | (rw [if_neg (by assumption)]; rfl)
        | (rw [if_neg (by omega)]; rfl)
        | (rw [if_pos (by omega)]; rfl)
    · rw [if_neg q] at hF8
      exact Or.inr (Or.inl ⟨rfl, q, hF8⟩)) (by omega) (hcp2)
  have ST : ∀ (v1 : Int) (h54 : vh)   (hv1 : v1 = (sv (m 28 0) (m 0 0 30).toNat z (m 0 0 31) (m 0 0 32) (m 0 0 33).toNat)) (hcp : MP D am h (bM m (m 0 0 31) v1 (m 0 0 33).toNat 1) h54), X κ 0 0 h54 [(0, .ref (am 0 0)), (1, vI z), (2, vI ((m 0 0 31) % 12))] 47 [] := by
    intro v1 h54 hv1 hcp
    rw [← hv1] at hv9
    refine x_iload_n C dX8_moves_47 2 rfl ?_
    refine x_iload_n C dX8_moves_48 1 rfl ?_
    refine x_iconst C dX8_moves_49 3 (by decide) ?_
    refine x_irem C dX8_moves_50 (by omega) (by omega) (by omega) (by omega) ?_
    refine x_iadd C dX8_moves_51 ?_
    refine x_iconst C dX8_moves_52 1 (by decide) ?_
    refine x_isub C dX8_moves_53 ?_
    refine x_istore_n C (ls' := [(0, .ref (am 0 0)), (1, vI z), (2, vI ((m 0 0 31) % 12)), (3, vI ((((m 0 0 31) % 12) + (z % 3)) - 1))]) dX8_moves_54 (by decide) rfl ?_
    refine x_iload_n C dX8_moves_55 3 rfl ?_
    refine x_iload_n C dX8_moves_56 2 rfl ?_
    refine x_icmp_eq (tgt := 89) C dX8_moves_57 (by decide) (by omega) (by omega) (fun c55 => ?_) (fun c55 => ?_)
    · skip
      have hsd : ¬ (z % 3 - 1 ≠ 0 ∧ 0 ≤ m 0 0 31 % 12 + (z % 3 - 1) ∧ m 0 0 31 % 12 + (z % 3 - 1) < 12 ∧ ¬ sol (m 28 0) (m 0 0 30).toNat (m 0 0 33).toNat (m 0 0 31 + (z % 3 - 1))) := fun z9 => by omega
      exact SDD v1 ((m 0 0 31)) 1 _ ((m 0 0 33).toNat) h54 (hv1) (by unfold sd; rw [if_neg hsd]) (hcp)
    · skip
      have f56 : h54 (am 0 0) = some (eO 8 [vI (((bM m (m 0 0 31) v1 (m 0 0 33).toNat 1) 0 0) 0), .ref (am 1 0), vI (((bM m (m 0 0 31) v1 (m 0 0 33).toNat 1) 0 0) 2), .ref (am 3 0), .ref (am 4 0), .ref (am 5 0), .ref (am 6 0), .ref (am 7 0), .ref (am 8 0), .ref (am 9 0), .ref (am 10 0), .ref (am 11 0), .ref (am 12 0), .ref (am 13 0), vI (((bM m (m 0 0 31) v1 (m 0 0 33).toNat 1) 0 0) 14), .ref (am 15 0), .ref (am 16 0), .ref (am 17 0), .ref (am 18 0), .ref (am 19 0), .ref (am 20 0), .ref (am 21 0), .ref (am 22 0), .ref (am 23 0), .ref (am 24 0), .ref (am 25 0), .ref (am 26 0), .ref (am 27 0), .ref (am 28 0), .ref (am 29 0), vI (((((bM m (m 0 0 31) v1 (m 0 0 33).toNat 1) 0 0) 30).toNat : Nat) : Int), vI (((bM m (m 0 0 31) v1 (m 0 0 33).toNat 1) 0 0) 31), vI (((bM m (m 0 0 31) v1 (m 0 0 33).toNat 1) 0 0) 32), vI (((((bM m (m 0 0 31) v1 (m 0 0 33).toNat 1) 0 0) 33).toNat : Nat) : Int), vI (((bM m (m 0 0 31) v1 (m 0 0 33).toNat 1) 0 0) 34), .ref (am 35 0), .ref (am 36 0), .ref (am 37 0)]) := hcp.1.1 0 0 (lm0 (by decide))
      have f57 : h54 (am 0 0) = some (eO 8 [vI (((bM m (m 0 0 31) v1 (m 0 0 33).toNat 1) 0 0) 0), .ref (am 1 0), vI (((bM m (m 0 0 31) v1 (m 0 0 33).toNat 1) 0 0) 2), .ref (am 3 0), .ref (am 4 0), .ref (am 5 0), .ref (am 6 0), .ref (am 7 0), .ref (am 8 0), .ref (am 9 0), .ref (am 10 0), .ref (am 11 0), .ref (am 12 0), .ref (am 13 0), vI (((bM m (m 0 0 31) v1 (m 0 0 33).toNat 1) 0 0) 14), .ref (am 15 0), .ref (am 16 0), .ref (am 17 0), .ref (am 18 0), .ref (am 19 0), .ref (am 20 0), .ref (am 21 0), .ref (am 22 0), .ref (am 23 0), .ref (am 24 0), .ref (am 25 0), .ref (am 26 0), .ref (am 27 0), .ref (am 28 0), .ref (am 29 0), vI (((((bM m (m 0 0 31) v1 (m 0 0 33).toNat 1) 0 0) 30).toNat : Nat) : Int), vI (m 0 0 31), vI v1, vI (((m 0 0 33).toNat : Nat) : Int), vI 1, .ref (am 35 0), .ref (am 36 0), .ref (am 37 0)]) := by have q9 := f56; exact q9
      refine x_aload_n C dX8_moves_60 0 rfl ?_
      refine x_iload_n C dX8_moves_61 3 rfl ?_
      refine x_aload_n C dX8_moves_62 0 rfl ?_
      refine x_get C (v := vI (m 0 0 31)) f57 (T := TX8) rfl kX8_moves_1 31 (by decide) kX8_moves_5 rfl dX8_moves_63 ?_
      refine x_bipush C dX8_moves_66 12 (by decide) ?_
      refine x_idiv C dX8_moves_68 (by omega) (by omega) (by omega) (by omega) ?_
      refine x_callV C (n := 2) (qc := (RX8, TX8, 38)) (As := [vI ((((m 0 0 31) % 12) + (z % 3)) - 1), vI ((m 0 0 31) / 12)]) (rest := []) (c_X8_isSolid (hcp.1) (by omega) (by omega) (hG) (hT9) (hal)) gX8_moves_X8_isSolid (by decide +kernel) f57 rfl rfl rfl rfl (Nat.le_of_ble_eq_true rfl) ⟨by decide, by decide⟩ ⟨(by decide), (by decide)⟩ dX8_moves_69 (fun rv58 h59 hp60 => ?_)
      obtain ⟨rfl, e61⟩ := hp60
      obtain rfl := e61.symm
      have hbr := bI_01 (¬ (0 ≤ ((((m 0 0 31) % 12) + (z % 3)) - 1) ∧ ((((m 0 0 31) % 12) + (z % 3)) - 1) ≤ 11) ∨ sol (((bM m (m 0 0 31) v1 (m 0 0 33).toNat 1)) 28 0) (((bM m (m 0 0 31) v1 (m 0 0 33).toNat 1)) 0 0 30).toNat (((bM m (m 0 0 31) v1 (m 0 0 33).toNat 1)) 0 0 33).toNat (12 * ((m 0 0 31) / 12) + ((((m 0 0 31) % 12) + (z % 3)) - 1)))
      refine x_if_ne (tgt := 89) C dX8_moves_72 (by decide) (by omega) (fun c62 => ?_) (fun c62 => ?_)
      · skip
        have hsd : ¬ (z % 3 - 1 ≠ 0 ∧ 0 ≤ m 0 0 31 % 12 + (z % 3 - 1) ∧ m 0 0 31 % 12 + (z % 3 - 1) < 12 ∧ ¬ sol (m 28 0) (m 0 0 30).toNat (m 0 0 33).toNat (m 0 0 31 + (z % 3 - 1))) := fun z9 => by
            have q9 := bI_ne.mp c62
            rcases q9 with q8 | q8
            · exact q8 (by omega)
            · have q7 : sol (m 28 0) (m 0 0 30).toNat (m 0 0 33).toNat (m 0 0 31 + (z % 3 - 1)) := by rw [show m 0 0 31 + (z % 3 - 1) = 12 * (m 0 0 31 / 12) + (m 0 0 31 % 12 + z % 3 - 1) by omega]; exact q8
              exact z9.2.2.2 q7
        exact SDD v1 ((m 0 0 31)) 1 _ ((m 0 0 33).toNat) h54 (hv1) (by unfold sd; rw [if_neg hsd]) (hcp)
      · skip
        have hto : 0 ≤ m 0 0 31 % 12 + z % 3 - 1 ∧ m 0 0 31 % 12 + z % 3 - 1 ≤ 11 := Classical.byContradiction (fun z9 => by have q9 := bI_t (p := ¬ (0 ≤ m 0 0 31 % 12 + z % 3 - 1 ∧ m 0 0 31 % 12 + z % 3 - 1 ≤ 11) ∨ sol (bM m (m 0 0 31) v1 (m 0 0 33).toNat 1 28 0) (bM m (m 0 0 31) v1 (m 0 0 33).toNat 1 0 0 30).toNat (bM m (m 0 0 31) v1 (m 0 0 33).toNat 1 0 0 33).toNat (12 * (m 0 0 31 / 12) + (m 0 0 31 % 12 + z % 3 - 1))) (Or.inl z9); omega)
        have hns : ¬ sol (m 28 0) (m 0 0 30).toNat (m 0 0 33).toNat (m 0 0 31 + (z % 3 - 1)) := fun z9 => by have q9 := bI_t (p := ¬ (0 ≤ m 0 0 31 % 12 + z % 3 - 1 ∧ m 0 0 31 % 12 + z % 3 - 1 ≤ 11) ∨ sol (bM m (m 0 0 31) v1 (m 0 0 33).toNat 1 28 0) (bM m (m 0 0 31) v1 (m 0 0 33).toNat 1 0 0 30).toNat (bM m (m 0 0 31) v1 (m 0 0 33).toNat 1 0 0 33).toNat (12 * (m 0 0 31 / 12) + (m 0 0 31 % 12 + z % 3 - 1))) (Or.inr (by rw [show 12 * (m 0 0 31 / 12) + (m 0 0 31 % 12 + z % 3 - 1) = m 0 0 31 + (z % 3 - 1) by omega]; exact z9)); omega
        have hsd : z % 3 - 1 ≠ 0 ∧ 0 ≤ m 0 0 31 % 12 + (z % 3 - 1) ∧ m 0 0 31 % 12 + (z % 3 - 1) < 12 ∧ ¬ sol (m 28 0) (m 0 0 30).toNat (m 0 0 33).toNat (m 0 0 31 + (z % 3 - 1)) := ⟨by omega, by omega, by omega, hns⟩
        refine x_iload_n C dX8_moves_75 3 rfl ?_
        refine x_istore_n C (ls' := [(0, .ref (am 0 0)), (1, vI z), (2, vI ((((m 0 0 31) % 12) + (z % 3)) - 1)), (3, vI ((((m 0 0 31) % 12) + (z % 3)) - 1))]) dX8_moves_76 (by decide) rfl ?_
        refine x_aload_n C dX8_moves_77 0 rfl ?_
        refine x_iload_n C dX8_moves_78 2 rfl ?_
        refine x_aload_n C dX8_moves_79 0 rfl ?_
        refine x_get C (v := vI (m 0 0 31)) f57 (T := TX8) rfl kX8_moves_1 31 (by decide) kX8_moves_5 rfl dX8_moves_80 ?_
        refine x_bipush C dX8_moves_83 12 (by decide) ?_
        refine x_idiv C dX8_moves_85 (by omega) (by omega) (by omega) (by omega) ?_
        refine x_callV C (n := 2) (qc := (RX8, TX8, 38)) (As := [vI ((((m 0 0 31) % 12) + (z % 3)) - 1), vI ((m 0 0 31) / 12)]) (rest := []) (c_X8_comes (hcp.1) (by omega) (by omega) (hG) (hKB) (hT9)) gX8_moves_X8_comes (by decide +kernel) f57 rfl rfl rfl rfl (Nat.le_of_ble_eq_true rfl) ⟨by decide, by decide⟩ ⟨(by decide), (by decide)⟩ dX8_moves_86 (fun rv63 h64 hp65 => ?_)
        obtain ⟨rfl, cp67⟩ := hp65
        have cp68 : MP D am h (bdM ((bM m (m 0 0 31) v1 (m 0 0 33).toNat 1)) (cm (((bM m (m 0 0 31) v1 (m 0 0 33).toNat 1)) 28 0) (KBm ((bM m (m 0 0 31) v1 (m 0 0 33).toNat 1))) (12 * ((m 0 0 31) / 12) + ((((m 0 0 31) % 12) + (z % 3)) - 1)) (((bM m (m 0 0 31) v1 (m 0 0 33).toNat 1)) 0 0 31, (((bM m (m 0 0 31) v1 (m 0 0 33).toNat 1)) 0 0 33).toNat, 1))) h64 := MP.trans hcp cp67
        have hcm : (cm (m 28 0) (KBm m) ((m 0 0 31) + (z % 3 - 1)) ((m 0 0 31), (m 0 0 33).toNat, 1)).1 = m 0 0 31 + (z % 3 - 1) := by unfold cm; rw [if_pos (by omega)]
        rw [show m 0 0 31 % 12 + z % 3 - 1 = (cm (m 28 0) (KBm m) ((m 0 0 31) + (z % 3 - 1)) ((m 0 0 31), (m 0 0 33).toNat, 1)).1 % 12 by rw [hcm]; omega]
        exact SDD v1 ((cm (m 28 0) (KBm m) ((m 0 0 31) + (z % 3 - 1)) ((m 0 0 31), (m 0 0 33).toNat, 1)).1) ((cm (m 28 0) (KBm m) ((m 0 0 31) + (z % 3 - 1)) ((m 0 0 31), (m 0 0 33).toNat, 1)).2.2) _ ((cm (m 28 0) (KBm m) ((m 0 0 31) + (z % 3 - 1)) ((m 0 0 31), (m 0 0 33).toNat, 1)).2.1) h64 (hv1) (by unfold sd; rw [if_pos hsd]) (by have q9 := cp68; rw [bM_bd, show 12 * (m 0 0 31 / 12) + (m 0 0 31 % 12 + z % 3 - 1) = m 0 0 31 + (z % 3 - 1) by omega] at q9; exact q9)
  refine x_aload_n C dX8_moves_0 0 rfl ?_
  have f69 : h (am 0 0) = some (eO 8 [vI (m 0 0 0), .ref (am 1 0), vI (m 0 0 2), .ref (am 3 0), .ref (am 4 0), .ref (am 5 0), .ref (am 6 0), .ref (am 7 0), .ref (am 8 0), .ref (am 9 0), .ref (am 10 0), .ref (am 11 0), .ref (am 12 0), .ref (am 13 0), vI (m 0 0 14), .ref (am 15 0), .ref (am 16 0), .ref (am 17 0), .ref (am 18 0), .ref (am 19 0), .ref (am 20 0), .ref (am 21 0), .ref (am 22 0), .ref (am 23 0), .ref (am 24 0), .ref (am 25 0), .ref (am 26 0), .ref (am 27 0), .ref (am 28 0), .ref (am 29 0), vI (((m 0 0 30).toNat : Nat) : Int), vI (m 0 0 31), vI (m 0 0 32), vI (((m 0 0 33).toNat : Nat) : Int), vI (m 0 0 34), .ref (am 35 0), .ref (am 36 0), .ref (am 37 0)]) := hR.1 0 0 (lm0 (by decide))
  refine x_get C (v := vI (m 0 0 31)) f69 (T := TX8) rfl kX8_moves_1 31 (by decide) kX8_moves_5 rfl dX8_moves_1 ?_
  refine x_bipush C dX8_moves_4 12 (by decide) ?_
  refine x_irem C dX8_moves_6 (by omega) (by omega) (by omega) (by omega) ?_
  refine x_istore_n C (ls' := [(0, .ref (am 0 0)), (1, vI z), (2, vI ((m 0 0 31) % 12))]) dX8_moves_7 (by decide) rfl ?_
  refine x_aload_n C dX8_moves_8 0 rfl ?_
  refine x_get C (v := vI (m 0 0 32)) f69 (T := TX8) rfl kX8_moves_1 32 (by decide) kX8_moves_0 rfl dX8_moves_9 ?_
  refine x_if_lt (tgt := 47) C dX8_moves_12 (by decide) (by omega) (fun c70 => ?_) (fun c70 => ?_)
  · skip
    have hso : ¬ (0 ≤ m 0 0 32 ∧ sol (m 28 0) (m 0 0 30).toNat (m 0 0 33).toNat (m 0 0 31 + 12)) := fun z9 => by omega
    exact ST (m 0 0 32) h (by unfold sv; rw [if_neg hso]) (by have q9 := bM_0 ht.1 hs1 (m := m); rw [← q9]; exact MP.rf hR)
  · skip
    refine x_aload_n C dX8_moves_15 0 rfl ?_
    refine x_iload_n C dX8_moves_16 2 rfl ?_
    refine x_aload_n C dX8_moves_17 0 rfl ?_
    refine x_get C (v := vI (m 0 0 31)) f69 (T := TX8) rfl kX8_moves_1 31 (by decide) kX8_moves_5 rfl dX8_moves_18 ?_
    refine x_bipush C dX8_moves_21 12 (by decide) ?_
    refine x_idiv C dX8_moves_23 (by omega) (by omega) (by omega) (by omega) ?_
    refine x_iconst C dX8_moves_24 1 (by decide) ?_
    refine x_iadd C dX8_moves_25 ?_
    refine x_callV C (n := 2) (qc := (RX8, TX8, 38)) (As := [vI ((m 0 0 31) % 12), vI (((m 0 0 31) / 12) + 1)]) (rest := []) (c_X8_isSolid (hR) (by omega) (by omega) (by assumption) (by omega) (by omega)) gX8_moves_X8_isSolid (by decide +kernel) f69 rfl rfl rfl rfl (Nat.le_of_ble_eq_true rfl) ⟨by decide, by decide⟩ ⟨(by decide), (by decide)⟩ dX8_moves_26 (fun rv71 h72 hp73 => ?_)
    obtain ⟨rfl, e74⟩ := hp73
    obtain rfl := e74.symm
    have hbr := bI_01 (¬ (0 ≤ m 0 0 31 % 12 ∧ m 0 0 31 % 12 ≤ 11) ∨ sol (m 28 0) (m 0 0 30).toNat (m 0 0 33).toNat (12 * (m 0 0 31 / 12 + 1) + m 0 0 31 % 12))
    refine x_if_eq (tgt := 47) C dX8_moves_29 (by decide) (by omega) (fun c75 => ?_) (fun c75 => ?_)
    · skip
      have hso : ¬ (0 ≤ m 0 0 32 ∧ sol (m 28 0) (m 0 0 30).toNat (m 0 0 33).toNat (m 0 0 31 + 12)) := fun z9 => by
          have q9 := bI_t (p := ¬ (0 ≤ m 0 0 31 % 12 ∧ m 0 0 31 % 12 ≤ 11) ∨ sol (m 28 0) (m 0 0 30).toNat (m 0 0 33).toNat (12 * (m 0 0 31 / 12 + 1) + m 0 0 31 % 12)) (Or.inr (by rw [show 12 * (m 0 0 31 / 12 + 1) + m 0 0 31 % 12 = m 0 0 31 + 12 by omega]; exact z9.2))
          omega
      exact ST (m 0 0 32) h (by unfold sv; rw [if_neg hso]) (by have q9 := bM_0 ht.1 hs1 (m := m); rw [← q9]; exact MP.rf hR)
    · skip
      have hso : sol (m 28 0) (m 0 0 30).toNat (m 0 0 33).toNat (m 0 0 31 + 12) := by
          have q9 := bI_ne.mp c75
          rcases q9 with q8 | q8
          · exact absurd (show 0 ≤ m 0 0 31 % 12 ∧ m 0 0 31 % 12 ≤ 11 by omega) q8
          · rw [show 12 * (m 0 0 31 / 12 + 1) + m 0 0 31 % 12 = m 0 0 31 + 12 by omega] at q8; exact q8
      refine x_aload_n C dX8_moves_32 0 rfl ?_
      refine x_iload_n C dX8_moves_33 1 rfl ?_
      refine x_iconst C dX8_moves_34 2 (by decide) ?_
      refine x_icmp_le (tgt := 43) C dX8_moves_35 (by decide) (by omega) (by omega) (fun c76 => ?_) (fun c76 => ?_)
      · skip
        refine x_iconst C dX8_moves_43 0 (by decide) ?_
        refine x_put C f69 (T := TX8) rfl tyX8_ok nmX8 kX8_moves_1 32 (by decide) kX8_moves_0 rfl (fs' := [vI (m 0 0 0), .ref (am 1 0), vI (m 0 0 2), .ref (am 3 0), .ref (am 4 0), .ref (am 5 0), .ref (am 6 0), .ref (am 7 0), .ref (am 8 0), .ref (am 9 0), .ref (am 10 0), .ref (am 11 0), .ref (am 12 0), .ref (am 13 0), vI (m 0 0 14), .ref (am 15 0), .ref (am 16 0), .ref (am 17 0), .ref (am 18 0), .ref (am 19 0), .ref (am 20 0), .ref (am 21 0), .ref (am 22 0), .ref (am 23 0), .ref (am 24 0), .ref (am 25 0), .ref (am 26 0), .ref (am 27 0), .ref (am 28 0), .ref (am 29 0), vI (((m 0 0 30).toNat : Nat) : Int), vI (m 0 0 31), vI 0, vI (((m 0 0 33).toNat : Nat) : Int), vI (m 0 0 34), .ref (am 35 0), .ref (am 36 0), .ref (am 37 0)]) rfl rfl (by simp) rfl dX8_moves_44 (x_hn (fun h77 e78 => ?_))
        have f79 : h77 (am 0 0) = some (eO 8 [vI (m 0 0 0), .ref (am 1 0), vI (m 0 0 2), .ref (am 3 0), .ref (am 4 0), .ref (am 5 0), .ref (am 6 0), .ref (am 7 0), .ref (am 8 0), .ref (am 9 0), .ref (am 10 0), .ref (am 11 0), .ref (am 12 0), .ref (am 13 0), vI (m 0 0 14), .ref (am 15 0), .ref (am 16 0), .ref (am 17 0), .ref (am 18 0), .ref (am 19 0), .ref (am 20 0), .ref (am 21 0), .ref (am 22 0), .ref (am 23 0), .ref (am 24 0), .ref (am 25 0), .ref (am 26 0), .ref (am 27 0), .ref (am 28 0), .ref (am 29 0), vI (((m 0 0 30).toNat : Nat) : Int), vI (m 0 0 31), vI 0, vI (((m 0 0 33).toNat : Nat) : Int), vI (m 0 0 34), .ref (am 35 0), .ref (am 36 0), .ref (am 37 0)]) := by rw [e78]; exact hu_s
        have cp80 : MP D am h (cu m 0 0 ((fu (m 0 0) 32 0))) h77 := by rw [e78]; exact (MP.up (MP.rf hR) (lm0 (by decide)) ((fu (m 0 0) 32 0)) rfl)
        exact ST 0 h77 (by unfold sv; rw [if_pos ⟨by omega, hso⟩]; first | rw [if_pos (by omega)] | rw [if_neg (by omega)]) (by have q9 := cp80; rw [bM_32 ht.1 hs1] at q9; exact q9)
      · skip
        refine x_bipush C dX8_moves_38 (-2) (by decide) ?_
        refine x_goto (tgt := 44) C dX8_moves_40 (by decide) ?_
        refine x_put C f69 (T := TX8) rfl tyX8_ok nmX8 kX8_moves_1 32 (by decide) kX8_moves_0 rfl (fs' := [vI (m 0 0 0), .ref (am 1 0), vI (m 0 0 2), .ref (am 3 0), .ref (am 4 0), .ref (am 5 0), .ref (am 6 0), .ref (am 7 0), .ref (am 8 0), .ref (am 9 0), .ref (am 10 0), .ref (am 11 0), .ref (am 12 0), .ref (am 13 0), vI (m 0 0 14), .ref (am 15 0), .ref (am 16 0), .ref (am 17 0), .ref (am 18 0), .ref (am 19 0), .ref (am 20 0), .ref (am 21 0), .ref (am 22 0), .ref (am 23 0), .ref (am 24 0), .ref (am 25 0), .ref (am 26 0), .ref (am 27 0), .ref (am 28 0), .ref (am 29 0), vI (((m 0 0 30).toNat : Nat) : Int), vI (m 0 0 31), vI (-2), vI (((m 0 0 33).toNat : Nat) : Int), vI (m 0 0 34), .ref (am 35 0), .ref (am 36 0), .ref (am 37 0)]) rfl rfl (by simp) rfl dX8_moves_44 (x_hn (fun h81 e82 => ?_))
        have f83 : h81 (am 0 0) = some (eO 8 [vI (m 0 0 0), .ref (am 1 0), vI (m 0 0 2), .ref (am 3 0), .ref (am 4 0), .ref (am 5 0), .ref (am 6 0), .ref (am 7 0), .ref (am 8 0), .ref (am 9 0), .ref (am 10 0), .ref (am 11 0), .ref (am 12 0), .ref (am 13 0), vI (m 0 0 14), .ref (am 15 0), .ref (am 16 0), .ref (am 17 0), .ref (am 18 0), .ref (am 19 0), .ref (am 20 0), .ref (am 21 0), .ref (am 22 0), .ref (am 23 0), .ref (am 24 0), .ref (am 25 0), .ref (am 26 0), .ref (am 27 0), .ref (am 28 0), .ref (am 29 0), vI (((m 0 0 30).toNat : Nat) : Int), vI (m 0 0 31), vI (-2), vI (((m 0 0 33).toNat : Nat) : Int), vI (m 0 0 34), .ref (am 35 0), .ref (am 36 0), .ref (am 37 0)]) := by rw [e82]; exact hu_s
        have cp84 : MP D am h (cu m 0 0 ((fu (m 0 0) 32 ((-2))))) h81 := by rw [e82]; exact (MP.up (MP.rf hR) (lm0 (by decide)) ((fu (m 0 0) 32 ((-2)))) rfl)
        exact ST ((-2)) h81 (by unfold sv; rw [if_pos ⟨by omega, hso⟩]; first | rw [if_pos (by omega)] | rw [if_neg (by omega)]) (by have q9 := cp84; rw [bM_32 ht.1 hs1] at q9; exact q9)


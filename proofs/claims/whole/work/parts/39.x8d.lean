def bM (m : CS) (c v : Int) (t : Nat) (s : Int) : CS := cu m 0 0 (fu (fu (fu (fu (m 0 0) 31 c) 32 v) 33 ((t : Nat) : Int)) 34 s)
theorem fu4 {f : Nat → Int} {a b c d a' b' c' d' : Int} : fu (fu (fu (fu (fu (fu (fu (fu f 31 a) 32 b) 33 c) 34 d) 31 a') 32 b') 33 c') 34 d' = fu (fu (fu (fu f 31 a') 32 b') 33 c') 34 d' := by
  funext j
  unfold fu
  by_cases h1 : j = 34
  · simp only [if_pos h1]
  · by_cases h2 : j = 33
    · simp only [if_neg h1, if_pos h2]
    · by_cases h3 : j = 32
      · simp only [if_neg h1, if_neg h2, if_pos h3]
      · by_cases h4 : j = 31
        · simp only [if_neg h1, if_neg h2, if_neg h3, if_pos h4]
        · simp only [if_neg h1, if_neg h2, if_neg h3, if_neg h4]
theorem bM_up {m : CS} {a b a' b' : Int} {c c' : Nat} {d d' : Int} : cu (bM m a b c d) 0 0 (fu (fu (fu (fu (bM m a b c d 0 0) 31 a') 32 b') 33 ((c' : Nat) : Int)) 34 d') = bM m a' b' c' d' := by
  rw [show bM m a b c d 0 0 = fu (fu (fu (fu (m 0 0) 31 a) 32 b) 33 ((c : Nat) : Int)) 34 d from cu_s, fu4]
  unfold bM
  rw [cu_u]
theorem bM_bd {m : CS} {a b : Int} {c : Nat} {d : Int} {x : Int × Nat × Int} : bdM (bM m a b c d) x = bM m x.1 b x.2.1 x.2.2 := by
  unfold bdM
  have e : fu (fu (fu (bM m a b c d 0 0) 31 x.1) 33 ((x.2.1 : Nat) : Int)) 34 x.2.2 = fu (fu (fu (fu (bM m a b c d 0 0) 31 x.1) 32 b) 33 ((x.2.1 : Nat) : Int)) 34 x.2.2 := by
    have h32 : bM m a b c d 0 0 32 = b := rfl
    funext j
    unfold fu
    by_cases h1 : j = 34
    · simp only [if_pos h1]
    · by_cases h2 : j = 33
      · simp only [if_neg h1, if_pos h2]
      · by_cases h3 : j = 32
        · simp only [if_neg h1, if_neg h2, if_pos h3]
          rw [h3, if_neg (by decide)]; exact h32
        · simp only [if_neg h1, if_neg h2, if_neg h3]
  rw [e]; exact bM_up
theorem bM_32 {m : CS} {v : Int} (h33 : 0 ≤ m 0 0 33) (h34 : m 0 0 34 = 1) : cu m 0 0 (fu (m 0 0) 32 v) = bM m (m 0 0 31) v (m 0 0 33).toNat 1 := by
  unfold bM
  have e : fu (m 0 0) 32 v = fu (fu (fu (fu (m 0 0) 31 (m 0 0 31)) 32 v) 33 (((m 0 0 33).toNat : Nat) : Int)) 34 1 := by
    funext j
    unfold fu
    by_cases h1 : j = 34
    · rw [if_pos h1, if_neg (by omega), h1]; exact h34
    · rw [if_neg h1]
      by_cases h2 : j = 33
      · rw [if_pos h2, if_neg (by omega), h2]; omega
      · rw [if_neg h2]
        by_cases h3 : j = 32
        · rw [if_pos h3, if_pos h3]
        · rw [if_neg h3, if_neg h3]
          by_cases h4 : j = 31
          · rw [if_pos h4, h4]
          · rw [if_neg h4]
  rw [e]
theorem bM_0 {m : CS} (h33 : 0 ≤ m 0 0 33) (h34 : m 0 0 34 = 1) : m = bM m (m 0 0 31) (m 0 0 32) (m 0 0 33).toNat 1 := by
  rw [← bM_32 h33 h34]
  funext k i
  by_cases q : k = 0 ∧ i = 0
  · simp only [cu, if_pos q]
    rw [q.1, q.2]
    funext j
    unfold fu
    by_cases h : j = 32
    · rw [if_pos h, h]
    · rw [if_neg h]
  · simp only [cu, if_neg q]
def mvM (m : CS) (x : Int × Int × Nat × Int) : CS := bM m x.1 x.2.1 x.2.2.1 x.2.2.2
theorem sol_in {f : Nat → Int} {al t : Nat} {p : Int} (h : sol f al t p) (h0 : 0 ≤ p) : p < 96 ∧ kAt f p = f p.toNat := by
  by_cases q : p < 96
  · exact ⟨q, if_pos ⟨h0, q⟩⟩
  · exfalso
    have hk : kAt f p = 0 := if_neg (by omega)
    unfold sol at h
    rw [hk] at h
    omega
theorem sol_lo {f : Nat → Int} {al t : Nat} {p : Int} (h : ¬ sol f al t p) : 0 ≤ p := by
  unfold sol at h; omega

theorem kX8_moves_0 : Cond.fieldLink "LedgeLevelsModel" 124 "LedgeLevelsModel" "cell" "I" ∈ wsX8_moves := by decide +kernel
theorem kX8_moves_1 : ∀ w ∈ wsX80, w ∈ wsX8_moves := by decide +kernel
theorem kX8_moves_2 : Cond.fieldLink "LedgeLevelsModel" 127 "LedgeLevelsModel" "speed" "I" ∈ wsX8_moves := by decide +kernel
set_option maxRecDepth 100000 in
set_option maxHeartbeats 1000000 in
theorem c_X8_moves {l : Launch} {D : va_G} {A : Nat → Prop} {h : vh} {am : AD} {m : CS} {z : Int}  (hR : RepM D am m h) (hz : 0 ≤ z ∧ z ≤ 5) (hc : 0 ≤ m 0 0 31 ∧ m 0 0 31 ≤ 95) (hv : -4 ≤ m 0 0 32 ∧ m 0 0 32 ≤ 3) (hG : ∀ j, 0 ≤ m 28 0 j ∧ m 28 0 j ≤ 8) (hKB : ∀ j, 0 ≤ m 29 0 j ∧ m 29 0 j ≤ 7) (ht : 0 ≤ m 0 0 33 ∧ m 0 0 33 < 8) (hal : 0 ≤ m 0 0 30 ∧ m 0 0 30 < 8) (hSS : ∀ j, 0 ≤ m 1 0 j ∧ m 1 0 j ≤ 4) (hs1 : m 0 0 34 = 1) : MX l D A yX8_moves wsX8_moves { frames := 2, cells := 0, slots := 0, locals := 45 } [.ref (am 0 0), vI z] h (fun rv h' => rv = none ∧ MP D am h (mvM m (mv (m 28 0) (KBm m) (m 0 0 30).toNat (m 1 0) z (m 0 0 31) (m 0 0 32) (m 0 0 33).toNat)) h') := by
  refine MX.of (cc := cX8_moves) (maxL := 8) (ret := none) [(0, .ref (am 0 0)), (1, vI z)] (by decide +kernel) rfl rfl (Nat.le_of_ble_eq_true rfl) ?_
  intro κ C hkl G
  subst hkl
  have C : CX κ "LedgeLevelsModel" "moves" cX8_moves wsX8_moves { frames := 2, cells := 0, slots := 0, locals := 45 } D A 8 := C
  have hiz : nq (D.1 20) (D.1 21) := cx_iz C
  have hBr : ∀ p, KBm m p < 8 := fun p => by have := hKB p.toNat; unfold KBm; omega
  have hv9 := sv_r (f := (m 28 0)) (al := (m 0 0 30).toNat) (inp := z) (c := m 0 0 31) (t := (m 0 0 33).toNat) hv
  have hT9 : 0 ≤ (((m 0 0 33).toNat : Nat) : Int) ∧ (((m 0 0 33).toNat : Nat) : Int) < 8 := by omega
  refine x_aload_n C dX8_moves_0 0 rfl ?_
  have f1 : h (am 0 0) = some (eO 8 [vI (m 0 0 0), .ref (am 1 0), vI (m 0 0 2), .ref (am 3 0), .ref (am 4 0), .ref (am 5 0), .ref (am 6 0), .ref (am 7 0), .ref (am 8 0), .ref (am 9 0), .ref (am 10 0), .ref (am 11 0), .ref (am 12 0), .ref (am 13 0), vI (m 0 0 14), .ref (am 15 0), .ref (am 16 0), .ref (am 17 0), .ref (am 18 0), .ref (am 19 0), .ref (am 20 0), .ref (am 21 0), .ref (am 22 0), .ref (am 23 0), .ref (am 24 0), .ref (am 25 0), .ref (am 26 0), .ref (am 27 0), .ref (am 28 0), .ref (am 29 0), vI (((m 0 0 30).toNat : Nat) : Int), vI (m 0 0 31), vI (m 0 0 32), vI (((m 0 0 33).toNat : Nat) : Int), vI (m 0 0 34), .ref (am 35 0), .ref (am 36 0), .ref (am 37 0)]) := hR.1 0 0 (lm0 (by decide))
  refine x_get C (v := vI (m 0 0 31)) f1 (T := TX8) rfl kX8_moves_1 31 (by decide) kX8_moves_0 rfl dX8_moves_1 ?_
  refine x_bipush C dX8_moves_4 12 (by decide) ?_
  refine x_irem C dX8_moves_6 (by omega) (by omega) (by omega) (by omega) ?_
  refine x_istore_n C (ls' := [(0, .ref (am 0 0)), (1, vI z), (2, vI ((m 0 0 31) % 12))]) dX8_moves_7 (by decide) rfl ?_
  refine x_aload_n C dX8_moves_8 0 rfl ?_
  refine x_get C (v := vI (m 0 0 32)) f1 (T := TX8) rfl kX8_moves_1 32 (by decide) kX8_moves_2 rfl dX8_moves_9 ?_
  refine x_if_lt (tgt := 47) C dX8_moves_12 (by decide) (by omega) (fun c2 => ?_) (fun c2 => ?_)
  · skip
    have hso : ¬ (0 ≤ m 0 0 32 ∧ sol (m 28 0) (m 0 0 30).toNat (m 0 0 33).toNat (m 0 0 31 + 12)) := fun z9 => by omega
    have ST : ∀ (v1 : Int) (h3 : vh)   (hv1 : v1 = (sv (m 28 0) (m 0 0 30).toNat z (m 0 0 31) (m 0 0 32) (m 0 0 33).toNat)) (hcp : MP D am h (bM m (m 0 0 31) v1 (m 0 0 33).toNat 1) h3), X κ 0 0 h3 [(0, .ref (am 0 0)), (1, vI z), (2, vI ((m 0 0 31) % 12))] 47 [] := by
      intro v1 h3 hv1 hcp
      refine x_iload_n C dX8_moves_47 2 rfl ?_
      refine x_iload_n C dX8_moves_48 1 rfl ?_
      refine x_iconst C dX8_moves_49 3 (by decide) ?_
      refine x_irem C dX8_moves_50 (by omega) (by omega) (by omega) (by omega) ?_
      refine x_iadd C dX8_moves_51 ?_
      refine x_iconst C dX8_moves_52 1 (by decide) ?_
      refine x_isub C dX8_moves_53 ?_
      refine x_istore_n C (ls' := [(0, .ref (am 0 0)), (1, vI z), (2, vI ((m 0 0 31) % 12)), (3, vI ((((m 0 0 31) % 12) + (z % 3)) - 1))]) dX8_moves_54 (by decide) rfl ?_
      refine x_iload_n C dX8_moves_55 3 rfl ?_
      refine x_iload_n C dX8_moves_56 2 rfl ?_
      refine x_icmp_eq (tgt := 89) C dX8_moves_57 (by decide) (by omega) (by omega) (fun c4 => ?_) (fun c4 => ?_)
      · skip
        have hsd : ¬ (z % 3 - 1 ≠ 0 ∧ 0 ≤ m 0 0 31 % 12 + (z % 3 - 1) ∧ m 0 0 31 % 12 + (z % 3 - 1) < 12 ∧ ¬ sol (m 28 0) (m 0 0 30).toNat (m 0 0 33).toNat (m 0 0 31 + (z % 3 - 1))) := fun z9 => by omega
        have SDD : ∀ (c1 s1 w9 : Int) (t1 : Nat) (h5 : vh)   (hx : (c1, t1, s1) = (sd (m 28 0) (KBm m) (m 0 0 30).toNat (z % 3 - 1) ((m 0 0 31), (m 0 0 33).toNat, 1))) (hcp2 : MP D am h (bM m c1 v1 t1 s1) h5), X κ 0 0 h5 [(0, .ref (am 0 0)), (1, vI z), (2, vI (c1 % 12)), (3, vI w9)] 89 [] := by
          intro c1 s1 w9 t1 h5 hx hcp2
          sorry
        exact SDD ((m 0 0 31)) 1 _ ((m 0 0 33).toNat) h3 (by unfold sd; rw [if_neg hsd]) (hcp)
      · skip
        have f6 : h3 (am 0 0) = some (eO 8 [vI (((bM m (m 0 0 31) v1 (m 0 0 33).toNat 1) 0 0) 0), .ref (am 1 0), vI (((bM m (m 0 0 31) v1 (m 0 0 33).toNat 1) 0 0) 2), .ref (am 3 0), .ref (am 4 0), .ref (am 5 0), .ref (am 6 0), .ref (am 7 0), .ref (am 8 0), .ref (am 9 0), .ref (am 10 0), .ref (am 11 0), .ref (am 12 0), .ref (am 13 0), vI (((bM m (m 0 0 31) v1 (m 0 0 33).toNat 1) 0 0) 14), .ref (am 15 0), .ref (am 16 0), .ref (am 17 0), .ref (am 18 0), .ref (am 19 0), .ref (am 20 0), .ref (am 21 0), .ref (am 22 0), .ref (am 23 0), .ref (am 24 0), .ref (am 25 0), .ref (am 26 0), .ref (am 27 0), .ref (am 28 0), .ref (am 29 0), vI (((((bM m (m 0 0 31) v1 (m 0 0 33).toNat 1) 0 0) 30).toNat : Nat) : Int), vI (((bM m (m 0 0 31) v1 (m 0 0 33).toNat 1) 0 0) 31), vI (((bM m (m 0 0 31) v1 (m 0 0 33).toNat 1) 0 0) 32), vI (((((bM m (m 0 0 31) v1 (m 0 0 33).toNat 1) 0 0) 33).toNat : Nat) : Int), vI (((bM m (m 0 0 31) v1 (m 0 0 33).toNat 1) 0 0) 34), .ref (am 35 0), .ref (am 36 0), .ref (am 37 0)]) := hcp.1.1 0 0 (lm0 (by decide))
        have f7 : h3 (am 0 0) = some (eO 8 [vI (((bM m (m 0 0 31) v1 (m 0 0 33).toNat 1) 0 0) 0), .ref (am 1 0), vI (((bM m (m 0 0 31) v1 (m 0 0 33).toNat 1) 0 0) 2), .ref (am 3 0), .ref (am 4 0), .ref (am 5 0), .ref (am 6 0), .ref (am 7 0), .ref (am 8 0), .ref (am 9 0), .ref (am 10 0), .ref (am 11 0), .ref (am 12 0), .ref (am 13 0), vI (((bM m (m 0 0 31) v1 (m 0 0 33).toNat 1) 0 0) 14), .ref (am 15 0), .ref (am 16 0), .ref (am 17 0), .ref (am 18 0), .ref (am 19 0), .ref (am 20 0), .ref (am 21 0), .ref (am 22 0), .ref (am 23 0), .ref (am 24 0), .ref (am 25 0), .ref (am 26 0), .ref (am 27 0), .ref (am 28 0), .ref (am 29 0), vI (((((bM m (m 0 0 31) v1 (m 0 0 33).toNat 1) 0 0) 30).toNat : Nat) : Int), vI (m 0 0 31), vI v1, vI (((m 0 0 33).toNat : Nat) : Int), vI 1, .ref (am 35 0), .ref (am 36 0), .ref (am 37 0)]) := by have q9 := f6; exact q9
        refine x_aload_n C dX8_moves_60 0 rfl ?_
        refine x_iload_n C dX8_moves_61 3 rfl ?_
        refine x_aload_n C dX8_moves_62 0 rfl ?_
        refine x_get C (v := vI (m 0 0 31)) f7 (T := TX8) rfl kX8_moves_1 31 (by decide) kX8_moves_0 rfl dX8_moves_63 ?_
        refine x_bipush C dX8_moves_66 12 (by decide) ?_
        refine x_idiv C dX8_moves_68 (by omega) (by omega) (by omega) (by omega) ?_
        refine x_callV C (n := 2) (qc := (RX8, TX8, 38)) (As := [vI ((((m 0 0 31) % 12) + (z % 3)) - 1), vI ((m 0 0 31) / 12)]) (rest := []) (c_X8_isSolid (hcp.1) (by omega) (by omega) (hG) (hT9) (hal)) gX8_moves_X8_isSolid (by decide +kernel) f7 rfl rfl rfl rfl (Nat.le_of_ble_eq_true rfl) ⟨by decide, by decide⟩ ⟨(by decide), (by decide)⟩ dX8_moves_69 (fun rv8 h9 hp10 => ?_)
        obtain ⟨rfl, e11⟩ := hp10
        obtain rfl := e11.symm
        have hbr := bI_01 (¬ (0 ≤ ((((m 0 0 31) % 12) + (z % 3)) - 1) ∧ ((((m 0 0 31) % 12) + (z % 3)) - 1) ≤ 11) ∨ sol (((bM m (m 0 0 31) v1 (m 0 0 33).toNat 1)) 28 0) (((bM m (m 0 0 31) v1 (m 0 0 33).toNat 1)) 0 0 30).toNat (((bM m (m 0 0 31) v1 (m 0 0 33).toNat 1)) 0 0 33).toNat (12 * ((m 0 0 31) / 12) + ((((m 0 0 31) % 12) + (z % 3)) - 1)))
        refine x_if_ne (tgt := 89) C dX8_moves_72 (by decide) (by omega) (fun c12 => ?_) (fun c12 => ?_)
        · skip
          have hsd : ¬ (z % 3 - 1 ≠ 0 ∧ 0 ≤ m 0 0 31 % 12 + (z % 3 - 1) ∧ m 0 0 31 % 12 + (z % 3 - 1) < 12 ∧ ¬ sol (m 28 0) (m 0 0 30).toNat (m 0 0 33).toNat (m 0 0 31 + (z % 3 - 1))) := fun z9 => by
              have q9 := bI_ne.mp c12
              rcases q9 with q8 | q8
              · exact q8 (by omega)
              · have q7 : sol (m 28 0) (m 0 0 30).toNat (m 0 0 33).toNat (m 0 0 31 + (z % 3 - 1)) := by rw [show m 0 0 31 + (z % 3 - 1) = 12 * (m 0 0 31 / 12) + (m 0 0 31 % 12 + z % 3 - 1) by omega]; exact q8
                exact z9.2.2.2 q7
          have SDD : ∀ (c1 s1 w9 : Int) (t1 : Nat) (h13 : vh)   (hx : (c1, t1, s1) = (sd (m 28 0) (KBm m) (m 0 0 30).toNat (z % 3 - 1) ((m 0 0 31), (m 0 0 33).toNat, 1))) (hcp2 : MP D am h (bM m c1 v1 t1 s1) h13), X κ 0 0 h13 [(0, .ref (am 0 0)), (1, vI z), (2, vI (c1 % 12)), (3, vI w9)] 89 [] := by
            intro c1 s1 w9 t1 h13 hx hcp2
            sorry
          exact SDD ((m 0 0 31)) 1 _ ((m 0 0 33).toNat) h3 (by unfold sd; rw [if_neg hsd]) (hcp)
        · skip
          have hto : 0 ≤ m 0 0 31 % 12 + z % 3 - 1 ∧ m 0 0 31 % 12 + z % 3 - 1 ≤ 11 := Classical.byContradiction (fun z9 => by have q9 := bI_t (p := ¬ (0 ≤ m 0 0 31 % 12 + z % 3 - 1 ∧ m 0 0 31 % 12 + z % 3 - 1 ≤ 11) ∨ sol (bM m (m 0 0 31) v1 (m 0 0 33).toNat 1 28 0) (bM m (m 0 0 31) v1 (m 0 0 33).toNat 1 0 0 30).toNat (bM m (m 0 0 31) v1 (m 0 0 33).toNat 1 0 0 33).toNat (12 * (m 0 0 31 / 12) + (m 0 0 31 % 12 + z % 3 - 1))) (Or.inl z9); omega)
          have hns : ¬ sol (m 28 0) (m 0 0 30).toNat (m 0 0 33).toNat (m 0 0 31 + (z % 3 - 1)) := fun z9 => by have q9 := bI_t (p := ¬ (0 ≤ m 0 0 31 % 12 + z % 3 - 1 ∧ m 0 0 31 % 12 + z % 3 - 1 ≤ 11) ∨ sol (bM m (m 0 0 31) v1 (m 0 0 33).toNat 1 28 0) (bM m (m 0 0 31) v1 (m 0 0 33).toNat 1 0 0 30).toNat (bM m (m 0 0 31) v1 (m 0 0 33).toNat 1 0 0 33).toNat (12 * (m 0 0 31 / 12) + (m 0 0 31 % 12 + z % 3 - 1))) (Or.inr (by rw [show 12 * (m 0 0 31 / 12) + (m 0 0 31 % 12 + z % 3 - 1) = m 0 0 31 + (z % 3 - 1) by omega]; exact z9)); omega
          have hsd : z % 3 - 1 ≠ 0 ∧ 0 ≤ m 0 0 31 % 12 + (z % 3 - 1) ∧ m 0 0 31 % 12 + (z % 3 - 1) < 12 ∧ ¬ sol (m 28 0) (m 0 0 30).toNat (m 0 0 33).toNat (m 0 0 31 + (z % 3 - 1)) := ⟨by omega, by omega, by omega, hns⟩
          refine x_iload_n C dX8_moves_75 3 rfl ?_
          refine x_istore_n C (ls' := [(0, .ref (am 0 0)), (1, vI z), (2, vI ((((m 0 0 31) % 12) + (z % 3)) - 1)), (3, vI ((((m 0 0 31) % 12) + (z % 3)) - 1))]) dX8_moves_76 (by decide) rfl ?_
          refine x_aload_n C dX8_moves_77 0 rfl ?_
          refine x_iload_n C dX8_moves_78 2 rfl ?_
          refine x_aload_n C dX8_moves_79 0 rfl ?_
          refine x_get C (v := vI (m 0 0 31)) f7 (T := TX8) rfl kX8_moves_1 31 (by decide) kX8_moves_0 rfl dX8_moves_80 ?_
          refine x_bipush C dX8_moves_83 12 (by decide) ?_
          refine x_idiv C dX8_moves_85 (by omega) (by omega) (by omega) (by omega) ?_
          refine x_callV C (n := 2) (qc := (RX8, TX8, 38)) (As := [vI ((((m 0 0 31) % 12) + (z % 3)) - 1), vI ((m 0 0 31) / 12)]) (rest := []) (c_X8_comes (hcp.1) (by omega) (by omega) (hG) (hKB) (hT9)) gX8_moves_X8_comes (by decide +kernel) f7 rfl rfl rfl rfl (Nat.le_of_ble_eq_true rfl) ⟨by decide, by decide⟩ ⟨(by decide), (by decide)⟩ dX8_moves_86 (fun rv14 h15 hp16 => ?_)
          obtain ⟨rfl, cp18⟩ := hp16
          have cp19 : MP D am h (bdM ((bM m (m 0 0 31) v1 (m 0 0 33).toNat 1)) (cm (((bM m (m 0 0 31) v1 (m 0 0 33).toNat 1)) 28 0) (KBm ((bM m (m 0 0 31) v1 (m 0 0 33).toNat 1))) (12 * ((m 0 0 31) / 12) + ((((m 0 0 31) % 12) + (z % 3)) - 1)) (((bM m (m 0 0 31) v1 (m 0 0 33).toNat 1)) 0 0 31, (((bM m (m 0 0 31) v1 (m 0 0 33).toNat 1)) 0 0 33).toNat, 1))) h15 := MP.trans hcp cp18
          have SDD : ∀ (c1 s1 w9 : Int) (t1 : Nat) (h20 : vh)   (hx : (c1, t1, s1) = (sd (m 28 0) (KBm m) (m 0 0 30).toNat (z % 3 - 1) ((m 0 0 31), (m 0 0 33).toNat, 1))) (hcp2 : MP D am h (bM m c1 v1 t1 s1) h20), X κ 0 0 h20 [(0, .ref (am 0 0)), (1, vI z), (2, vI (c1 % 12)), (3, vI w9)] 89 [] := by
            intro c1 s1 w9 t1 h20 hx hcp2
            sorry
          have hcm : (cm (m 28 0) (KBm m) ((m 0 0 31) + (z % 3 - 1)) ((m 0 0 31), (m 0 0 33).toNat, 1)).1 = m 0 0 31 + (z % 3 - 1) := by unfold cm; rw [if_pos (by omega)]
          rw [show m 0 0 31 % 12 + z % 3 - 1 = (cm (m 28 0) (KBm m) ((m 0 0 31) + (z % 3 - 1)) ((m 0 0 31), (m 0 0 33).toNat, 1)).1 % 12 by rw [hcm]; omega]
          exact SDD ((cm (m 28 0) (KBm m) ((m 0 0 31) + (z % 3 - 1)) ((m 0 0 31), (m 0 0 33).toNat, 1)).1) ((cm (m 28 0) (KBm m) ((m 0 0 31) + (z % 3 - 1)) ((m 0 0 31), (m 0 0 33).toNat, 1)).2.2) _ ((cm (m 28 0) (KBm m) ((m 0 0 31) + (z % 3 - 1)) ((m 0 0 31), (m 0 0 33).toNat, 1)).2.1) h15 (by unfold sd; rw [if_pos hsd]) (by have q9 := cp19; rw [bM_bd, show 12 * (m 0 0 31 / 12) + (m 0 0 31 % 12 + z % 3 - 1) = m 0 0 31 + (z % 3 - 1) by omega] at q9; exact q9)
    exact ST (m 0 0 32) h (by unfold sv; rw [if_neg hso]) (by have q9 := bM_0 ht.1 hs1 (m := m); rw [← q9]; exact MP.rf hR)
  · skip
    refine x_aload_n C dX8_moves_15 0 rfl ?_
    refine x_iload_n C dX8_moves_16 2 rfl ?_
    refine x_aload_n C dX8_moves_17 0 rfl ?_
    refine x_get C (v := vI (m 0 0 31)) f1 (T := TX8) rfl kX8_moves_1 31 (by decide) kX8_moves_0 rfl dX8_moves_18 ?_
    refine x_bipush C dX8_moves_21 12 (by decide) ?_
    refine x_idiv C dX8_moves_23 (by omega) (by omega) (by omega) (by omega) ?_
    refine x_iconst C dX8_moves_24 1 (by decide) ?_
    refine x_iadd C dX8_moves_25 ?_
    refine x_callV C (n := 2) (qc := (RX8, TX8, 38)) (As := [vI ((m 0 0 31) % 12), vI (((m 0 0 31) / 12) + 1)]) (rest := []) (c_X8_isSolid (hR) (by omega) (by omega) (by assumption) (by omega) (by omega)) gX8_moves_X8_isSolid (by decide +kernel) f1 rfl rfl rfl rfl (Nat.le_of_ble_eq_true rfl) ⟨by decide, by decide⟩ ⟨(by decide), (by decide)⟩ dX8_moves_26 (fun rv21 h22 hp23 => ?_)
    obtain ⟨rfl, e24⟩ := hp23
    obtain rfl := e24.symm
    have hbr := bI_01 (¬ (0 ≤ m 0 0 31 % 12 ∧ m 0 0 31 % 12 ≤ 11) ∨ sol (m 28 0) (m 0 0 30).toNat (m 0 0 33).toNat (12 * (m 0 0 31 / 12 + 1) + m 0 0 31 % 12))
    refine x_if_eq (tgt := 47) C dX8_moves_29 (by decide) (by omega) (fun c25 => ?_) (fun c25 => ?_)
    · skip
      have hso : ¬ (0 ≤ m 0 0 32 ∧ sol (m 28 0) (m 0 0 30).toNat (m 0 0 33).toNat (m 0 0 31 + 12)) := fun z9 => by
          have q9 := bI_t (p := ¬ (0 ≤ m 0 0 31 % 12 ∧ m 0 0 31 % 12 ≤ 11) ∨ sol (m 28 0) (m 0 0 30).toNat (m 0 0 33).toNat (12 * (m 0 0 31 / 12 + 1) + m 0 0 31 % 12)) (Or.inr (by rw [show 12 * (m 0 0 31 / 12 + 1) + m 0 0 31 % 12 = m 0 0 31 + 12 by omega]; exact z9.2))
          omega
      have ST : ∀ (v1 : Int) (h26 : vh)   (hv1 : v1 = (sv (m 28 0) (m 0 0 30).toNat z (m 0 0 31) (m 0 0 32) (m 0 0 33).toNat)) (hcp : MP D am h (bM m (m 0 0 31) v1 (m 0 0 33).toNat 1) h26), X κ 0 0 h26 [(0, .ref (am 0 0)), (1, vI z), (2, vI ((m 0 0 31) % 12))] 47 [] := by
        intro v1 h26 hv1 hcp
        refine x_iload_n C dX8_moves_47 2 rfl ?_
        refine x_iload_n C dX8_moves_48 1 rfl ?_
        refine x_iconst C dX8_moves_49 3 (by decide) ?_
        refine x_irem C dX8_moves_50 (by omega) (by omega) (by omega) (by omega) ?_
        refine x_iadd C dX8_moves_51 ?_
        refine x_iconst C dX8_moves_52 1 (by decide) ?_
        refine x_isub C dX8_moves_53 ?_
        refine x_istore_n C (ls' := [(0, .ref (am 0 0)), (1, vI z), (2, vI ((m 0 0 31) % 12)), (3, vI ((((m 0 0 31) % 12) + (z % 3)) - 1))]) dX8_moves_54 (by decide) rfl ?_
        refine x_iload_n C dX8_moves_55 3 rfl ?_
        refine x_iload_n C dX8_moves_56 2 rfl ?_
        refine x_icmp_eq (tgt := 89) C dX8_moves_57 (by decide) (by omega) (by omega) (fun c27 => ?_) (fun c27 => ?_)
        · skip
          have hsd : ¬ (z % 3 - 1 ≠ 0 ∧ 0 ≤ m 0 0 31 % 12 + (z % 3 - 1) ∧ m 0 0 31 % 12 + (z % 3 - 1) < 12 ∧ ¬ sol (m 28 0) (m 0 0 30).toNat (m 0 0 33).toNat (m 0 0 31 + (z % 3 - 1))) := fun z9 => by omega
          have SDD : ∀ (c1 s1 w9 : Int) (t1 : Nat) (h28 : vh)   (hx : (c1, t1, s1) = (sd (m 28 0) (KBm m) (m 0 0 30).toNat (z % 3 - 1) ((m 0 0 31), (m 0 0 33).toNat, 1))) (hcp2 : MP D am h (bM m c1 v1 t1 s1) h28), X κ 0 0 h28 [(0, .ref (am 0 0)), (1, vI z), (2, vI (c1 % 12)), (3, vI w9)] 89 [] := by
            intro c1 s1 w9 t1 h28 hx hcp2
            sorry
          exact SDD ((m 0 0 31)) 1 _ ((m 0 0 33).toNat) h26 (by unfold sd; rw [if_neg hsd]) (hcp)
        · skip
          have f29 : h26 (am 0 0) = some (eO 8 [vI (((bM m (m 0 0 31) v1 (m 0 0 33).toNat 1) 0 0) 0), .ref (am 1 0), vI (((bM m (m 0 0 31) v1 (m 0 0 33).toNat 1) 0 0) 2), .ref (am 3 0), .ref (am 4 0), .ref (am 5 0), .ref (am 6 0), .ref (am 7 0), .ref (am 8 0), .ref (am 9 0), .ref (am 10 0), .ref (am 11 0), .ref (am 12 0), .ref (am 13 0), vI (((bM m (m 0 0 31) v1 (m 0 0 33).toNat 1) 0 0) 14), .ref (am 15 0), .ref (am 16 0), .ref (am 17 0), .ref (am 18 0), .ref (am 19 0), .ref (am 20 0), .ref (am 21 0), .ref (am 22 0), .ref (am 23 0), .ref (am 24 0), .ref (am 25 0), .ref (am 26 0), .ref (am 27 0), .ref (am 28 0), .ref (am 29 0), vI (((((bM m (m 0 0 31) v1 (m 0 0 33).toNat 1) 0 0) 30).toNat : Nat) : Int), vI (((bM m (m 0 0 31) v1 (m 0 0 33).toNat 1) 0 0) 31), vI (((bM m (m 0 0 31) v1 (m 0 0 33).toNat 1) 0 0) 32), vI (((((bM m (m 0 0 31) v1 (m 0 0 33).toNat 1) 0 0) 33).toNat : Nat) : Int), vI (((bM m (m 0 0 31) v1 (m 0 0 33).toNat 1) 0 0) 34), .ref (am 35 0), .ref (am 36 0), .ref (am 37 0)]) := hcp.1.1 0 0 (lm0 (by decide))
          have f30 : h26 (am 0 0) = some (eO 8 [vI (((bM m (m 0 0 31) v1 (m 0 0 33).toNat 1) 0 0) 0), .ref (am 1 0), vI (((bM m (m 0 0 31) v1 (m 0 0 33).toNat 1) 0 0) 2), .ref (am 3 0), .ref (am 4 0), .ref (am 5 0), .ref (am 6 0), .ref (am 7 0), .ref (am 8 0), .ref (am 9 0), .ref (am 10 0), .ref (am 11 0), .ref (am 12 0), .ref (am 13 0), vI (((bM m (m 0 0 31) v1 (m 0 0 33).toNat 1) 0 0) 14), .ref (am 15 0), .ref (am 16 0), .ref (am 17 0), .ref (am 18 0), .ref (am 19 0), .ref (am 20 0), .ref (am 21 0), .ref (am 22 0), .ref (am 23 0), .ref (am 24 0), .ref (am 25 0), .ref (am 26 0), .ref (am 27 0), .ref (am 28 0), .ref (am 29 0), vI (((((bM m (m 0 0 31) v1 (m 0 0 33).toNat 1) 0 0) 30).toNat : Nat) : Int), vI (m 0 0 31), vI v1, vI (((m 0 0 33).toNat : Nat) : Int), vI 1, .ref (am 35 0), .ref (am 36 0), .ref (am 37 0)]) := by have q9 := f29; exact q9
          refine x_aload_n C dX8_moves_60 0 rfl ?_
          refine x_iload_n C dX8_moves_61 3 rfl ?_
          refine x_aload_n C dX8_moves_62 0 rfl ?_
          refine x_get C (v := vI (m 0 0 31)) f30 (T := TX8) rfl kX8_moves_1 31 (by decide) kX8_moves_0 rfl dX8_moves_63 ?_
          refine x_bipush C dX8_moves_66 12 (by decide) ?_
          refine x_idiv C dX8_moves_68 (by omega) (by omega) (by omega) (by omega) ?_
          refine x_callV C (n := 2) (qc := (RX8, TX8, 38)) (As := [vI ((((m 0 0 31) % 12) + (z % 3)) - 1), vI ((m 0 0 31) / 12)]) (rest := []) (c_X8_isSolid (hcp.1) (by omega) (by omega) (hG) (hT9) (hal)) gX8_moves_X8_isSolid (by decide +kernel) f30 rfl rfl rfl rfl (Nat.le_of_ble_eq_true rfl) ⟨by decide, by decide⟩ ⟨(by decide), (by decide)⟩ dX8_moves_69 (fun rv31 h32 hp33 => ?_)
          obtain ⟨rfl, e34⟩ := hp33
          obtain rfl := e34.symm
          have hbr := bI_01 (¬ (0 ≤ ((((m 0 0 31) % 12) + (z % 3)) - 1) ∧ ((((m 0 0 31) % 12) + (z % 3)) - 1) ≤ 11) ∨ sol (((bM m (m 0 0 31) v1 (m 0 0 33).toNat 1)) 28 0) (((bM m (m 0 0 31) v1 (m 0 0 33).toNat 1)) 0 0 30).toNat (((bM m (m 0 0 31) v1 (m 0 0 33).toNat 1)) 0 0 33).toNat (12 * ((m 0 0 31) / 12) + ((((m 0 0 31) % 12) + (z % 3)) - 1)))
          refine x_if_ne (tgt := 89) C dX8_moves_72 (by decide) (by omega) (fun c35 => ?_) (fun c35 => ?_)
          · skip
            have hsd : ¬ (z % 3 - 1 ≠ 0 ∧ 0 ≤ m 0 0 31 % 12 + (z % 3 - 1) ∧ m 0 0 31 % 12 + (z % 3 - 1) < 12 ∧ ¬ sol (m 28 0) (m 0 0 30).toNat (m 0 0 33).toNat (m 0 0 31 + (z % 3 - 1))) := fun z9 => by
                have q9 := bI_ne.mp c35
                rcases q9 with q8 | q8
                · exact q8 (by omega)
                · have q7 : sol (m 28 0) (m 0 0 30).toNat (m 0 0 33).toNat (m 0 0 31 + (z % 3 - 1)) := by rw [show m 0 0 31 + (z % 3 - 1) = 12 * (m 0 0 31 / 12) + (m 0 0 31 % 12 + z % 3 - 1) by omega]; exact q8
                  exact z9.2.2.2 q7
            have SDD : ∀ (c1 s1 w9 : Int) (t1 : Nat) (h36 : vh)   (hx : (c1, t1, s1) = (sd (m 28 0) (KBm m) (m 0 0 30).toNat (z % 3 - 1) ((m 0 0 31), (m 0 0 33).toNat, 1))) (hcp2 : MP D am h (bM m c1 v1 t1 s1) h36), X κ 0 0 h36 [(0, .ref (am 0 0)), (1, vI z), (2, vI (c1 % 12)), (3, vI w9)] 89 [] := by
              intro c1 s1 w9 t1 h36 hx hcp2
              sorry
            exact SDD ((m 0 0 31)) 1 _ ((m 0 0 33).toNat) h26 (by unfold sd; rw [if_neg hsd]) (hcp)
          · skip
            have hto : 0 ≤ m 0 0 31 % 12 + z % 3 - 1 ∧ m 0 0 31 % 12 + z % 3 - 1 ≤ 11 := Classical.byContradiction (fun z9 => by have q9 := bI_t (p := ¬ (0 ≤ m 0 0 31 % 12 + z % 3 - 1 ∧ m 0 0 31 % 12 + z % 3 - 1 ≤ 11) ∨ sol (bM m (m 0 0 31) v1 (m 0 0 33).toNat 1 28 0) (bM m (m 0 0 31) v1 (m 0 0 33).toNat 1 0 0 30).toNat (bM m (m 0 0 31) v1 (m 0 0 33).toNat 1 0 0 33).toNat (12 * (m 0 0 31 / 12) + (m 0 0 31 % 12 + z % 3 - 1))) (Or.inl z9); omega)
            have hns : ¬ sol (m 28 0) (m 0 0 30).toNat (m 0 0 33).toNat (m 0 0 31 + (z % 3 - 1)) := fun z9 => by have q9 := bI_t (p := ¬ (0 ≤ m 0 0 31 % 12 + z % 3 - 1 ∧ m 0 0 31 % 12 + z % 3 - 1 ≤ 11) ∨ sol (bM m (m 0 0 31) v1 (m 0 0 33).toNat 1 28 0) (bM m (m 0 0 31) v1 (m 0 0 33).toNat 1 0 0 30).toNat (bM m (m 0 0 31) v1 (m 0 0 33).toNat 1 0 0 33).toNat (12 * (m 0 0 31 / 12) + (m 0 0 31 % 12 + z % 3 - 1))) (Or.inr (by rw [show 12 * (m 0 0 31 / 12) + (m 0 0 31 % 12 + z % 3 - 1) = m 0 0 31 + (z % 3 - 1) by omega]; exact z9)); omega
            have hsd : z % 3 - 1 ≠ 0 ∧ 0 ≤ m 0 0 31 % 12 + (z % 3 - 1) ∧ m 0 0 31 % 12 + (z % 3 - 1) < 12 ∧ ¬ sol (m 28 0) (m 0 0 30).toNat (m 0 0 33).toNat (m 0 0 31 + (z % 3 - 1)) := ⟨by omega, by omega, by omega, hns⟩
            refine x_iload_n C dX8_moves_75 3 rfl ?_
            refine x_istore_n C (ls' := [(0, .ref (am 0 0)), (1, vI z), (2, vI ((((m 0 0 31) % 12) + (z % 3)) - 1)), (3, vI ((((m 0 0 31) % 12) + (z % 3)) - 1))]) dX8_moves_76 (by decide) rfl ?_
            refine x_aload_n C dX8_moves_77 0 rfl ?_
            refine x_iload_n C dX8_moves_78 2 rfl ?_
            refine x_aload_n C dX8_moves_79 0 rfl ?_
            refine x_get C (v := vI (m 0 0 31)) f30 (T := TX8) rfl kX8_moves_1 31 (by decide) kX8_moves_0 rfl dX8_moves_80 ?_
            refine x_bipush C dX8_moves_83 12 (by decide) ?_
            refine x_idiv C dX8_moves_85 (by omega) (by omega) (by omega) (by omega) ?_
            refine x_callV C (n := 2) (qc := (RX8, TX8, 38)) (As := [vI ((((m 0 0 31) % 12) + (z % 3)) - 1), vI ((m 0 0 31) / 12)]) (rest := []) (c_X8_comes (hcp.1) (by omega) (by omega) (hG) (hKB) (hT9)) gX8_moves_X8_comes (by decide +kernel) f30 rfl rfl rfl rfl (Nat.le_of_ble_eq_true rfl) ⟨by decide, by decide⟩ ⟨(by decide), (by decide)⟩ dX8_moves_86 (fun rv37 h38 hp39 => ?_)
            obtain ⟨rfl, cp41⟩ := hp39
            have cp42 : MP D am h (bdM ((bM m (m 0 0 31) v1 (m 0 0 33).toNat 1)) (cm (((bM m (m 0 0 31) v1 (m 0 0 33).toNat 1)) 28 0) (KBm ((bM m (m 0 0 31) v1 (m 0 0 33).toNat 1))) (12 * ((m 0 0 31) / 12) + ((((m 0 0 31) % 12) + (z % 3)) - 1)) (((bM m (m 0 0 31) v1 (m 0 0 33).toNat 1)) 0 0 31, (((bM m (m 0 0 31) v1 (m 0 0 33).toNat 1)) 0 0 33).toNat, 1))) h38 := MP.trans hcp cp41
            have SDD : ∀ (c1 s1 w9 : Int) (t1 : Nat) (h43 : vh)   (hx : (c1, t1, s1) = (sd (m 28 0) (KBm m) (m 0 0 30).toNat (z % 3 - 1) ((m 0 0 31), (m 0 0 33).toNat, 1))) (hcp2 : MP D am h (bM m c1 v1 t1 s1) h43), X κ 0 0 h43 [(0, .ref (am 0 0)), (1, vI z), (2, vI (c1 % 12)), (3, vI w9)] 89 [] := by
              intro c1 s1 w9 t1 h43 hx hcp2
              sorry
            have hcm : (cm (m 28 0) (KBm m) ((m 0 0 31) + (z % 3 - 1)) ((m 0 0 31), (m 0 0 33).toNat, 1)).1 = m 0 0 31 + (z % 3 - 1) := by unfold cm; rw [if_pos (by omega)]
            rw [show m 0 0 31 % 12 + z % 3 - 1 = (cm (m 28 0) (KBm m) ((m 0 0 31) + (z % 3 - 1)) ((m 0 0 31), (m 0 0 33).toNat, 1)).1 % 12 by rw [hcm]; omega]
            exact SDD ((cm (m 28 0) (KBm m) ((m 0 0 31) + (z % 3 - 1)) ((m 0 0 31), (m 0 0 33).toNat, 1)).1) ((cm (m 28 0) (KBm m) ((m 0 0 31) + (z % 3 - 1)) ((m 0 0 31), (m 0 0 33).toNat, 1)).2.2) _ ((cm (m 28 0) (KBm m) ((m 0 0 31) + (z % 3 - 1)) ((m 0 0 31), (m 0 0 33).toNat, 1)).2.1) h38 (by unfold sd; rw [if_pos hsd]) (by have q9 := cp42; rw [bM_bd, show 12 * (m 0 0 31 / 12) + (m 0 0 31 % 12 + z % 3 - 1) = m 0 0 31 + (z % 3 - 1) by omega] at q9; exact q9)
      exact ST (m 0 0 32) h (by unfold sv; rw [if_neg hso]) (by have q9 := bM_0 ht.1 hs1 (m := m); rw [← q9]; exact MP.rf hR)
    · skip
      have hso : sol (m 28 0) (m 0 0 30).toNat (m 0 0 33).toNat (m 0 0 31 + 12) := by
          have q9 := bI_ne.mp c25
          rcases q9 with q8 | q8
          · exact absurd (show 0 ≤ m 0 0 31 % 12 ∧ m 0 0 31 % 12 ≤ 11 by omega) q8
          · rw [show 12 * (m 0 0 31 / 12 + 1) + m 0 0 31 % 12 = m 0 0 31 + 12 by omega] at q8; exact q8
      refine x_aload_n C dX8_moves_32 0 rfl ?_
      refine x_iload_n C dX8_moves_33 1 rfl ?_
      refine x_iconst C dX8_moves_34 2 (by decide) ?_
      refine x_icmp_le (tgt := 43) C dX8_moves_35 (by decide) (by omega) (by omega) (fun c44 => ?_) (fun c44 => ?_)
      · skip
        refine x_iconst C dX8_moves_43 0 (by decide) ?_
        refine x_put C f1 (T := TX8) rfl tyX8_ok nmX8 kX8_moves_1 32 (by decide) kX8_moves_2 rfl (fs' := [vI (m 0 0 0), .ref (am 1 0), vI (m 0 0 2), .ref (am 3 0), .ref (am 4 0), .ref (am 5 0), .ref (am 6 0), .ref (am 7 0), .ref (am 8 0), .ref (am 9 0), .ref (am 10 0), .ref (am 11 0), .ref (am 12 0), .ref (am 13 0), vI (m 0 0 14), .ref (am 15 0), .ref (am 16 0), .ref (am 17 0), .ref (am 18 0), .ref (am 19 0), .ref (am 20 0), .ref (am 21 0), .ref (am 22 0), .ref (am 23 0), .ref (am 24 0), .ref (am 25 0), .ref (am 26 0), .ref (am 27 0), .ref (am 28 0), .ref (am 29 0), vI (((m 0 0 30).toNat : Nat) : Int), vI (m 0 0 31), vI 0, vI (((m 0 0 33).toNat : Nat) : Int), vI (m 0 0 34), .ref (am 35 0), .ref (am 36 0), .ref (am 37 0)]) rfl rfl (by simp) rfl dX8_moves_44 (x_hn (fun h45 e46 => ?_))
        have f47 : h45 (am 0 0) = some (eO 8 [vI (m 0 0 0), .ref (am 1 0), vI (m 0 0 2), .ref (am 3 0), .ref (am 4 0), .ref (am 5 0), .ref (am 6 0), .ref (am 7 0), .ref (am 8 0), .ref (am 9 0), .ref (am 10 0), .ref (am 11 0), .ref (am 12 0), .ref (am 13 0), vI (m 0 0 14), .ref (am 15 0), .ref (am 16 0), .ref (am 17 0), .ref (am 18 0), .ref (am 19 0), .ref (am 20 0), .ref (am 21 0), .ref (am 22 0), .ref (am 23 0), .ref (am 24 0), .ref (am 25 0), .ref (am 26 0), .ref (am 27 0), .ref (am 28 0), .ref (am 29 0), vI (((m 0 0 30).toNat : Nat) : Int), vI (m 0 0 31), vI 0, vI (((m 0 0 33).toNat : Nat) : Int), vI (m 0 0 34), .ref (am 35 0), .ref (am 36 0), .ref (am 37 0)]) := by rw [e46]; exact hu_s
        have ST : ∀ (v1 : Int) (h48 : vh)   (hv1 : v1 = (sv (m 28 0) (m 0 0 30).toNat z (m 0 0 31) (m 0 0 32) (m 0 0 33).toNat)) (hcp : MP D am h (bM m (m 0 0 31) v1 (m 0 0 33).toNat 1) h48), X κ 0 0 h48 [(0, .ref (am 0 0)), (1, vI z), (2, vI ((m 0 0 31) % 12))] 47 [] := by
          intro v1 h48 hv1 hcp
          refine x_iload_n C dX8_moves_47 2 rfl ?_
          refine x_iload_n C dX8_moves_48 1 rfl ?_
          refine x_iconst C dX8_moves_49 3 (by decide) ?_
          refine x_irem C dX8_moves_50 (by omega) (by omega) (by omega) (by omega) ?_
          refine x_iadd C dX8_moves_51 ?_
          refine x_iconst C dX8_moves_52 1 (by decide) ?_
          refine x_isub C dX8_moves_53 ?_
          refine x_istore_n C (ls' := [(0, .ref (am 0 0)), (1, vI z), (2, vI ((m 0 0 31) % 12)), (3, vI ((((m 0 0 31) % 12) + (z % 3)) - 1))]) dX8_moves_54 (by decide) rfl ?_
          refine x_iload_n C dX8_moves_55 3 rfl ?_
          refine x_iload_n C dX8_moves_56 2 rfl ?_
          refine x_icmp_eq (tgt := 89) C dX8_moves_57 (by decide) (by omega) (by omega) (fun c49 => ?_) (fun c49 => ?_)
          · skip
            have hsd : ¬ (z % 3 - 1 ≠ 0 ∧ 0 ≤ m 0 0 31 % 12 + (z % 3 - 1) ∧ m 0 0 31 % 12 + (z % 3 - 1) < 12 ∧ ¬ sol (m 28 0) (m 0 0 30).toNat (m 0 0 33).toNat (m 0 0 31 + (z % 3 - 1))) := fun z9 => by omega
            have SDD : ∀ (c1 s1 w9 : Int) (t1 : Nat) (h50 : vh)   (hx : (c1, t1, s1) = (sd (m 28 0) (KBm m) (m 0 0 30).toNat (z % 3 - 1) ((m 0 0 31), (m 0 0 33).toNat, 1))) (hcp2 : MP D am h (bM m c1 v1 t1 s1) h50), X κ 0 0 h50 [(0, .ref (am 0 0)), (1, vI z), (2, vI (c1 % 12)), (3, vI w9)] 89 [] := by
              intro c1 s1 w9 t1 h50 hx hcp2
              sorry
            exact SDD ((m 0 0 31)) 1 _ ((m 0 0 33).toNat) h48 (by unfold sd; rw [if_neg hsd]) (hcp)
          · skip
            have f51 : h48 (am 0 0) = some (eO 8 [vI (((bM m (m 0 0 31) v1 (m 0 0 33).toNat 1) 0 0) 0), .ref (am 1 0), vI (((bM m (m 0 0 31) v1 (m 0 0 33).toNat 1) 0 0) 2), .ref (am 3 0), .ref (am 4 0), .ref (am 5 0), .ref (am 6 0), .ref (am 7 0), .ref (am 8 0), .ref (am 9 0), .ref (am 10 0), .ref (am 11 0), .ref (am 12 0), .ref (am 13 0), vI (((bM m (m 0 0 31) v1 (m 0 0 33).toNat 1) 0 0) 14), .ref (am 15 0), .ref (am 16 0), .ref (am 17 0), .ref (am 18 0), .ref (am 19 0), .ref (am 20 0), .ref (am 21 0), .ref (am 22 0), .ref (am 23 0), .ref (am 24 0), .ref (am 25 0), .ref (am 26 0), .ref (am 27 0), .ref (am 28 0), .ref (am 29 0), vI (((((bM m (m 0 0 31) v1 (m 0 0 33).toNat 1) 0 0) 30).toNat : Nat) : Int), vI (((bM m (m 0 0 31) v1 (m 0 0 33).toNat 1) 0 0) 31), vI (((bM m (m 0 0 31) v1 (m 0 0 33).toNat 1) 0 0) 32), vI (((((bM m (m 0 0 31) v1 (m 0 0 33).toNat 1) 0 0) 33).toNat : Nat) : Int), vI (((bM m (m 0 0 31) v1 (m 0 0 33).toNat 1) 0 0) 34), .ref (am 35 0), .ref (am 36 0), .ref (am 37 0)]) := hcp.1.1 0 0 (lm0 (by decide))
            have f52 : h48 (am 0 0) = some (eO 8 [vI (((bM m (m 0 0 31) v1 (m 0 0 33).toNat 1) 0 0) 0), .ref (am 1 0), vI (((bM m (m 0 0 31) v1 (m 0 0 33).toNat 1) 0 0) 2), .ref (am 3 0), .ref (am 4 0), .ref (am 5 0), .ref (am 6 0), .ref (am 7 0), .ref (am 8 0), .ref (am 9 0), .ref (am 10 0), .ref (am 11 0), .ref (am 12 0), .ref (am 13 0), vI (((bM m (m 0 0 31) v1 (m 0 0 33).toNat 1) 0 0) 14), .ref (am 15 0), .ref (am 16 0), .ref (am 17 0), .ref (am 18 0), .ref (am 19 0), .ref (am 20 0), .ref (am 21 0), .ref (am 22 0), .ref (am 23 0), .ref (am 24 0), .ref (am 25 0), .ref (am 26 0), .ref (am 27 0), .ref (am 28 0), .ref (am 29 0), vI (((((bM m (m 0 0 31) v1 (m 0 0 33).toNat 1) 0 0) 30).toNat : Nat) : Int), vI (m 0 0 31), vI v1, vI (((m 0 0 33).toNat : Nat) : Int), vI 1, .ref (am 35 0), .ref (am 36 0), .ref (am 37 0)]) := by have q9 := f51; exact q9
            refine x_aload_n C dX8_moves_60 0 rfl ?_
            refine x_iload_n C dX8_moves_61 3 rfl ?_
            refine x_aload_n C dX8_moves_62 0 rfl ?_
            refine x_get C (v := vI (m 0 0 31)) f52 (T := TX8) rfl kX8_moves_1 31 (by decide) kX8_moves_0 rfl dX8_moves_63 ?_
            refine x_bipush C dX8_moves_66 12 (by decide) ?_
            refine x_idiv C dX8_moves_68 (by omega) (by omega) (by omega) (by omega) ?_
            refine x_callV C (n := 2) (qc := (RX8, TX8, 38)) (As := [vI ((((m 0 0 31) % 12) + (z % 3)) - 1), vI ((m 0 0 31) / 12)]) (rest := []) (c_X8_isSolid (hcp.1) (by omega) (by omega) (hG) (hT9) (hal)) gX8_moves_X8_isSolid (by decide +kernel) f52 rfl rfl rfl rfl (Nat.le_of_ble_eq_true rfl) ⟨by decide, by decide⟩ ⟨(by decide), (by decide)⟩ dX8_moves_69 (fun rv53 h54 hp55 => ?_)
            obtain ⟨rfl, e56⟩ := hp55
            obtain rfl := e56.symm
            have hbr := bI_01 (¬ (0 ≤ ((((m 0 0 31) % 12) + (z % 3)) - 1) ∧ ((((m 0 0 31) % 12) + (z % 3)) - 1) ≤ 11) ∨ sol (((bM m (m 0 0 31) v1 (m 0 0 33).toNat 1)) 28 0) (((bM m (m 0 0 31) v1 (m 0 0 33).toNat 1)) 0 0 30).toNat (((bM m (m 0 0 31) v1 (m 0 0 33).toNat 1)) 0 0 33).toNat (12 * ((m 0 0 31) / 12) + ((((m 0 0 31) % 12) + (z % 3)) - 1)))
            refine x_if_ne (tgt := 89) C dX8_moves_72 (by decide) (by omega) (fun c57 => ?_) (fun c57 => ?_)
            · skip
              have hsd : ¬ (z % 3 - 1 ≠ 0 ∧ 0 ≤ m 0 0 31 % 12 + (z % 3 - 1) ∧ m 0 0 31 % 12 + (z % 3 - 1) < 12 ∧ ¬ sol (m 28 0) (m 0 0 30).toNat (m 0 0 33).toNat (m 0 0 31 + (z % 3 - 1))) := fun z9 => by
                  have q9 := bI_ne.mp c57
                  rcases q9 with q8 | q8
                  · exact q8 (by omega)
                  · have q7 : sol (m 28 0) (m 0 0 30).toNat (m 0 0 33).toNat (m 0 0 31 + (z % 3 - 1)) := by rw [show m 0 0 31 + (z % 3 - 1) = 12 * (m 0 0 31 / 12) + (m 0 0 31 % 12 + z % 3 - 1) by omega]; exact q8
                    exact z9.2.2.2 q7
              have SDD : ∀ (c1 s1 w9 : Int) (t1 : Nat) (h58 : vh)   (hx : (c1, t1, s1) = (sd (m 28 0) (KBm m) (m 0 0 30).toNat (z % 3 - 1) ((m 0 0 31), (m 0 0 33).toNat, 1))) (hcp2 : MP D am h (bM m c1 v1 t1 s1) h58), X κ 0 0 h58 [(0, .ref (am 0 0)), (1, vI z), (2, vI (c1 % 12)), (3, vI w9)] 89 [] := by
                intro c1 s1 w9 t1 h58 hx hcp2
                sorry
              exact SDD ((m 0 0 31)) 1 _ ((m 0 0 33).toNat) h48 (by unfold sd; rw [if_neg hsd]) (hcp)
            · skip
              have hto : 0 ≤ m 0 0 31 % 12 + z % 3 - 1 ∧ m 0 0 31 % 12 + z % 3 - 1 ≤ 11 := Classical.byContradiction (fun z9 => by have q9 := bI_t (p := ¬ (0 ≤ m 0 0 31 % 12 + z % 3 - 1 ∧ m 0 0 31 % 12 + z % 3 - 1 ≤ 11) ∨ sol (bM m (m 0 0 31) v1 (m 0 0 33).toNat 1 28 0) (bM m (m 0 0 31) v1 (m 0 0 33).toNat 1 0 0 30).toNat (bM m (m 0 0 31) v1 (m 0 0 33).toNat 1 0 0 33).toNat (12 * (m 0 0 31 / 12) + (m 0 0 31 % 12 + z % 3 - 1))) (Or.inl z9); omega)
              have hns : ¬ sol (m 28 0) (m 0 0 30).toNat (m 0 0 33).toNat (m 0 0 31 + (z % 3 - 1)) := fun z9 => by have q9 := bI_t (p := ¬ (0 ≤ m 0 0 31 % 12 + z % 3 - 1 ∧ m 0 0 31 % 12 + z % 3 - 1 ≤ 11) ∨ sol (bM m (m 0 0 31) v1 (m 0 0 33).toNat 1 28 0) (bM m (m 0 0 31) v1 (m 0 0 33).toNat 1 0 0 30).toNat (bM m (m 0 0 31) v1 (m 0 0 33).toNat 1 0 0 33).toNat (12 * (m 0 0 31 / 12) + (m 0 0 31 % 12 + z % 3 - 1))) (Or.inr (by rw [show 12 * (m 0 0 31 / 12) + (m 0 0 31 % 12 + z % 3 - 1) = m 0 0 31 + (z % 3 - 1) by omega]; exact z9)); omega
              have hsd : z % 3 - 1 ≠ 0 ∧ 0 ≤ m 0 0 31 % 12 + (z % 3 - 1) ∧ m 0 0 31 % 12 + (z % 3 - 1) < 12 ∧ ¬ sol (m 28 0) (m 0 0 30).toNat (m 0 0 33).toNat (m 0 0 31 + (z % 3 - 1)) := ⟨by omega, by omega, by omega, hns⟩
              refine x_iload_n C dX8_moves_75 3 rfl ?_
              refine x_istore_n C (ls' := [(0, .ref (am 0 0)), (1, vI z), (2, vI ((((m 0 0 31) % 12) + (z % 3)) - 1)), (3, vI ((((m 0 0 31) % 12) + (z % 3)) - 1))]) dX8_moves_76 (by decide) rfl ?_
              refine x_aload_n C dX8_moves_77 0 rfl ?_
              refine x_iload_n C dX8_moves_78 2 rfl ?_
              refine x_aload_n C dX8_moves_79 0 rfl ?_
              refine x_get C (v := vI (m 0 0 31)) f52 (T := TX8) rfl kX8_moves_1 31 (by decide) kX8_moves_0 rfl dX8_moves_80 ?_
              refine x_bipush C dX8_moves_83 12 (by decide) ?_
              refine x_idiv C dX8_moves_85 (by omega) (by omega) (by omega) (by omega) ?_
              refine x_callV C (n := 2) (qc := (RX8, TX8, 38)) (As := [vI ((((m 0 0 31) % 12) + (z % 3)) - 1), vI ((m 0 0 31) / 12)]) (rest := []) (c_X8_comes (hcp.1) (by omega) (by omega) (hG) (hKB) (hT9)) gX8_moves_X8_comes (by decide +kernel) f52 rfl rfl rfl rfl (Nat.le_of_ble_eq_true rfl) ⟨by decide, by decide⟩ ⟨(by decide), (by decide)⟩ dX8_moves_86 (fun rv59 h60 hp61 => ?_)
              obtain ⟨rfl, cp63⟩ := hp61
              have cp64 : MP D am h (bdM ((bM m (m 0 0 31) v1 (m 0 0 33).toNat 1)) (cm (((bM m (m 0 0 31) v1 (m 0 0 33).toNat 1)) 28 0) (KBm ((bM m (m 0 0 31) v1 (m 0 0 33).toNat 1))) (12 * ((m 0 0 31) / 12) + ((((m 0 0 31) % 12) + (z % 3)) - 1)) (((bM m (m 0 0 31) v1 (m 0 0 33).toNat 1)) 0 0 31, (((bM m (m 0 0 31) v1 (m 0 0 33).toNat 1)) 0 0 33).toNat, 1))) h60 := MP.trans hcp cp63
              have SDD : ∀ (c1 s1 w9 : Int) (t1 : Nat) (h65 : vh)   (hx : (c1, t1, s1) = (sd (m 28 0) (KBm m) (m 0 0 30).toNat (z % 3 - 1) ((m 0 0 31), (m 0 0 33).toNat, 1))) (hcp2 : MP D am h (bM m c1 v1 t1 s1) h65), X κ 0 0 h65 [(0, .ref (am 0 0)), (1, vI z), (2, vI (c1 % 12)), (3, vI w9)] 89 [] := by
                intro c1 s1 w9 t1 h65 hx hcp2
                sorry
              have hcm : (cm (m 28 0) (KBm m) ((m 0 0 31) + (z % 3 - 1)) ((m 0 0 31), (m 0 0 33).toNat, 1)).1 = m 0 0 31 + (z % 3 - 1) := by unfold cm; rw [if_pos (by omega)]
              rw [show m 0 0 31 % 12 + z % 3 - 1 = (cm (m 28 0) (KBm m) ((m 0 0 31) + (z % 3 - 1)) ((m 0 0 31), (m 0 0 33).toNat, 1)).1 % 12 by rw [hcm]; omega]
              exact SDD ((cm (m 28 0) (KBm m) ((m 0 0 31) + (z % 3 - 1)) ((m 0 0 31), (m 0 0 33).toNat, 1)).1) ((cm (m 28 0) (KBm m) ((m 0 0 31) + (z % 3 - 1)) ((m 0 0 31), (m 0 0 33).toNat, 1)).2.2) _ ((cm (m 28 0) (KBm m) ((m 0 0 31) + (z % 3 - 1)) ((m 0 0 31), (m 0 0 33).toNat, 1)).2.1) h60 (by unfold sd; rw [if_pos hsd]) (by have q9 := cp64; rw [bM_bd, show 12 * (m 0 0 31 / 12) + (m 0 0 31 % 12 + z % 3 - 1) = m 0 0 31 + (z % 3 - 1) by omega] at q9; exact q9)
        have cp66 : MP D am h (cu m 0 0 ((fu (m 0 0) 32 0))) h45 := by rw [e46]; exact (MP.up (MP.rf hR) (lm0 (by decide)) ((fu (m 0 0) 32 0)) rfl)
        exact ST 0 h45 (by unfold sv; rw [if_pos ⟨by omega, hso⟩]; first | rw [if_pos (by omega)] | rw [if_neg (by omega)]) (by have q9 := cp66; rw [bM_32 ht.1 hs1] at q9; exact q9)
      · skip
        refine x_bipush C dX8_moves_38 (-2) (by decide) ?_
        refine x_goto (tgt := 44) C dX8_moves_40 (by decide) ?_
        refine x_put C f1 (T := TX8) rfl tyX8_ok nmX8 kX8_moves_1 32 (by decide) kX8_moves_2 rfl (fs' := [vI (m 0 0 0), .ref (am 1 0), vI (m 0 0 2), .ref (am 3 0), .ref (am 4 0), .ref (am 5 0), .ref (am 6 0), .ref (am 7 0), .ref (am 8 0), .ref (am 9 0), .ref (am 10 0), .ref (am 11 0), .ref (am 12 0), .ref (am 13 0), vI (m 0 0 14), .ref (am 15 0), .ref (am 16 0), .ref (am 17 0), .ref (am 18 0), .ref (am 19 0), .ref (am 20 0), .ref (am 21 0), .ref (am 22 0), .ref (am 23 0), .ref (am 24 0), .ref (am 25 0), .ref (am 26 0), .ref (am 27 0), .ref (am 28 0), .ref (am 29 0), vI (((m 0 0 30).toNat : Nat) : Int), vI (m 0 0 31), vI (-2), vI (((m 0 0 33).toNat : Nat) : Int), vI (m 0 0 34), .ref (am 35 0), .ref (am 36 0), .ref (am 37 0)]) rfl rfl (by simp) rfl dX8_moves_44 (x_hn (fun h67 e68 => ?_))
        have f69 : h67 (am 0 0) = some (eO 8 [vI (m 0 0 0), .ref (am 1 0), vI (m 0 0 2), .ref (am 3 0), .ref (am 4 0), .ref (am 5 0), .ref (am 6 0), .ref (am 7 0), .ref (am 8 0), .ref (am 9 0), .ref (am 10 0), .ref (am 11 0), .ref (am 12 0), .ref (am 13 0), vI (m 0 0 14), .ref (am 15 0), .ref (am 16 0), .ref (am 17 0), .ref (am 18 0), .ref (am 19 0), .ref (am 20 0), .ref (am 21 0), .ref (am 22 0), .ref (am 23 0), .ref (am 24 0), .ref (am 25 0), .ref (am 26 0), .ref (am 27 0), .ref (am 28 0), .ref (am 29 0), vI (((m 0 0 30).toNat : Nat) : Int), vI (m 0 0 31), vI (-2), vI (((m 0 0 33).toNat : Nat) : Int), vI (m 0 0 34), .ref (am 35 0), .ref (am 36 0), .ref (am 37 0)]) := by rw [e68]; exact hu_s
        have ST : ∀ (v1 : Int) (h70 : vh)   (hv1 : v1 = (sv (m 28 0) (m 0 0 30).toNat z (m 0 0 31) (m 0 0 32) (m 0 0 33).toNat)) (hcp : MP D am h (bM m (m 0 0 31) v1 (m 0 0 33).toNat 1) h70), X κ 0 0 h70 [(0, .ref (am 0 0)), (1, vI z), (2, vI ((m 0 0 31) % 12))] 47 [] := by
          intro v1 h70 hv1 hcp
          refine x_iload_n C dX8_moves_47 2 rfl ?_
          refine x_iload_n C dX8_moves_48 1 rfl ?_
          refine x_iconst C dX8_moves_49 3 (by decide) ?_
          refine x_irem C dX8_moves_50 (by omega) (by omega) (by omega) (by omega) ?_
          refine x_iadd C dX8_moves_51 ?_
          refine x_iconst C dX8_moves_52 1 (by decide) ?_
          refine x_isub C dX8_moves_53 ?_
          refine x_istore_n C (ls' := [(0, .ref (am 0 0)), (1, vI z), (2, vI ((m 0 0 31) % 12)), (3, vI ((((m 0 0 31) % 12) + (z % 3)) - 1))]) dX8_moves_54 (by decide) rfl ?_
          refine x_iload_n C dX8_moves_55 3 rfl ?_
          refine x_iload_n C dX8_moves_56 2 rfl ?_
          refine x_icmp_eq (tgt := 89) C dX8_moves_57 (by decide) (by omega) (by omega) (fun c71 => ?_) (fun c71 => ?_)
          · skip
            have hsd : ¬ (z % 3 - 1 ≠ 0 ∧ 0 ≤ m 0 0 31 % 12 + (z % 3 - 1) ∧ m 0 0 31 % 12 + (z % 3 - 1) < 12 ∧ ¬ sol (m 28 0) (m 0 0 30).toNat (m 0 0 33).toNat (m 0 0 31 + (z % 3 - 1))) := fun z9 => by omega
            have SDD : ∀ (c1 s1 w9 : Int) (t1 : Nat) (h72 : vh)   (hx : (c1, t1, s1) = (sd (m 28 0) (KBm m) (m 0 0 30).toNat (z % 3 - 1) ((m 0 0 31), (m 0 0 33).toNat, 1))) (hcp2 : MP D am h (bM m c1 v1 t1 s1) h72), X κ 0 0 h72 [(0, .ref (am 0 0)), (1, vI z), (2, vI (c1 % 12)), (3, vI w9)] 89 [] := by
              intro c1 s1 w9 t1 h72 hx hcp2
              sorry
            exact SDD ((m 0 0 31)) 1 _ ((m 0 0 33).toNat) h70 (by unfold sd; rw [if_neg hsd]) (hcp)
          · skip
            have f73 : h70 (am 0 0) = some (eO 8 [vI (((bM m (m 0 0 31) v1 (m 0 0 33).toNat 1) 0 0) 0), .ref (am 1 0), vI (((bM m (m 0 0 31) v1 (m 0 0 33).toNat 1) 0 0) 2), .ref (am 3 0), .ref (am 4 0), .ref (am 5 0), .ref (am 6 0), .ref (am 7 0), .ref (am 8 0), .ref (am 9 0), .ref (am 10 0), .ref (am 11 0), .ref (am 12 0), .ref (am 13 0), vI (((bM m (m 0 0 31) v1 (m 0 0 33).toNat 1) 0 0) 14), .ref (am 15 0), .ref (am 16 0), .ref (am 17 0), .ref (am 18 0), .ref (am 19 0), .ref (am 20 0), .ref (am 21 0), .ref (am 22 0), .ref (am 23 0), .ref (am 24 0), .ref (am 25 0), .ref (am 26 0), .ref (am 27 0), .ref (am 28 0), .ref (am 29 0), vI (((((bM m (m 0 0 31) v1 (m 0 0 33).toNat 1) 0 0) 30).toNat : Nat) : Int), vI (((bM m (m 0 0 31) v1 (m 0 0 33).toNat 1) 0 0) 31), vI (((bM m (m 0 0 31) v1 (m 0 0 33).toNat 1) 0 0) 32), vI (((((bM m (m 0 0 31) v1 (m 0 0 33).toNat 1) 0 0) 33).toNat : Nat) : Int), vI (((bM m (m 0 0 31) v1 (m 0 0 33).toNat 1) 0 0) 34), .ref (am 35 0), .ref (am 36 0), .ref (am 37 0)]) := hcp.1.1 0 0 (lm0 (by decide))
            have f74 : h70 (am 0 0) = some (eO 8 [vI (((bM m (m 0 0 31) v1 (m 0 0 33).toNat 1) 0 0) 0), .ref (am 1 0), vI (((bM m (m 0 0 31) v1 (m 0 0 33).toNat 1) 0 0) 2), .ref (am 3 0), .ref (am 4 0), .ref (am 5 0), .ref (am 6 0), .ref (am 7 0), .ref (am 8 0), .ref (am 9 0), .ref (am 10 0), .ref (am 11 0), .ref (am 12 0), .ref (am 13 0), vI (((bM m (m 0 0 31) v1 (m 0 0 33).toNat 1) 0 0) 14), .ref (am 15 0), .ref (am 16 0), .ref (am 17 0), .ref (am 18 0), .ref (am 19 0), .ref (am 20 0), .ref (am 21 0), .ref (am 22 0), .ref (am 23 0), .ref (am 24 0), .ref (am 25 0), .ref (am 26 0), .ref (am 27 0), .ref (am 28 0), .ref (am 29 0), vI (((((bM m (m 0 0 31) v1 (m 0 0 33).toNat 1) 0 0) 30).toNat : Nat) : Int), vI (m 0 0 31), vI v1, vI (((m 0 0 33).toNat : Nat) : Int), vI 1, .ref (am 35 0), .ref (am 36 0), .ref (am 37 0)]) := by have q9 := f73; exact q9
            refine x_aload_n C dX8_moves_60 0 rfl ?_
            refine x_iload_n C dX8_moves_61 3 rfl ?_
            refine x_aload_n C dX8_moves_62 0 rfl ?_
            refine x_get C (v := vI (m 0 0 31)) f74 (T := TX8) rfl kX8_moves_1 31 (by decide) kX8_moves_0 rfl dX8_moves_63 ?_
            refine x_bipush C dX8_moves_66 12 (by decide) ?_
            refine x_idiv C dX8_moves_68 (by omega) (by omega) (by omega) (by omega) ?_
            refine x_callV C (n := 2) (qc := (RX8, TX8, 38)) (As := [vI ((((m 0 0 31) % 12) + (z % 3)) - 1), vI ((m 0 0 31) / 12)]) (rest := []) (c_X8_isSolid (hcp.1) (by omega) (by omega) (hG) (hT9) (hal)) gX8_moves_X8_isSolid (by decide +kernel) f74 rfl rfl rfl rfl (Nat.le_of_ble_eq_true rfl) ⟨by decide, by decide⟩ ⟨(by decide), (by decide)⟩ dX8_moves_69 (fun rv75 h76 hp77 => ?_)
            obtain ⟨rfl, e78⟩ := hp77
            obtain rfl := e78.symm
            have hbr := bI_01 (¬ (0 ≤ ((((m 0 0 31) % 12) + (z % 3)) - 1) ∧ ((((m 0 0 31) % 12) + (z % 3)) - 1) ≤ 11) ∨ sol (((bM m (m 0 0 31) v1 (m 0 0 33).toNat 1)) 28 0) (((bM m (m 0 0 31) v1 (m 0 0 33).toNat 1)) 0 0 30).toNat (((bM m (m 0 0 31) v1 (m 0 0 33).toNat 1)) 0 0 33).toNat (12 * ((m 0 0 31) / 12) + ((((m 0 0 31) % 12) + (z % 3)) - 1)))
            refine x_if_ne (tgt := 89) C dX8_moves_72 (by decide) (by omega) (fun c79 => ?_) (fun c79 => ?_)
            · skip
              have hsd : ¬ (z % 3 - 1 ≠ 0 ∧ 0 ≤ m 0 0 31 % 12 + (z % 3 - 1) ∧ m 0 0 31 % 12 + (z % 3 - 1) < 12 ∧ ¬ sol (m 28 0) (m 0 0 30).toNat (m 0 0 33).toNat (m 0 0 31 + (z % 3 - 1))) := fun z9 => by
                  have q9 := bI_ne.mp c79
                  rcases q9 with q8 | q8
                  · exact q8 (by omega)
                  · have q7 : sol (m 28 0) (m 0 0 30).toNat (m 0 0 33).toNat (m 0 0 31 + (z % 3 - 1)) := by rw [show m 0 0 31 + (z % 3 - 1) = 12 * (m 0 0 31 / 12) + (m 0 0 31 % 12 + z % 3 - 1) by omega]; exact q8
                    exact z9.2.2.2 q7
              have SDD : ∀ (c1 s1 w9 : Int) (t1 : Nat) (h80 : vh)   (hx : (c1, t1, s1) = (sd (m 28 0) (KBm m) (m 0 0 30).toNat (z % 3 - 1) ((m 0 0 31), (m 0 0 33).toNat, 1))) (hcp2 : MP D am h (bM m c1 v1 t1 s1) h80), X κ 0 0 h80 [(0, .ref (am 0 0)), (1, vI z), (2, vI (c1 % 12)), (3, vI w9)] 89 [] := by
                intro c1 s1 w9 t1 h80 hx hcp2
                sorry
              exact SDD ((m 0 0 31)) 1 _ ((m 0 0 33).toNat) h70 (by unfold sd; rw [if_neg hsd]) (hcp)
            · skip
              have hto : 0 ≤ m 0 0 31 % 12 + z % 3 - 1 ∧ m 0 0 31 % 12 + z % 3 - 1 ≤ 11 := Classical.byContradiction (fun z9 => by have q9 := bI_t (p := ¬ (0 ≤ m 0 0 31 % 12 + z % 3 - 1 ∧ m 0 0 31 % 12 + z % 3 - 1 ≤ 11) ∨ sol (bM m (m 0 0 31) v1 (m 0 0 33).toNat 1 28 0) (bM m (m 0 0 31) v1 (m 0 0 33).toNat 1 0 0 30).toNat (bM m (m 0 0 31) v1 (m 0 0 33).toNat 1 0 0 33).toNat (12 * (m 0 0 31 / 12) + (m 0 0 31 % 12 + z % 3 - 1))) (Or.inl z9); omega)
              have hns : ¬ sol (m 28 0) (m 0 0 30).toNat (m 0 0 33).toNat (m 0 0 31 + (z % 3 - 1)) := fun z9 => by have q9 := bI_t (p := ¬ (0 ≤ m 0 0 31 % 12 + z % 3 - 1 ∧ m 0 0 31 % 12 + z % 3 - 1 ≤ 11) ∨ sol (bM m (m 0 0 31) v1 (m 0 0 33).toNat 1 28 0) (bM m (m 0 0 31) v1 (m 0 0 33).toNat 1 0 0 30).toNat (bM m (m 0 0 31) v1 (m 0 0 33).toNat 1 0 0 33).toNat (12 * (m 0 0 31 / 12) + (m 0 0 31 % 12 + z % 3 - 1))) (Or.inr (by rw [show 12 * (m 0 0 31 / 12) + (m 0 0 31 % 12 + z % 3 - 1) = m 0 0 31 + (z % 3 - 1) by omega]; exact z9)); omega
              have hsd : z % 3 - 1 ≠ 0 ∧ 0 ≤ m 0 0 31 % 12 + (z % 3 - 1) ∧ m 0 0 31 % 12 + (z % 3 - 1) < 12 ∧ ¬ sol (m 28 0) (m 0 0 30).toNat (m 0 0 33).toNat (m 0 0 31 + (z % 3 - 1)) := ⟨by omega, by omega, by omega, hns⟩
              refine x_iload_n C dX8_moves_75 3 rfl ?_
              refine x_istore_n C (ls' := [(0, .ref (am 0 0)), (1, vI z), (2, vI ((((m 0 0 31) % 12) + (z % 3)) - 1)), (3, vI ((((m 0 0 31) % 12) + (z % 3)) - 1))]) dX8_moves_76 (by decide) rfl ?_
              refine x_aload_n C dX8_moves_77 0 rfl ?_
              refine x_iload_n C dX8_moves_78 2 rfl ?_
              refine x_aload_n C dX8_moves_79 0 rfl ?_
              refine x_get C (v := vI (m 0 0 31)) f74 (T := TX8) rfl kX8_moves_1 31 (by decide) kX8_moves_0 rfl dX8_moves_80 ?_
              refine x_bipush C dX8_moves_83 12 (by decide) ?_
              refine x_idiv C dX8_moves_85 (by omega) (by omega) (by omega) (by omega) ?_
              refine x_callV C (n := 2) (qc := (RX8, TX8, 38)) (As := [vI ((((m 0 0 31) % 12) + (z % 3)) - 1), vI ((m 0 0 31) / 12)]) (rest := []) (c_X8_comes (hcp.1) (by omega) (by omega) (hG) (hKB) (hT9)) gX8_moves_X8_comes (by decide +kernel) f74 rfl rfl rfl rfl (Nat.le_of_ble_eq_true rfl) ⟨by decide, by decide⟩ ⟨(by decide), (by decide)⟩ dX8_moves_86 (fun rv81 h82 hp83 => ?_)
              obtain ⟨rfl, cp85⟩ := hp83
              have cp86 : MP D am h (bdM ((bM m (m 0 0 31) v1 (m 0 0 33).toNat 1)) (cm (((bM m (m 0 0 31) v1 (m 0 0 33).toNat 1)) 28 0) (KBm ((bM m (m 0 0 31) v1 (m 0 0 33).toNat 1))) (12 * ((m 0 0 31) / 12) + ((((m 0 0 31) % 12) + (z % 3)) - 1)) (((bM m (m 0 0 31) v1 (m 0 0 33).toNat 1)) 0 0 31, (((bM m (m 0 0 31) v1 (m 0 0 33).toNat 1)) 0 0 33).toNat, 1))) h82 := MP.trans hcp cp85
              have SDD : ∀ (c1 s1 w9 : Int) (t1 : Nat) (h87 : vh)   (hx : (c1, t1, s1) = (sd (m 28 0) (KBm m) (m 0 0 30).toNat (z % 3 - 1) ((m 0 0 31), (m 0 0 33).toNat, 1))) (hcp2 : MP D am h (bM m c1 v1 t1 s1) h87), X κ 0 0 h87 [(0, .ref (am 0 0)), (1, vI z), (2, vI (c1 % 12)), (3, vI w9)] 89 [] := by
                intro c1 s1 w9 t1 h87 hx hcp2
                sorry
              have hcm : (cm (m 28 0) (KBm m) ((m 0 0 31) + (z % 3 - 1)) ((m 0 0 31), (m 0 0 33).toNat, 1)).1 = m 0 0 31 + (z % 3 - 1) := by unfold cm; rw [if_pos (by omega)]
              rw [show m 0 0 31 % 12 + z % 3 - 1 = (cm (m 28 0) (KBm m) ((m 0 0 31) + (z % 3 - 1)) ((m 0 0 31), (m 0 0 33).toNat, 1)).1 % 12 by rw [hcm]; omega]
              exact SDD ((cm (m 28 0) (KBm m) ((m 0 0 31) + (z % 3 - 1)) ((m 0 0 31), (m 0 0 33).toNat, 1)).1) ((cm (m 28 0) (KBm m) ((m 0 0 31) + (z % 3 - 1)) ((m 0 0 31), (m 0 0 33).toNat, 1)).2.2) _ ((cm (m 28 0) (KBm m) ((m 0 0 31) + (z % 3 - 1)) ((m 0 0 31), (m 0 0 33).toNat, 1)).2.1) h82 (by unfold sd; rw [if_pos hsd]) (by have q9 := cp86; rw [bM_bd, show 12 * (m 0 0 31 / 12) + (m 0 0 31 % 12 + z % 3 - 1) = m 0 0 31 + (z % 3 - 1) by omega] at q9; exact q9)
        have cp88 : MP D am h (cu m 0 0 ((fu (m 0 0) 32 ((-2))))) h67 := by rw [e68]; exact (MP.up (MP.rf hR) (lm0 (by decide)) ((fu (m 0 0) 32 ((-2)))) rfl)
        exact ST ((-2)) h67 (by unfold sv; rw [if_pos ⟨by omega, hso⟩]; first | rw [if_pos (by omega)] | rw [if_neg (by omega)]) (by have q9 := cp88; rw [bM_32 ht.1 hs1] at q9; exact q9)


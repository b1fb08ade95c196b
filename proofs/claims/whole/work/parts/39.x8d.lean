def bM (m : CS) (c v : Int) (t : Nat) (s : Int) : CS := cu m 0 0 (fu (fu (fu (fu (m 0 0) 31 c) 32 v) 33 ((t : Nat) : Int)) 34 s)
theorem fu4 {f : Nat → Int} {a b c d a' b' c' d' : Int} : fu (fu (fu (fu (fu (fu (fu (fu f 31 a) 32 b) 33 c) 34 d) 31 a') 32 b') 33 c') 34 d' = fu (fu (fu (fu f 31 a') 32 b') 33 c') 34 d' := by
  funext j
  unfold fu
  by_cases h1 : j = 34
  · simp only [if_pos h1]
  · by_cases h2 : j = 33
    · simp only [if_neg h1, if_pos h2]
    · by_cases h3 : j = 32
      · simp only [if_neg h1, if_neg h2, if_pos h3]
      · by_cases h4 : j = 31
        · simp only [if_neg h1, if_neg h2, if_neg h3, if_pos h4]
        · simp only [if_neg h1, if_neg h2, if_neg h3, if_neg h4]
theorem bM_up {m : CS} {a b a' b' : Int} {c c' : Nat} {d d' : Int} : cu (bM m a b c d) 0 0 (fu (fu (fu (fu (bM m a b c d 0 0) 31 a') 32 b') 33 ((c' : Nat) : Int)) 34 d') = bM m a' b' c' d' := by
  rw [show bM m a b c d 0 0 = fu (fu (fu (fu (m 0 0) 31 a) 32 b) 33 ((c : Nat) : Int)) 34 d from cu_s, fu4]
  unfold bM
  rw [cu_u]
theorem bM_bd {m : CS} {a b : Int} {c : Nat} {d : Int} {x : Int × Nat × Int} : bdM (bM m a b c d) x = bM m x.1 b x.2.1 x.2.2 := by
  unfold bdM
  have e : fu (fu (fu (bM m a b c d 0 0) 31 x.1) 33 ((x.2.1 : Nat) : Int)) 34 x.2.2 = fu (fu (fu (fu (bM m a b c d 0 0) 31 x.1) 32 b) 33 ((x.2.1 : Nat) : Int)) 34 x.2.2 := by
    have h32 : bM m a b c d 0 0 32 = b := rfl
    funext j
    unfold fu
    by_cases h1 : j = 34
    · simp only [if_pos h1]
    · by_cases h2 : j = 33
      · simp only [if_neg h1, if_pos h2]
      · by_cases h3 : j = 32
        · simp only [if_neg h1, if_neg h2, if_pos h3]
          rw [h3, if_neg (by decide)]; exact h32
        · simp only [if_neg h1, if_neg h2, if_neg h3]
  rw [e]; exact bM_up
theorem bM_32 {m : CS} {v : Int} (h33 : 0 ≤ m 0 0 33) (h34 : m 0 0 34 = 1) : cu m 0 0 (fu (m 0 0) 32 v) = bM m (m 0 0 31) v (m 0 0 33).toNat 1 := by
  unfold bM
  have e : fu (m 0 0) 32 v = fu (fu (fu (fu (m 0 0) 31 (m 0 0 31)) 32 v) 33 (((m 0 0 33).toNat : Nat) : Int)) 34 1 := by
    funext j
    unfold fu
    by_cases h1 : j = 34
    · rw [if_pos h1, if_neg (by omega), h1]; exact h34
    · rw [if_neg h1]
      by_cases h2 : j = 33
      · rw [if_pos h2, if_neg (by omega), h2]; omega
      · rw [if_neg h2]
        by_cases h3 : j = 32
        · rw [if_pos h3, if_pos h3]
        · rw [if_neg h3, if_neg h3]
          by_cases h4 : j = 31
          · rw [if_pos h4, h4]
          · rw [if_neg h4]
  rw [e]
theorem bM_0 {m : CS} (h33 : 0 ≤ m 0 0 33) (h34 : m 0 0 34 = 1) : m = bM m (m 0 0 31) (m 0 0 32) (m 0 0 33).toNat 1 := by
  rw [← bM_32 h33 h34]
  funext k i
  by_cases q : k = 0 ∧ i = 0
  · simp only [cu, if_pos q]
    rw [q.1, q.2]
    funext j
    unfold fu
    by_cases h : j = 32
    · rw [if_pos h, h]
    · rw [if_neg h]
  · simp only [cu, if_neg q]
def mvM (m : CS) (x : Int × Int × Nat × Int) : CS := bM m x.1 x.2.1 x.2.2.1 x.2.2.2
theorem sol_in {f : Nat → Int} {al t : Nat} {p : Int} (h : sol f al t p) (h0 : 0 ≤ p) : p < 96 ∧ kAt f p = f p.toNat := by
  by_cases q : p < 96
  · exact ⟨q, if_pos ⟨h0, q⟩⟩
  · exfalso
    have hk : kAt f p = 0 := if_neg (by omega)
    unfold sol at h
    rw [hk] at h
    omega
theorem sol_lo {f : Nat → Int} {al t : Nat} {p : Int} (h : ¬ sol f al t p) : 0 ≤ p := by
  unfold sol at h; omega

theorem kX8_moves_0 : Cond.fieldLink "LedgeLevelsModel" 121 "LedgeLevelsModel" "state" "I" ∈ wsX8_moves := by decide +kernel
theorem kX8_moves_1 : ∀ w ∈ wsX80, w ∈ wsX8_moves := by decide +kernel
theorem kX8_moves_2 : Cond.fieldLink "LedgeLevelsModel" 127 "LedgeLevelsModel" "speed" "I" ∈ wsX8_moves := by decide +kernel
theorem kX8_moves_3 : Cond.fieldLink "LedgeLevelsModel" 85 "LedgeLevelsModel" "ground" "[I" ∈ wsX8_moves := by decide +kernel
theorem kX8_moves_4 : Cond.fieldLink "LedgeLevelsModel" 124 "LedgeLevelsModel" "cell" "I" ∈ wsX8_moves := by decide +kernel
theorem kX8_moves_5 : Cond.fieldLink "LedgeLevelsModel" 7 "LedgeLevelsModel" "strength" "[I" ∈ wsX8_moves := by decide +kernel
set_option maxRecDepth 100000 in
set_option maxHeartbeats 1000000 in
theorem c_X8_moves {l : Launch} {D : va_G} {A : Nat → Prop} {h : vh} {am : AD} {m : CS} {z : Int}  (hR : RepM D am m h) (hz : 0 ≤ z ∧ z ≤ 5) (hc : 0 ≤ m 0 0 31 ∧ m 0 0 31 ≤ 95) (hv : -4 ≤ m 0 0 32 ∧ m 0 0 32 ≤ 3) (hG : ∀ j, 0 ≤ m 28 0 j ∧ m 28 0 j ≤ 8) (hKB : ∀ j, 0 ≤ m 29 0 j ∧ m 29 0 j ≤ 7) (ht : 0 ≤ m 0 0 33 ∧ m 0 0 33 < 8) (hal : 0 ≤ m 0 0 30 ∧ m 0 0 30 < 8) (hSS : ∀ j, 0 ≤ m 1 0 j ∧ m 1 0 j ≤ 4) (hs1 : m 0 0 34 = 1) : MX l D A yX8_moves wsX8_moves { frames := 2, cells := 0, slots := 0, locals := 45 } [.ref (am 0 0), vI z] h (fun rv h' => rv = none ∧ MP D am h (mvM m (mv (m 28 0) (KBm m) (m 0 0 30).toNat (m 1 0) z (m 0 0 31) (m 0 0 32) (m 0 0 33).toNat)) h') := by
  refine MX.of (cc := cX8_moves) (maxL := 8) (ret := none) [(0, .ref (am 0 0)), (1, vI z)] (by decide +kernel) rfl rfl (Nat.le_of_ble_eq_true rfl) ?_
  intro κ C hkl G
  subst hkl
  have C : CX κ "LedgeLevelsModel" "moves" cX8_moves wsX8_moves { frames := 2, cells := 0, slots := 0, locals := 45 } D A 8 := C
  have hiz : nq (D.1 20) (D.1 21) := cx_iz C
  have hBr : ∀ p, KBm m p < 8 := fun p => by have := hKB p.toNat; unfold KBm; omega
  have hv9 := sv_r (f := (m 28 0)) (al := (m 0 0 30).toNat) (inp := z) (c := m 0 0 31) (t := (m 0 0 33).toNat) hv
  have hT9 : 0 ≤ (((m 0 0 33).toNat : Nat) : Int) ∧ (((m 0 0 33).toNat : Nat) : Int) < 8 := by omega
  have LV : ∀ (N : Nat) (v1 w9 cB sB by9 st9 : Int) (tB n : Nat) (F9 : Int × Int × Nat × Int) (h1 : vh)   (hvr : -4 ≤ v1 ∧ v1 ≤ 3) (hF9 : F9 = (mv (m 28 0) (KBm m) (m 0 0 30).toNat (m 1 0) z (m 0 0 31) (m 0 0 32) (m 0 0 33).toNat)) (hn8 : n ≤ 4) (hby : (by9 = -1 ∧ v1 < 0) ∨ (by9 = 1 ∧ ¬ v1 < 0)) (hx2 : bX (cB, tB, sB)) (hb2 : b3 (cB, tB, sB)) (hI : (st9 = 0 ∧ sB = 1 ∧ F9 = vt (m 28 0) (KBm m) (m 0 0 30).toNat (m 1 0) (12 * by9) v1 n (cB, tB, sB)) ∨ (st9 = 0 ∧ sB ≠ 1 ∧ F9 = (cB, v1, tB, sB)) ∨ (st9 = 1 ∧ sB = 1 ∧ sol (m 28 0) (m 0 0 30).toNat tB (cB + 12 * by9) ∧ F9 = (cB, if 12 * by9 < 0 then 0 else - strK (m 1 0) (kAt (m 28 0) (cB + 12 * by9)), tB, sB))) (hN9 : n < N) (hcp3 : MP D am h (bM m cB v1 tB sB) h1), X κ 0 0 h1 [(0, .ref (am 0 0)), (1, vI z), (2, vI (cB % 12)), (3, vI w9), (4, vI by9), (5, vI st9), (6, vI ((n : Nat) : Int))] 115 [] := by
    intro N
    induction N with
    | zero => intro v1 w9 cB sB by9 st9 tB n F9 h1 hvr hF9 hn8 hby hx2 hb2 hI hN9 hcp3; exfalso; omega
    | succ N ihLV =>
      intro v1 w9 cB sB by9 st9 tB n F9 h1 hvr hF9 hn8 hby hx2 hb2 hI hN9 hcp3
      obtain ⟨y1, y2, y3, y4, y5⟩ := id hx2
      dsimp only at y1 y2 y3 y4 y5
      have hT8 : 0 ≤ ((tB : Nat) : Int) ∧ ((tB : Nat) : Int) < 8 := by omega
      refine x_iload C dX8_moves_115 6 rfl ?_
      refine x_if_le (tgt := 176) C dX8_moves_117 (by decide) (by omega) (fun c2 => ?_) (fun c2 => ?_)
      · skip
        have f3 : h1 (am 0 0) = some (eO 8 [vI (((bM m cB v1 tB sB) 0 0) 0), .ref (am 1 0), vI (((bM m cB v1 tB sB) 0 0) 2), .ref (am 3 0), .ref (am 4 0), .ref (am 5 0), .ref (am 6 0), .ref (am 7 0), .ref (am 8 0), .ref (am 9 0), .ref (am 10 0), .ref (am 11 0), .ref (am 12 0), .ref (am 13 0), vI (((bM m cB v1 tB sB) 0 0) 14), .ref (am 15 0), .ref (am 16 0), .ref (am 17 0), .ref (am 18 0), .ref (am 19 0), .ref (am 20 0), .ref (am 21 0), .ref (am 22 0), .ref (am 23 0), .ref (am 24 0), .ref (am 25 0), .ref (am 26 0), .ref (am 27 0), .ref (am 28 0), .ref (am 29 0), vI (((((bM m cB v1 tB sB) 0 0) 30).toNat : Nat) : Int), vI (((bM m cB v1 tB sB) 0 0) 31), vI (((bM m cB v1 tB sB) 0 0) 32), vI (((((bM m cB v1 tB sB) 0 0) 33).toNat : Nat) : Int), vI (((bM m cB v1 tB sB) 0 0) 34), .ref (am 35 0), .ref (am 36 0), .ref (am 37 0)]) := hcp3.1.1 0 0 (lm0 (by decide))
        have f4 : h1 (am 0 0) = some (eO 8 [vI (((bM m cB v1 tB sB) 0 0) 0), .ref (am 1 0), vI (((bM m cB v1 tB sB) 0 0) 2), .ref (am 3 0), .ref (am 4 0), .ref (am 5 0), .ref (am 6 0), .ref (am 7 0), .ref (am 8 0), .ref (am 9 0), .ref (am 10 0), .ref (am 11 0), .ref (am 12 0), .ref (am 13 0), vI (((bM m cB v1 tB sB) 0 0) 14), .ref (am 15 0), .ref (am 16 0), .ref (am 17 0), .ref (am 18 0), .ref (am 19 0), .ref (am 20 0), .ref (am 21 0), .ref (am 22 0), .ref (am 23 0), .ref (am 24 0), .ref (am 25 0), .ref (am 26 0), .ref (am 27 0), .ref (am 28 0), .ref (am 29 0), vI (((((bM m cB v1 tB sB) 0 0) 30).toNat : Nat) : Int), vI cB, vI v1, vI ((tB : Nat) : Int), vI sB, .ref (am 35 0), .ref (am 36 0), .ref (am 37 0)]) := by have q9 := f3; exact q9
        refine x_aload_n C dX8_moves_176 0 rfl ?_
        refine x_get C (v := vI sB) f4 (T := TX8) rfl kX8_moves_1 34 (by decide) kX8_moves_0 rfl dX8_moves_177 ?_
        refine x_iconst C dX8_moves_180 1 (by decide) ?_
        refine x_icmp_eq (tgt := 185) C dX8_moves_181 (by decide) (by omega) (by omega) (fun c5 => ?_) (fun c5 => ?_)
        · skip
          refine x_iload C dX8_moves_185 5 rfl ?_
          refine x_if_eq (tgt := 210) C dX8_moves_187 (by decide) (by omega) (fun c6 => ?_) (fun c6 => ?_)
          · skip
            refine x_iconst C dX8_moves_210 0 (by decide) ?_
            refine x_istore C (ls' := [(0, .ref (am 0 0)), (1, vI z), (2, vI (cB % 12)), (3, vI w9), (4, vI by9), (5, vI st9), (6, vI 0)]) dX8_moves_211 (by decide) rfl ?_
            refine x_aload_n C dX8_moves_213 0 rfl ?_
            refine x_get C (v := vI v1) f4 (T := TX8) rfl kX8_moves_1 32 (by decide) kX8_moves_2 rfl dX8_moves_214 ?_
            refine x_iconst C dX8_moves_217 3 (by decide) ?_
            refine x_icmp_ge (tgt := 230) C dX8_moves_218 (by decide) (by omega) (by omega) (fun c7 => ?_) (fun c7 => ?_)
            · skip
              refine x_iconst C dX8_moves_230 3 (by decide) ?_
              refine x_istore C (ls' := [(0, .ref (am 0 0)), (1, vI z), (2, vI (cB % 12)), (3, vI w9), (4, vI by9), (5, vI st9), (6, vI 0), (7, vI 3)]) dX8_moves_231 (by decide) rfl ?_
              refine x_aload_n C dX8_moves_233 0 rfl ?_
              refine x_iload C dX8_moves_234 5 rfl ?_
              refine x_if_ne (tgt := 244) C dX8_moves_236 (by decide) (by omega) (fun c8 => ?_) (fun c8 => ?_)
              · skip
                refine x_iload C dX8_moves_244 6 rfl ?_
                refine x_bipush C dX8_moves_246 6 (by decide) ?_
                refine x_icmp_lt (tgt := 265) C dX8_moves_248 (by decide) (by omega) (by omega) (fun c9 => ?_) (fun c9 => ?_)
                · skip
                  refine x_iconst C dX8_moves_265 0 (by decide) ?_
                  refine x_put C f4 (T := TX8) rfl tyX8_ok nmX8 kX8_moves_1 32 (by decide) kX8_moves_2 rfl (fs' := [vI (((bM m cB v1 tB sB) 0 0) 0), .ref (am 1 0), vI (((bM m cB v1 tB sB) 0 0) 2), .ref (am 3 0), .ref (am 4 0), .ref (am 5 0), .ref (am 6 0), .ref (am 7 0), .ref (am 8 0), .ref (am 9 0), .ref (am 10 0), .ref (am 11 0), .ref (am 12 0), .ref (am 13 0), vI (((bM m cB v1 tB sB) 0 0) 14), .ref (am 15 0), .ref (am 16 0), .ref (am 17 0), .ref (am 18 0), .ref (am 19 0), .ref (am 20 0), .ref (am 21 0), .ref (am 22 0), .ref (am 23 0), .ref (am 24 0), .ref (am 25 0), .ref (am 26 0), .ref (am 27 0), .ref (am 28 0), .ref (am 29 0), vI (((((bM m cB v1 tB sB) 0 0) 30).toNat : Nat) : Int), vI cB, vI 0, vI ((tB : Nat) : Int), vI sB, .ref (am 35 0), .ref (am 36 0), .ref (am 37 0)]) rfl rfl (by simp) rfl dX8_moves_266 (x_hn (fun h10 e11 => ?_))
                  have f12 : h10 (am 0 0) = some (eO 8 [vI (((bM m cB v1 tB sB) 0 0) 0), .ref (am 1 0), vI (((bM m cB v1 tB sB) 0 0) 2), .ref (am 3 0), .ref (am 4 0), .ref (am 5 0), .ref (am 6 0), .ref (am 7 0), .ref (am 8 0), .ref (am 9 0), .ref (am 10 0), .ref (am 11 0), .ref (am 12 0), .ref (am 13 0), vI (((bM m cB v1 tB sB) 0 0) 14), .ref (am 15 0), .ref (am 16 0), .ref (am 17 0), .ref (am 18 0), .ref (am 19 0), .ref (am 20 0), .ref (am 21 0), .ref (am 22 0), .ref (am 23 0), .ref (am 24 0), .ref (am 25 0), .ref (am 26 0), .ref (am 27 0), .ref (am 28 0), .ref (am 29 0), vI (((((bM m cB v1 tB sB) 0 0) 30).toNat : Nat) : Int), vI cB, vI 0, vI ((tB : Nat) : Int), vI sB, .ref (am 35 0), .ref (am 36 0), .ref (am 37 0)]) := by rw [e11]; exact hu_s
                  refine x_vret C G dX8_moves_269 ?_ (by decide) (by decide)
                  have cp13 : MP D am h (cu (bM m cB v1 tB sB) 0 0 ((fu (fu (fu (fu ((bM m cB v1 tB sB) 0 0) 31 cB) 32 0) 33 ((tB : Nat) : Int)) 34 sB))) h10 := by rw [e11]; exact (MP.up hcp3 (lm0 (by decide)) ((fu (fu (fu (fu ((bM m cB v1 tB sB) 0 0) 31 cB) 32 0) 33 ((tB : Nat) : Int)) 34 sB)) rfl)
                  refine ⟨rfl, ?_⟩
                  have q9 := cp13
                  rw [bM_up] at q9
                  have hFv : F9 = (cB, 0, tB, sB) := by
                    rcases hI with ⟨i1, i2, i3⟩ | ⟨i1, i2, i3⟩ | ⟨i1, i2, i3, i4⟩
                    · obtain rfl : n = 0 := by omega
                      rw [i3]
                      first
                        | (exfalso; omega)
                        | (show (cB, (if v1 < 3 then v1 + 1 else 3), tB, sB) = _; first | rw [if_pos (by omega)] | rw [if_neg (by omega)])
                    · exfalso; omega
                    · rw [i4]
                      first
                        | (exfalso; omega)
                        | rw [if_pos (show 12 * by9 < 0 by omega)]
                        | (rw [if_neg (show ¬ 12 * by9 < 0 by omega)]
                           have hb1 : by9 = 1 := by omega
                           subst hb1
                           have hsi := sol_in i3 (by omega)
                           rw [hsi.2]
                           unfold strK
                           first
                             | (rw [if_pos (by have q7 := hG (cB + 12 * 1).toNat; exact ⟨by assumption, by omega⟩)]; done)
                             | (rw [if_neg (by intro q7; have q8 := q7.1; exact absurd q8 (by omega))]; rfl))
                  rw [hFv] at hF9
                  unfold mvM
                  rw [← hF9]
                  exact q9
                · exfalso; omega
              · skip
                refine x_iload C dX8_moves_239 7 rfl ?_
                refine x_goto (tgt := 266) C dX8_moves_241 (by decide) ?_
                refine x_put C f4 (T := TX8) rfl tyX8_ok nmX8 kX8_moves_1 32 (by decide) kX8_moves_2 rfl (fs' := [vI (((bM m cB v1 tB sB) 0 0) 0), .ref (am 1 0), vI (((bM m cB v1 tB sB) 0 0) 2), .ref (am 3 0), .ref (am 4 0), .ref (am 5 0), .ref (am 6 0), .ref (am 7 0), .ref (am 8 0), .ref (am 9 0), .ref (am 10 0), .ref (am 11 0), .ref (am 12 0), .ref (am 13 0), vI (((bM m cB v1 tB sB) 0 0) 14), .ref (am 15 0), .ref (am 16 0), .ref (am 17 0), .ref (am 18 0), .ref (am 19 0), .ref (am 20 0), .ref (am 21 0), .ref (am 22 0), .ref (am 23 0), .ref (am 24 0), .ref (am 25 0), .ref (am 26 0), .ref (am 27 0), .ref (am 28 0), .ref (am 29 0), vI (((((bM m cB v1 tB sB) 0 0) 30).toNat : Nat) : Int), vI cB, vI 3, vI ((tB : Nat) : Int), vI sB, .ref (am 35 0), .ref (am 36 0), .ref (am 37 0)]) rfl rfl (by simp) rfl dX8_moves_266 (x_hn (fun h14 e15 => ?_))
                have f16 : h14 (am 0 0) = some (eO 8 [vI (((bM m cB v1 tB sB) 0 0) 0), .ref (am 1 0), vI (((bM m cB v1 tB sB) 0 0) 2), .ref (am 3 0), .ref (am 4 0), .ref (am 5 0), .ref (am 6 0), .ref (am 7 0), .ref (am 8 0), .ref (am 9 0), .ref (am 10 0), .ref (am 11 0), .ref (am 12 0), .ref (am 13 0), vI (((bM m cB v1 tB sB) 0 0) 14), .ref (am 15 0), .ref (am 16 0), .ref (am 17 0), .ref (am 18 0), .ref (am 19 0), .ref (am 20 0), .ref (am 21 0), .ref (am 22 0), .ref (am 23 0), .ref (am 24 0), .ref (am 25 0), .ref (am 26 0), .ref (am 27 0), .ref (am 28 0), .ref (am 29 0), vI (((((bM m cB v1 tB sB) 0 0) 30).toNat : Nat) : Int), vI cB, vI 3, vI ((tB : Nat) : Int), vI sB, .ref (am 35 0), .ref (am 36 0), .ref (am 37 0)]) := by rw [e15]; exact hu_s
                refine x_vret C G dX8_moves_269 ?_ (by decide) (by decide)
                have cp17 : MP D am h (cu (bM m cB v1 tB sB) 0 0 ((fu (fu (fu (fu ((bM m cB v1 tB sB) 0 0) 31 cB) 32 3) 33 ((tB : Nat) : Int)) 34 sB))) h14 := by rw [e15]; exact (MP.up hcp3 (lm0 (by decide)) ((fu (fu (fu (fu ((bM m cB v1 tB sB) 0 0) 31 cB) 32 3) 33 ((tB : Nat) : Int)) 34 sB)) rfl)
                refine ⟨rfl, ?_⟩
                have q9 := cp17
                rw [bM_up] at q9
                have hFv : F9 = (cB, 3, tB, sB) := by
                  rcases hI with ⟨i1, i2, i3⟩ | ⟨i1, i2, i3⟩ | ⟨i1, i2, i3, i4⟩
                  · obtain rfl : n = 0 := by omega
                    rw [i3]
                    first
                      | (exfalso; omega)
                      | (show (cB, (if v1 < 3 then v1 + 1 else 3), tB, sB) = _; first | rw [if_pos (by omega)] | rw [if_neg (by omega)])
                  · exfalso; omega
                  · rw [i4]
                    first
                      | (exfalso; omega)
                      | rw [if_pos (show 12 * by9 < 0 by omega)]
                      | (rw [if_neg (show ¬ 12 * by9 < 0 by omega)]
                         have hb1 : by9 = 1 := by omega
                         subst hb1
                         have hsi := sol_in i3 (by omega)
                         rw [hsi.2]
                         unfold strK
                         first
                           | (rw [if_pos (by have q7 := hG (cB + 12 * 1).toNat; exact ⟨by assumption, by omega⟩)]; done)
                           | (rw [if_neg (by intro q7; have q8 := q7.1; exact absurd q8 (by omega))]; rfl))
                rw [hFv] at hF9
                unfold mvM
                rw [← hF9]
                exact q9
            · skip
              refine x_aload_n C dX8_moves_221 0 rfl ?_
              refine x_get C (v := vI v1) f4 (T := TX8) rfl kX8_moves_1 32 (by decide) kX8_moves_2 rfl dX8_moves_222 ?_
              refine x_iconst C dX8_moves_225 1 (by decide) ?_
              refine x_iadd C dX8_moves_226 ?_
              refine x_goto (tgt := 231) C dX8_moves_227 (by decide) ?_
              refine x_istore C (ls' := [(0, .ref (am 0 0)), (1, vI z), (2, vI (cB % 12)), (3, vI w9), (4, vI by9), (5, vI st9), (6, vI 0), (7, vI (v1 + 1))]) dX8_moves_231 (by decide) rfl ?_
              refine x_aload_n C dX8_moves_233 0 rfl ?_
              refine x_iload C dX8_moves_234 5 rfl ?_
              refine x_if_ne (tgt := 244) C dX8_moves_236 (by decide) (by omega) (fun c18 => ?_) (fun c18 => ?_)
              · skip
                refine x_iload C dX8_moves_244 6 rfl ?_
                refine x_bipush C dX8_moves_246 6 (by decide) ?_
                refine x_icmp_lt (tgt := 265) C dX8_moves_248 (by decide) (by omega) (by omega) (fun c19 => ?_) (fun c19 => ?_)
                · skip
                  refine x_iconst C dX8_moves_265 0 (by decide) ?_
                  refine x_put C f4 (T := TX8) rfl tyX8_ok nmX8 kX8_moves_1 32 (by decide) kX8_moves_2 rfl (fs' := [vI (((bM m cB v1 tB sB) 0 0) 0), .ref (am 1 0), vI (((bM m cB v1 tB sB) 0 0) 2), .ref (am 3 0), .ref (am 4 0), .ref (am 5 0), .ref (am 6 0), .ref (am 7 0), .ref (am 8 0), .ref (am 9 0), .ref (am 10 0), .ref (am 11 0), .ref (am 12 0), .ref (am 13 0), vI (((bM m cB v1 tB sB) 0 0) 14), .ref (am 15 0), .ref (am 16 0), .ref (am 17 0), .ref (am 18 0), .ref (am 19 0), .ref (am 20 0), .ref (am 21 0), .ref (am 22 0), .ref (am 23 0), .ref (am 24 0), .ref (am 25 0), .ref (am 26 0), .ref (am 27 0), .ref (am 28 0), .ref (am 29 0), vI (((((bM m cB v1 tB sB) 0 0) 30).toNat : Nat) : Int), vI cB, vI 0, vI ((tB : Nat) : Int), vI sB, .ref (am 35 0), .ref (am 36 0), .ref (am 37 0)]) rfl rfl (by simp) rfl dX8_moves_266 (x_hn (fun h20 e21 => ?_))
                  have f22 : h20 (am 0 0) = some (eO 8 [vI (((bM m cB v1 tB sB) 0 0) 0), .ref (am 1 0), vI (((bM m cB v1 tB sB) 0 0) 2), .ref (am 3 0), .ref (am 4 0), .ref (am 5 0), .ref (am 6 0), .ref (am 7 0), .ref (am 8 0), .ref (am 9 0), .ref (am 10 0), .ref (am 11 0), .ref (am 12 0), .ref (am 13 0), vI (((bM m cB v1 tB sB) 0 0) 14), .ref (am 15 0), .ref (am 16 0), .ref (am 17 0), .ref (am 18 0), .ref (am 19 0), .ref (am 20 0), .ref (am 21 0), .ref (am 22 0), .ref (am 23 0), .ref (am 24 0), .ref (am 25 0), .ref (am 26 0), .ref (am 27 0), .ref (am 28 0), .ref (am 29 0), vI (((((bM m cB v1 tB sB) 0 0) 30).toNat : Nat) : Int), vI cB, vI 0, vI ((tB : Nat) : Int), vI sB, .ref (am 35 0), .ref (am 36 0), .ref (am 37 0)]) := by rw [e21]; exact hu_s
                  refine x_vret C G dX8_moves_269 ?_ (by decide) (by decide)
                  have cp23 : MP D am h (cu (bM m cB v1 tB sB) 0 0 ((fu (fu (fu (fu ((bM m cB v1 tB sB) 0 0) 31 cB) 32 0) 33 ((tB : Nat) : Int)) 34 sB))) h20 := by rw [e21]; exact (MP.up hcp3 (lm0 (by decide)) ((fu (fu (fu (fu ((bM m cB v1 tB sB) 0 0) 31 cB) 32 0) 33 ((tB : Nat) : Int)) 34 sB)) rfl)
                  refine ⟨rfl, ?_⟩
                  have q9 := cp23
                  rw [bM_up] at q9
                  have hFv : F9 = (cB, 0, tB, sB) := by
                    rcases hI with ⟨i1, i2, i3⟩ | ⟨i1, i2, i3⟩ | ⟨i1, i2, i3, i4⟩
                    · obtain rfl : n = 0 := by omega
                      rw [i3]
                      first
                        | (exfalso; omega)
                        | (show (cB, (if v1 < 3 then v1 + 1 else 3), tB, sB) = _; first | rw [if_pos (by omega)] | rw [if_neg (by omega)])
                    · exfalso; omega
                    · rw [i4]
                      first
                        | (exfalso; omega)
                        | rw [if_pos (show 12 * by9 < 0 by omega)]
                        | (rw [if_neg (show ¬ 12 * by9 < 0 by omega)]
                           have hb1 : by9 = 1 := by omega
                           subst hb1
                           have hsi := sol_in i3 (by omega)
                           rw [hsi.2]
                           unfold strK
                           first
                             | (rw [if_pos (by have q7 := hG (cB + 12 * 1).toNat; exact ⟨by assumption, by omega⟩)]; done)
                             | (rw [if_neg (by intro q7; have q8 := q7.1; exact absurd q8 (by omega))]; rfl))
                  rw [hFv] at hF9
                  unfold mvM
                  rw [← hF9]
                  exact q9
                · exfalso; omega
              · skip
                refine x_iload C dX8_moves_239 7 rfl ?_
                refine x_goto (tgt := 266) C dX8_moves_241 (by decide) ?_
                refine x_put C f4 (T := TX8) rfl tyX8_ok nmX8 kX8_moves_1 32 (by decide) kX8_moves_2 rfl (fs' := [vI (((bM m cB v1 tB sB) 0 0) 0), .ref (am 1 0), vI (((bM m cB v1 tB sB) 0 0) 2), .ref (am 3 0), .ref (am 4 0), .ref (am 5 0), .ref (am 6 0), .ref (am 7 0), .ref (am 8 0), .ref (am 9 0), .ref (am 10 0), .ref (am 11 0), .ref (am 12 0), .ref (am 13 0), vI (((bM m cB v1 tB sB) 0 0) 14), .ref (am 15 0), .ref (am 16 0), .ref (am 17 0), .ref (am 18 0), .ref (am 19 0), .ref (am 20 0), .ref (am 21 0), .ref (am 22 0), .ref (am 23 0), .ref (am 24 0), .ref (am 25 0), .ref (am 26 0), .ref (am 27 0), .ref (am 28 0), .ref (am 29 0), vI (((((bM m cB v1 tB sB) 0 0) 30).toNat : Nat) : Int), vI cB, vI (v1 + 1), vI ((tB : Nat) : Int), vI sB, .ref (am 35 0), .ref (am 36 0), .ref (am 37 0)]) rfl rfl (by simp) rfl dX8_moves_266 (x_hn (fun h24 e25 => ?_))
                have f26 : h24 (am 0 0) = some (eO 8 [vI (((bM m cB v1 tB sB) 0 0) 0), .ref (am 1 0), vI (((bM m cB v1 tB sB) 0 0) 2), .ref (am 3 0), .ref (am 4 0), .ref (am 5 0), .ref (am 6 0), .ref (am 7 0), .ref (am 8 0), .ref (am 9 0), .ref (am 10 0), .ref (am 11 0), .ref (am 12 0), .ref (am 13 0), vI (((bM m cB v1 tB sB) 0 0) 14), .ref (am 15 0), .ref (am 16 0), .ref (am 17 0), .ref (am 18 0), .ref (am 19 0), .ref (am 20 0), .ref (am 21 0), .ref (am 22 0), .ref (am 23 0), .ref (am 24 0), .ref (am 25 0), .ref (am 26 0), .ref (am 27 0), .ref (am 28 0), .ref (am 29 0), vI (((((bM m cB v1 tB sB) 0 0) 30).toNat : Nat) : Int), vI cB, vI (v1 + 1), vI ((tB : Nat) : Int), vI sB, .ref (am 35 0), .ref (am 36 0), .ref (am 37 0)]) := by rw [e25]; exact hu_s
                refine x_vret C G dX8_moves_269 ?_ (by decide) (by decide)
                have cp27 : MP D am h (cu (bM m cB v1 tB sB) 0 0 ((fu (fu (fu (fu ((bM m cB v1 tB sB) 0 0) 31 cB) 32 (v1 + 1)) 33 ((tB : Nat) : Int)) 34 sB))) h24 := by rw [e25]; exact (MP.up hcp3 (lm0 (by decide)) ((fu (fu (fu (fu ((bM m cB v1 tB sB) 0 0) 31 cB) 32 (v1 + 1)) 33 ((tB : Nat) : Int)) 34 sB)) rfl)
                refine ⟨rfl, ?_⟩
                have q9 := cp27
                rw [bM_up] at q9
                have hFv : F9 = (cB, v1 + 1, tB, sB) := by
                  rcases hI with ⟨i1, i2, i3⟩ | ⟨i1, i2, i3⟩ | ⟨i1, i2, i3, i4⟩
                  · obtain rfl : n = 0 := by omega
                    rw [i3]
                    first
                      | (exfalso; omega)
                      | (show (cB, (if v1 < 3 then v1 + 1 else 3), tB, sB) = _; first | rw [if_pos (by omega)] | rw [if_neg (by omega)])
                  · exfalso; omega
                  · rw [i4]
                    first
                      | (exfalso; omega)
                      | rw [if_pos (show 12 * by9 < 0 by omega)]
                      | (rw [if_neg (show ¬ 12 * by9 < 0 by omega)]
                         have hb1 : by9 = 1 := by omega
                         subst hb1
                         have hsi := sol_in i3 (by omega)
                         rw [hsi.2]
                         unfold strK
                         first
                           | (rw [if_pos (by have q7 := hG (cB + 12 * 1).toNat; exact ⟨by assumption, by omega⟩)]; done)
                           | (rw [if_neg (by intro q7; have q8 := q7.1; exact absurd q8 (by omega))]; rfl))
                rw [hFv] at hF9
                unfold mvM
                rw [← hF9]
                exact q9
          · skip
            refine x_iload C dX8_moves_190 4 rfl ?_
            refine x_if_le (tgt := 210) C dX8_moves_192 (by decide) (by omega) (fun c28 => ?_) (fun c28 => ?_)
            · skip
              refine x_iconst C dX8_moves_210 0 (by decide) ?_
              refine x_istore C (ls' := [(0, .ref (am 0 0)), (1, vI z), (2, vI (cB % 12)), (3, vI w9), (4, vI by9), (5, vI st9), (6, vI 0)]) dX8_moves_211 (by decide) rfl ?_
              refine x_aload_n C dX8_moves_213 0 rfl ?_
              refine x_get C (v := vI v1) f4 (T := TX8) rfl kX8_moves_1 32 (by decide) kX8_moves_2 rfl dX8_moves_214 ?_
              refine x_iconst C dX8_moves_217 3 (by decide) ?_
              refine x_icmp_ge (tgt := 230) C dX8_moves_218 (by decide) (by omega) (by omega) (fun c29 => ?_) (fun c29 => ?_)
              · skip
                refine x_iconst C dX8_moves_230 3 (by decide) ?_
                refine x_istore C (ls' := [(0, .ref (am 0 0)), (1, vI z), (2, vI (cB % 12)), (3, vI w9), (4, vI by9), (5, vI st9), (6, vI 0), (7, vI 3)]) dX8_moves_231 (by decide) rfl ?_
                refine x_aload_n C dX8_moves_233 0 rfl ?_
                refine x_iload C dX8_moves_234 5 rfl ?_
                refine x_if_ne (tgt := 244) C dX8_moves_236 (by decide) (by omega) (fun c30 => ?_) (fun c30 => ?_)
                · skip
                  refine x_iload C dX8_moves_244 6 rfl ?_
                  refine x_bipush C dX8_moves_246 6 (by decide) ?_
                  refine x_icmp_lt (tgt := 265) C dX8_moves_248 (by decide) (by omega) (by omega) (fun c31 => ?_) (fun c31 => ?_)
                  · skip
                    refine x_iconst C dX8_moves_265 0 (by decide) ?_
                    refine x_put C f4 (T := TX8) rfl tyX8_ok nmX8 kX8_moves_1 32 (by decide) kX8_moves_2 rfl (fs' := [vI (((bM m cB v1 tB sB) 0 0) 0), .ref (am 1 0), vI (((bM m cB v1 tB sB) 0 0) 2), .ref (am 3 0), .ref (am 4 0), .ref (am 5 0), .ref (am 6 0), .ref (am 7 0), .ref (am 8 0), .ref (am 9 0), .ref (am 10 0), .ref (am 11 0), .ref (am 12 0), .ref (am 13 0), vI (((bM m cB v1 tB sB) 0 0) 14), .ref (am 15 0), .ref (am 16 0), .ref (am 17 0), .ref (am 18 0), .ref (am 19 0), .ref (am 20 0), .ref (am 21 0), .ref (am 22 0), .ref (am 23 0), .ref (am 24 0), .ref (am 25 0), .ref (am 26 0), .ref (am 27 0), .ref (am 28 0), .ref (am 29 0), vI (((((bM m cB v1 tB sB) 0 0) 30).toNat : Nat) : Int), vI cB, vI 0, vI ((tB : Nat) : Int), vI sB, .ref (am 35 0), .ref (am 36 0), .ref (am 37 0)]) rfl rfl (by simp) rfl dX8_moves_266 (x_hn (fun h32 e33 => ?_))
                    have f34 : h32 (am 0 0) = some (eO 8 [vI (((bM m cB v1 tB sB) 0 0) 0), .ref (am 1 0), vI (((bM m cB v1 tB sB) 0 0) 2), .ref (am 3 0), .ref (am 4 0), .ref (am 5 0), .ref (am 6 0), .ref (am 7 0), .ref (am 8 0), .ref (am 9 0), .ref (am 10 0), .ref (am 11 0), .ref (am 12 0), .ref (am 13 0), vI (((bM m cB v1 tB sB) 0 0) 14), .ref (am 15 0), .ref (am 16 0), .ref (am 17 0), .ref (am 18 0), .ref (am 19 0), .ref (am 20 0), .ref (am 21 0), .ref (am 22 0), .ref (am 23 0), .ref (am 24 0), .ref (am 25 0), .ref (am 26 0), .ref (am 27 0), .ref (am 28 0), .ref (am 29 0), vI (((((bM m cB v1 tB sB) 0 0) 30).toNat : Nat) : Int), vI cB, vI 0, vI ((tB : Nat) : Int), vI sB, .ref (am 35 0), .ref (am 36 0), .ref (am 37 0)]) := by rw [e33]; exact hu_s
                    refine x_vret C G dX8_moves_269 ?_ (by decide) (by decide)
                    have cp35 : MP D am h (cu (bM m cB v1 tB sB) 0 0 ((fu (fu (fu (fu ((bM m cB v1 tB sB) 0 0) 31 cB) 32 0) 33 ((tB : Nat) : Int)) 34 sB))) h32 := by rw [e33]; exact (MP.up hcp3 (lm0 (by decide)) ((fu (fu (fu (fu ((bM m cB v1 tB sB) 0 0) 31 cB) 32 0) 33 ((tB : Nat) : Int)) 34 sB)) rfl)
                    refine ⟨rfl, ?_⟩
                    have q9 := cp35
                    rw [bM_up] at q9
                    have hFv : F9 = (cB, 0, tB, sB) := by
                      rcases hI with ⟨i1, i2, i3⟩ | ⟨i1, i2, i3⟩ | ⟨i1, i2, i3, i4⟩
                      · obtain rfl : n = 0 := by omega
                        rw [i3]
                        first
                          | (exfalso; omega)
                          | (show (cB, (if v1 < 3 then v1 + 1 else 3), tB, sB) = _; first | rw [if_pos (by omega)] | rw [if_neg (by omega)])
                      · exfalso; omega
                      · rw [i4]
                        first
                          | (exfalso; omega)
                          | rw [if_pos (show 12 * by9 < 0 by omega)]
                          | (rw [if_neg (show ¬ 12 * by9 < 0 by omega)]
                             have hb1 : by9 = 1 := by omega
                             subst hb1
                             have hsi := sol_in i3 (by omega)
                             rw [hsi.2]
                             unfold strK
                             first
                               | (rw [if_pos (by have q7 := hG (cB + 12 * 1).toNat; exact ⟨by assumption, by omega⟩)]; done)
                               | (rw [if_neg (by intro q7; have q8 := q7.1; exact absurd q8 (by omega))]; rfl))
                    rw [hFv] at hF9
                    unfold mvM
                    rw [← hF9]
                    exact q9
                  · exfalso; omega
                · skip
                  refine x_iload C dX8_moves_239 7 rfl ?_
                  refine x_goto (tgt := 266) C dX8_moves_241 (by decide) ?_
                  refine x_put C f4 (T := TX8) rfl tyX8_ok nmX8 kX8_moves_1 32 (by decide) kX8_moves_2 rfl (fs' := [vI (((bM m cB v1 tB sB) 0 0) 0), .ref (am 1 0), vI (((bM m cB v1 tB sB) 0 0) 2), .ref (am 3 0), .ref (am 4 0), .ref (am 5 0), .ref (am 6 0), .ref (am 7 0), .ref (am 8 0), .ref (am 9 0), .ref (am 10 0), .ref (am 11 0), .ref (am 12 0), .ref (am 13 0), vI (((bM m cB v1 tB sB) 0 0) 14), .ref (am 15 0), .ref (am 16 0), .ref (am 17 0), .ref (am 18 0), .ref (am 19 0), .ref (am 20 0), .ref (am 21 0), .ref (am 22 0), .ref (am 23 0), .ref (am 24 0), .ref (am 25 0), .ref (am 26 0), .ref (am 27 0), .ref (am 28 0), .ref (am 29 0), vI (((((bM m cB v1 tB sB) 0 0) 30).toNat : Nat) : Int), vI cB, vI 3, vI ((tB : Nat) : Int), vI sB, .ref (am 35 0), .ref (am 36 0), .ref (am 37 0)]) rfl rfl (by simp) rfl dX8_moves_266 (x_hn (fun h36 e37 => ?_))
                  have f38 : h36 (am 0 0) = some (eO 8 [vI (((bM m cB v1 tB sB) 0 0) 0), .ref (am 1 0), vI (((bM m cB v1 tB sB) 0 0) 2), .ref (am 3 0), .ref (am 4 0), .ref (am 5 0), .ref (am 6 0), .ref (am 7 0), .ref (am 8 0), .ref (am 9 0), .ref (am 10 0), .ref (am 11 0), .ref (am 12 0), .ref (am 13 0), vI (((bM m cB v1 tB sB) 0 0) 14), .ref (am 15 0), .ref (am 16 0), .ref (am 17 0), .ref (am 18 0), .ref (am 19 0), .ref (am 20 0), .ref (am 21 0), .ref (am 22 0), .ref (am 23 0), .ref (am 24 0), .ref (am 25 0), .ref (am 26 0), .ref (am 27 0), .ref (am 28 0), .ref (am 29 0), vI (((((bM m cB v1 tB sB) 0 0) 30).toNat : Nat) : Int), vI cB, vI 3, vI ((tB : Nat) : Int), vI sB, .ref (am 35 0), .ref (am 36 0), .ref (am 37 0)]) := by rw [e37]; exact hu_s
                  refine x_vret C G dX8_moves_269 ?_ (by decide) (by decide)
                  have cp39 : MP D am h (cu (bM m cB v1 tB sB) 0 0 ((fu (fu (fu (fu ((bM m cB v1 tB sB) 0 0) 31 cB) 32 3) 33 ((tB : Nat) : Int)) 34 sB))) h36 := by rw [e37]; exact (MP.up hcp3 (lm0 (by decide)) ((fu (fu (fu (fu ((bM m cB v1 tB sB) 0 0) 31 cB) 32 3) 33 ((tB : Nat) : Int)) 34 sB)) rfl)
                  refine ⟨rfl, ?_⟩
                  have q9 := cp39
                  rw [bM_up] at q9
                  have hFv : F9 = (cB, 3, tB, sB) := by
                    rcases hI with ⟨i1, i2, i3⟩ | ⟨i1, i2, i3⟩ | ⟨i1, i2, i3, i4⟩
                    · obtain rfl : n = 0 := by omega
                      rw [i3]
                      first
                        | (exfalso; omega)
                        | (show (cB, (if v1 < 3 then v1 + 1 else 3), tB, sB) = _; first | rw [if_pos (by omega)] | rw [if_neg (by omega)])
                    · exfalso; omega
                    · rw [i4]
                      first
                        | (exfalso; omega)
                        | rw [if_pos (show 12 * by9 < 0 by omega)]
                        | (rw [if_neg (show ¬ 12 * by9 < 0 by omega)]
                           have hb1 : by9 = 1 := by omega
                           subst hb1
                           have hsi := sol_in i3 (by omega)
                           rw [hsi.2]
                           unfold strK
                           first
                             | (rw [if_pos (by have q7 := hG (cB + 12 * 1).toNat; exact ⟨by assumption, by omega⟩)]; done)
                             | (rw [if_neg (by intro q7; have q8 := q7.1; exact absurd q8 (by omega))]; rfl))
                  rw [hFv] at hF9
                  unfold mvM
                  rw [← hF9]
                  exact q9
              · skip
                refine x_aload_n C dX8_moves_221 0 rfl ?_
                refine x_get C (v := vI v1) f4 (T := TX8) rfl kX8_moves_1 32 (by decide) kX8_moves_2 rfl dX8_moves_222 ?_
                refine x_iconst C dX8_moves_225 1 (by decide) ?_
                refine x_iadd C dX8_moves_226 ?_
                refine x_goto (tgt := 231) C dX8_moves_227 (by decide) ?_
                refine x_istore C (ls' := [(0, .ref (am 0 0)), (1, vI z), (2, vI (cB % 12)), (3, vI w9), (4, vI by9), (5, vI st9), (6, vI 0), (7, vI (v1 + 1))]) dX8_moves_231 (by decide) rfl ?_
                refine x_aload_n C dX8_moves_233 0 rfl ?_
                refine x_iload C dX8_moves_234 5 rfl ?_
                refine x_if_ne (tgt := 244) C dX8_moves_236 (by decide) (by omega) (fun c40 => ?_) (fun c40 => ?_)
                · skip
                  refine x_iload C dX8_moves_244 6 rfl ?_
                  refine x_bipush C dX8_moves_246 6 (by decide) ?_
                  refine x_icmp_lt (tgt := 265) C dX8_moves_248 (by decide) (by omega) (by omega) (fun c41 => ?_) (fun c41 => ?_)
                  · skip
                    refine x_iconst C dX8_moves_265 0 (by decide) ?_
                    refine x_put C f4 (T := TX8) rfl tyX8_ok nmX8 kX8_moves_1 32 (by decide) kX8_moves_2 rfl (fs' := [vI (((bM m cB v1 tB sB) 0 0) 0), .ref (am 1 0), vI (((bM m cB v1 tB sB) 0 0) 2), .ref (am 3 0), .ref (am 4 0), .ref (am 5 0), .ref (am 6 0), .ref (am 7 0), .ref (am 8 0), .ref (am 9 0), .ref (am 10 0), .ref (am 11 0), .ref (am 12 0), .ref (am 13 0), vI (((bM m cB v1 tB sB) 0 0) 14), .ref (am 15 0), .ref (am 16 0), .ref (am 17 0), .ref (am 18 0), .ref (am 19 0), .ref (am 20 0), .ref (am 21 0), .ref (am 22 0), .ref (am 23 0), .ref (am 24 0), .ref (am 25 0), .ref (am 26 0), .ref (am 27 0), .ref (am 28 0), .ref (am 29 0), vI (((((bM m cB v1 tB sB) 0 0) 30).toNat : Nat) : Int), vI cB, vI 0, vI ((tB : Nat) : Int), vI sB, .ref (am 35 0), .ref (am 36 0), .ref (am 37 0)]) rfl rfl (by simp) rfl dX8_moves_266 (x_hn (fun h42 e43 => ?_))
                    have f44 : h42 (am 0 0) = some (eO 8 [vI (((bM m cB v1 tB sB) 0 0) 0), .ref (am 1 0), vI (((bM m cB v1 tB sB) 0 0) 2), .ref (am 3 0), .ref (am 4 0), .ref (am 5 0), .ref (am 6 0), .ref (am 7 0), .ref (am 8 0), .ref (am 9 0), .ref (am 10 0), .ref (am 11 0), .ref (am 12 0), .ref (am 13 0), vI (((bM m cB v1 tB sB) 0 0) 14), .ref (am 15 0), .ref (am 16 0), .ref (am 17 0), .ref (am 18 0), .ref (am 19 0), .ref (am 20 0), .ref (am 21 0), .ref (am 22 0), .ref (am 23 0), .ref (am 24 0), .ref (am 25 0), .ref (am 26 0), .ref (am 27 0), .ref (am 28 0), .ref (am 29 0), vI (((((bM m cB v1 tB sB) 0 0) 30).toNat : Nat) : Int), vI cB, vI 0, vI ((tB : Nat) : Int), vI sB, .ref (am 35 0), .ref (am 36 0), .ref (am 37 0)]) := by rw [e43]; exact hu_s
                    refine x_vret C G dX8_moves_269 ?_ (by decide) (by decide)
                    have cp45 : MP D am h (cu (bM m cB v1 tB sB) 0 0 ((fu (fu (fu (fu ((bM m cB v1 tB sB) 0 0) 31 cB) 32 0) 33 ((tB : Nat) : Int)) 34 sB))) h42 := by rw [e43]; exact (MP.up hcp3 (lm0 (by decide)) ((fu (fu (fu (fu ((bM m cB v1 tB sB) 0 0) 31 cB) 32 0) 33 ((tB : Nat) : Int)) 34 sB)) rfl)
                    refine ⟨rfl, ?_⟩
                    have q9 := cp45
                    rw [bM_up] at q9
                    have hFv : F9 = (cB, 0, tB, sB) := by
                      rcases hI with ⟨i1, i2, i3⟩ | ⟨i1, i2, i3⟩ | ⟨i1, i2, i3, i4⟩
                      · obtain rfl : n = 0 := by omega
                        rw [i3]
                        first
                          | (exfalso; omega)
                          | (show (cB, (if v1 < 3 then v1 + 1 else 3), tB, sB) = _; first | rw [if_pos (by omega)] | rw [if_neg (by omega)])
                      · exfalso; omega
                      · rw [i4]
                        first
                          | (exfalso; omega)
                          | rw [if_pos (show 12 * by9 < 0 by omega)]
                          | (rw [if_neg (show ¬ 12 * by9 < 0 by omega)]
                             have hb1 : by9 = 1 := by omega
                             subst hb1
                             have hsi := sol_in i3 (by omega)
                             rw [hsi.2]
                             unfold strK
                             first
                               | (rw [if_pos (by have q7 := hG (cB + 12 * 1).toNat; exact ⟨by assumption, by omega⟩)]; done)
                               | (rw [if_neg (by intro q7; have q8 := q7.1; exact absurd q8 (by omega))]; rfl))
                    rw [hFv] at hF9
                    unfold mvM
                    rw [← hF9]
                    exact q9
                  · exfalso; omega
                · skip
                  refine x_iload C dX8_moves_239 7 rfl ?_
                  refine x_goto (tgt := 266) C dX8_moves_241 (by decide) ?_
                  refine x_put C f4 (T := TX8) rfl tyX8_ok nmX8 kX8_moves_1 32 (by decide) kX8_moves_2 rfl (fs' := [vI (((bM m cB v1 tB sB) 0 0) 0), .ref (am 1 0), vI (((bM m cB v1 tB sB) 0 0) 2), .ref (am 3 0), .ref (am 4 0), .ref (am 5 0), .ref (am 6 0), .ref (am 7 0), .ref (am 8 0), .ref (am 9 0), .ref (am 10 0), .ref (am 11 0), .ref (am 12 0), .ref (am 13 0), vI (((bM m cB v1 tB sB) 0 0) 14), .ref (am 15 0), .ref (am 16 0), .ref (am 17 0), .ref (am 18 0), .ref (am 19 0), .ref (am 20 0), .ref (am 21 0), .ref (am 22 0), .ref (am 23 0), .ref (am 24 0), .ref (am 25 0), .ref (am 26 0), .ref (am 27 0), .ref (am 28 0), .ref (am 29 0), vI (((((bM m cB v1 tB sB) 0 0) 30).toNat : Nat) : Int), vI cB, vI (v1 + 1), vI ((tB : Nat) : Int), vI sB, .ref (am 35 0), .ref (am 36 0), .ref (am 37 0)]) rfl rfl (by simp) rfl dX8_moves_266 (x_hn (fun h46 e47 => ?_))
                  have f48 : h46 (am 0 0) = some (eO 8 [vI (((bM m cB v1 tB sB) 0 0) 0), .ref (am 1 0), vI (((bM m cB v1 tB sB) 0 0) 2), .ref (am 3 0), .ref (am 4 0), .ref (am 5 0), .ref (am 6 0), .ref (am 7 0), .ref (am 8 0), .ref (am 9 0), .ref (am 10 0), .ref (am 11 0), .ref (am 12 0), .ref (am 13 0), vI (((bM m cB v1 tB sB) 0 0) 14), .ref (am 15 0), .ref (am 16 0), .ref (am 17 0), .ref (am 18 0), .ref (am 19 0), .ref (am 20 0), .ref (am 21 0), .ref (am 22 0), .ref (am 23 0), .ref (am 24 0), .ref (am 25 0), .ref (am 26 0), .ref (am 27 0), .ref (am 28 0), .ref (am 29 0), vI (((((bM m cB v1 tB sB) 0 0) 30).toNat : Nat) : Int), vI cB, vI (v1 + 1), vI ((tB : Nat) : Int), vI sB, .ref (am 35 0), .ref (am 36 0), .ref (am 37 0)]) := by rw [e47]; exact hu_s
                  refine x_vret C G dX8_moves_269 ?_ (by decide) (by decide)
                  have cp49 : MP D am h (cu (bM m cB v1 tB sB) 0 0 ((fu (fu (fu (fu ((bM m cB v1 tB sB) 0 0) 31 cB) 32 (v1 + 1)) 33 ((tB : Nat) : Int)) 34 sB))) h46 := by rw [e47]; exact (MP.up hcp3 (lm0 (by decide)) ((fu (fu (fu (fu ((bM m cB v1 tB sB) 0 0) 31 cB) 32 (v1 + 1)) 33 ((tB : Nat) : Int)) 34 sB)) rfl)
                  refine ⟨rfl, ?_⟩
                  have q9 := cp49
                  rw [bM_up] at q9
                  have hFv : F9 = (cB, v1 + 1, tB, sB) := by
                    rcases hI with ⟨i1, i2, i3⟩ | ⟨i1, i2, i3⟩ | ⟨i1, i2, i3, i4⟩
                    · obtain rfl : n = 0 := by omega
                      rw [i3]
                      first
                        | (exfalso; omega)
                        | (show (cB, (if v1 < 3 then v1 + 1 else 3), tB, sB) = _; first | rw [if_pos (by omega)] | rw [if_neg (by omega)])
                    · exfalso; omega
                    · rw [i4]
                      first
                        | (exfalso; omega)
                        | rw [if_pos (show 12 * by9 < 0 by omega)]
                        | (rw [if_neg (show ¬ 12 * by9 < 0 by omega)]
                           have hb1 : by9 = 1 := by omega
                           subst hb1
                           have hsi := sol_in i3 (by omega)
                           rw [hsi.2]
                           unfold strK
                           first
                             | (rw [if_pos (by have q7 := hG (cB + 12 * 1).toNat; exact ⟨by assumption, by omega⟩)]; done)
                             | (rw [if_neg (by intro q7; have q8 := q7.1; exact absurd q8 (by omega))]; rfl))
                  rw [hFv] at hF9
                  unfold mvM
                  rw [← hF9]
                  exact q9
            · skip
              have hsin : 0 ≤ cB + 12 ∧ cB + 12 < 96 := by
                  rcases hI with ⟨i1, i2, i3⟩ | ⟨i1, i2, i3⟩ | ⟨i1, i2, i3, i4⟩
                  · exfalso; omega
                  · exfalso; omega
                  · have hb1 : by9 = 1 := by omega
                    have q9 := (sol_in i3 (by omega)).1
                    omega
              refine x_aload_n C dX8_moves_195 0 rfl ?_
              refine x_get C (v := .ref (am 28 0)) f4 (T := TX8) rfl kX8_moves_1 28 (by decide) kX8_moves_3 rfl dX8_moves_196 ?_
              have f50 : h1 (am 28 0) = some (eI D 96 (((bM m cB v1 tB sB) 28 0))) := hcp3.1.1 28 0 (lm0 (by decide))
              have f51 : h1 (am 28 0) = some (eI D 96 (m 28 0)) := by have q9 := f50; exact q9
              refine x_aload_n C dX8_moves_199 0 rfl ?_
              refine x_get C (v := vI cB) f4 (T := TX8) rfl kX8_moves_1 31 (by decide) kX8_moves_4 rfl dX8_moves_200 ?_
              refine x_bipush C dX8_moves_203 12 (by decide) ?_
              refine x_iadd C dX8_moves_205 ?_
              refine x_iald C f51 ⟨by omega, by omega⟩ (by decide) dX8_moves_206 ?_
              have r52 := hG (Int.toNat (cB + 12))
              refine x_goto (tgt := 211) C dX8_moves_207 (by decide) ?_
              refine x_istore C (ls' := [(0, .ref (am 0 0)), (1, vI z), (2, vI (cB % 12)), (3, vI w9), (4, vI by9), (5, vI st9), (6, vI ((m 28 0) (Int.toNat (cB + 12))))]) dX8_moves_211 (by decide) rfl ?_
              refine x_aload_n C dX8_moves_213 0 rfl ?_
              refine x_get C (v := vI v1) f4 (T := TX8) rfl kX8_moves_1 32 (by decide) kX8_moves_2 rfl dX8_moves_214 ?_
              refine x_iconst C dX8_moves_217 3 (by decide) ?_
              refine x_icmp_ge (tgt := 230) C dX8_moves_218 (by decide) (by omega) (by omega) (fun c53 => ?_) (fun c53 => ?_)
              · skip
                refine x_iconst C dX8_moves_230 3 (by decide) ?_
                refine x_istore C (ls' := [(0, .ref (am 0 0)), (1, vI z), (2, vI (cB % 12)), (3, vI w9), (4, vI by9), (5, vI st9), (6, vI ((m 28 0) (Int.toNat (cB + 12)))), (7, vI 3)]) dX8_moves_231 (by decide) rfl ?_
                refine x_aload_n C dX8_moves_233 0 rfl ?_
                refine x_iload C dX8_moves_234 5 rfl ?_
                refine x_if_ne (tgt := 244) C dX8_moves_236 (by decide) (by omega) (fun c54 => ?_) (fun c54 => ?_)
                · skip
                  refine x_iload C dX8_moves_244 6 rfl ?_
                  refine x_bipush C dX8_moves_246 6 (by decide) ?_
                  refine x_icmp_lt (tgt := 265) C dX8_moves_248 (by decide) (by omega) (by omega) (fun c55 => ?_) (fun c55 => ?_)
                  · skip
                    refine x_iconst C dX8_moves_265 0 (by decide) ?_
                    refine x_put C f4 (T := TX8) rfl tyX8_ok nmX8 kX8_moves_1 32 (by decide) kX8_moves_2 rfl (fs' := [vI (((bM m cB v1 tB sB) 0 0) 0), .ref (am 1 0), vI (((bM m cB v1 tB sB) 0 0) 2), .ref (am 3 0), .ref (am 4 0), .ref (am 5 0), .ref (am 6 0), .ref (am 7 0), .ref (am 8 0), .ref (am 9 0), .ref (am 10 0), .ref (am 11 0), .ref (am 12 0), .ref (am 13 0), vI (((bM m cB v1 tB sB) 0 0) 14), .ref (am 15 0), .ref (am 16 0), .ref (am 17 0), .ref (am 18 0), .ref (am 19 0), .ref (am 20 0), .ref (am 21 0), .ref (am 22 0), .ref (am 23 0), .ref (am 24 0), .ref (am 25 0), .ref (am 26 0), .ref (am 27 0), .ref (am 28 0), .ref (am 29 0), vI (((((bM m cB v1 tB sB) 0 0) 30).toNat : Nat) : Int), vI cB, vI 0, vI ((tB : Nat) : Int), vI sB, .ref (am 35 0), .ref (am 36 0), .ref (am 37 0)]) rfl rfl (by simp) rfl dX8_moves_266 (x_hn (fun h56 e57 => ?_))
                    have f58 : h56 (am 0 0) = some (eO 8 [vI (((bM m cB v1 tB sB) 0 0) 0), .ref (am 1 0), vI (((bM m cB v1 tB sB) 0 0) 2), .ref (am 3 0), .ref (am 4 0), .ref (am 5 0), .ref (am 6 0), .ref (am 7 0), .ref (am 8 0), .ref (am 9 0), .ref (am 10 0), .ref (am 11 0), .ref (am 12 0), .ref (am 13 0), vI (((bM m cB v1 tB sB) 0 0) 14), .ref (am 15 0), .ref (am 16 0), .ref (am 17 0), .ref (am 18 0), .ref (am 19 0), .ref (am 20 0), .ref (am 21 0), .ref (am 22 0), .ref (am 23 0), .ref (am 24 0), .ref (am 25 0), .ref (am 26 0), .ref (am 27 0), .ref (am 28 0), .ref (am 29 0), vI (((((bM m cB v1 tB sB) 0 0) 30).toNat : Nat) : Int), vI cB, vI 0, vI ((tB : Nat) : Int), vI sB, .ref (am 35 0), .ref (am 36 0), .ref (am 37 0)]) := by rw [e57]; exact hu_s
                    refine x_vret C G dX8_moves_269 ?_ (by decide) (by decide)
                    have cp59 : MP D am h (cu (bM m cB v1 tB sB) 0 0 ((fu (fu (fu (fu ((bM m cB v1 tB sB) 0 0) 31 cB) 32 0) 33 ((tB : Nat) : Int)) 34 sB))) h56 := by rw [e57]; exact (MP.up hcp3 (lm0 (by decide)) ((fu (fu (fu (fu ((bM m cB v1 tB sB) 0 0) 31 cB) 32 0) 33 ((tB : Nat) : Int)) 34 sB)) rfl)
                    refine ⟨rfl, ?_⟩
                    have q9 := cp59
                    rw [bM_up] at q9
                    have hFv : F9 = (cB, 0, tB, sB) := by
                      rcases hI with ⟨i1, i2, i3⟩ | ⟨i1, i2, i3⟩ | ⟨i1, i2, i3, i4⟩
                      · obtain rfl : n = 0 := by omega
                        rw [i3]
                        first
                          | (exfalso; omega)
                          | (show (cB, (if v1 < 3 then v1 + 1 else 3), tB, sB) = _; first | rw [if_pos (by omega)] | rw [if_neg (by omega)])
                      · exfalso; omega
                      · rw [i4]
                        first
                          | (exfalso; omega)
                          | rw [if_pos (show 12 * by9 < 0 by omega)]
                          | (rw [if_neg (show ¬ 12 * by9 < 0 by omega)]
                             have hb1 : by9 = 1 := by omega
                             subst hb1
                             have hsi := sol_in i3 (by omega)
                             rw [hsi.2]
                             unfold strK
                             first
                               | (rw [if_pos (by have q7 := hG (cB + 12 * 1).toNat; exact ⟨by assumption, by omega⟩)]; done)
                               | (rw [if_neg (by intro q7; have q8 := q7.1; exact absurd q8 (by omega))]; rfl))
                    rw [hFv] at hF9
                    unfold mvM
                    rw [← hF9]
                    exact q9
                  · skip
                    have f60 : h1 (am 1 0) = some (eI D 3 (((bM m cB v1 tB sB) 1 0))) := hcp3.1.1 1 0 (lm0 (by decide))
                    have f61 : h1 (am 1 0) = some (eI D 3 (m 1 0)) := by have q9 := f60; exact q9
                    refine x_aload_n C dX8_moves_251 0 rfl ?_
                    refine x_get C (v := .ref (am 1 0)) f4 (T := TX8) rfl kX8_moves_1 1 (by decide) kX8_moves_5 rfl dX8_moves_252 ?_
                    refine x_iload C dX8_moves_255 6 rfl ?_
                    refine x_bipush C dX8_moves_257 6 (by decide) ?_
                    refine x_isub C dX8_moves_259 ?_
                    refine x_iald C f61 ⟨by omega, by omega⟩ (by decide) dX8_moves_260 ?_
                    have r62 := hSS (Int.toNat (((m 28 0) (Int.toNat (cB + 12))) - 6))
                    refine x_ineg C dX8_moves_261 ?_
                    refine x_goto (tgt := 266) C dX8_moves_262 (by decide) ?_
                    refine x_put C f4 (T := TX8) rfl tyX8_ok nmX8 kX8_moves_1 32 (by decide) kX8_moves_2 rfl (fs' := [vI (((bM m cB v1 tB sB) 0 0) 0), .ref (am 1 0), vI (((bM m cB v1 tB sB) 0 0) 2), .ref (am 3 0), .ref (am 4 0), .ref (am 5 0), .ref (am 6 0), .ref (am 7 0), .ref (am 8 0), .ref (am 9 0), .ref (am 10 0), .ref (am 11 0), .ref (am 12 0), .ref (am 13 0), vI (((bM m cB v1 tB sB) 0 0) 14), .ref (am 15 0), .ref (am 16 0), .ref (am 17 0), .ref (am 18 0), .ref (am 19 0), .ref (am 20 0), .ref (am 21 0), .ref (am 22 0), .ref (am 23 0), .ref (am 24 0), .ref (am 25 0), .ref (am 26 0), .ref (am 27 0), .ref (am 28 0), .ref (am 29 0), vI (((((bM m cB v1 tB sB) 0 0) 30).toNat : Nat) : Int), vI cB, vI (-((m 1 0) (Int.toNat (((m 28 0) (Int.toNat (cB + 12))) - 6)))), vI ((tB : Nat) : Int), vI sB, .ref (am 35 0), .ref (am 36 0), .ref (am 37 0)]) rfl rfl (by simp) rfl dX8_moves_266 (x_hn (fun h63 e64 => ?_))
                    have f65 : h63 (am 0 0) = some (eO 8 [vI (((bM m cB v1 tB sB) 0 0) 0), .ref (am 1 0), vI (((bM m cB v1 tB sB) 0 0) 2), .ref (am 3 0), .ref (am 4 0), .ref (am 5 0), .ref (am 6 0), .ref (am 7 0), .ref (am 8 0), .ref (am 9 0), .ref (am 10 0), .ref (am 11 0), .ref (am 12 0), .ref (am 13 0), vI (((bM m cB v1 tB sB) 0 0) 14), .ref (am 15 0), .ref (am 16 0), .ref (am 17 0), .ref (am 18 0), .ref (am 19 0), .ref (am 20 0), .ref (am 21 0), .ref (am 22 0), .ref (am 23 0), .ref (am 24 0), .ref (am 25 0), .ref (am 26 0), .ref (am 27 0), .ref (am 28 0), .ref (am 29 0), vI (((((bM m cB v1 tB sB) 0 0) 30).toNat : Nat) : Int), vI cB, vI (-((m 1 0) (Int.toNat (((m 28 0) (Int.toNat (cB + 12))) - 6)))), vI ((tB : Nat) : Int), vI sB, .ref (am 35 0), .ref (am 36 0), .ref (am 37 0)]) := by rw [e64]; exact hu_s
                    refine x_vret C G dX8_moves_269 ?_ (by decide) (by decide)
                    have cp66 : MP D am h (cu (bM m cB v1 tB sB) 0 0 ((fu (fu (fu (fu ((bM m cB v1 tB sB) 0 0) 31 cB) 32 (-((m 1 0) (Int.toNat (((m 28 0) (Int.toNat (cB + 12))) - 6))))) 33 ((tB : Nat) : Int)) 34 sB))) h63 := by rw [e64]; exact (MP.up hcp3 (lm0 (by decide)) ((fu (fu (fu (fu ((bM m cB v1 tB sB) 0 0) 31 cB) 32 (-((m 1 0) (Int.toNat (((m 28 0) (Int.toNat (cB + 12))) - 6))))) 33 ((tB : Nat) : Int)) 34 sB)) rfl)
                    refine ⟨rfl, ?_⟩
                    have q9 := cp66
                    rw [bM_up] at q9
                    have hFv : F9 = (cB, -((m 1 0) (Int.toNat (((m 28 0) (Int.toNat (cB + 12))) - 6))), tB, sB) := by
                      rcases hI with ⟨i1, i2, i3⟩ | ⟨i1, i2, i3⟩ | ⟨i1, i2, i3, i4⟩
                      · obtain rfl : n = 0 := by omega
                        rw [i3]
                        first
                          | (exfalso; omega)
                          | (show (cB, (if v1 < 3 then v1 + 1 else 3), tB, sB) = _; first | rw [if_pos (by omega)] | rw [if_neg (by omega)])
                      · exfalso; omega
                      · rw [i4]
                        first
                          | (exfalso; omega)
                          | rw [if_pos (show 12 * by9 < 0 by omega)]
                          | (rw [if_neg (show ¬ 12 * by9 < 0 by omega)]
                             have hb1 : by9 = 1 := by omega
                             subst hb1
                             have hsi := sol_in i3 (by omega)
                             rw [hsi.2]
                             unfold strK
                             first
                               | (rw [if_pos (by have q7 := hG (cB + 12 * 1).toNat; exact ⟨by assumption, by omega⟩)]; done)
                               | (rw [if_neg (by intro q7; have q8 := q7.1; exact absurd q8 (by omega))]; rfl))
                    rw [hFv] at hF9
                    unfold mvM
                    rw [← hF9]
                    exact q9
                · skip
                  refine x_iload C dX8_moves_239 7 rfl ?_
                  refine x_goto (tgt := 266) C dX8_moves_241 (by decide) ?_
                  refine x_put C f4 (T := TX8) rfl tyX8_ok nmX8 kX8_moves_1 32 (by decide) kX8_moves_2 rfl (fs' := [vI (((bM m cB v1 tB sB) 0 0) 0), .ref (am 1 0), vI (((bM m cB v1 tB sB) 0 0) 2), .ref (am 3 0), .ref (am 4 0), .ref (am 5 0), .ref (am 6 0), .ref (am 7 0), .ref (am 8 0), .ref (am 9 0), .ref (am 10 0), .ref (am 11 0), .ref (am 12 0), .ref (am 13 0), vI (((bM m cB v1 tB sB) 0 0) 14), .ref (am 15 0), .ref (am 16 0), .ref (am 17 0), .ref (am 18 0), .ref (am 19 0), .ref (am 20 0), .ref (am 21 0), .ref (am 22 0), .ref (am 23 0), .ref (am 24 0), .ref (am 25 0), .ref (am 26 0), .ref (am 27 0), .ref (am 28 0), .ref (am 29 0), vI (((((bM m cB v1 tB sB) 0 0) 30).toNat : Nat) : Int), vI cB, vI 3, vI ((tB : Nat) : Int), vI sB, .ref (am 35 0), .ref (am 36 0), .ref (am 37 0)]) rfl rfl (by simp) rfl dX8_moves_266 (x_hn (fun h67 e68 => ?_))
                  have f69 : h67 (am 0 0) = some (eO 8 [vI (((bM m cB v1 tB sB) 0 0) 0), .ref (am 1 0), vI (((bM m cB v1 tB sB) 0 0) 2), .ref (am 3 0), .ref (am 4 0), .ref (am 5 0), .ref (am 6 0), .ref (am 7 0), .ref (am 8 0), .ref (am 9 0), .ref (am 10 0), .ref (am 11 0), .ref (am 12 0), .ref (am 13 0), vI (((bM m cB v1 tB sB) 0 0) 14), .ref (am 15 0), .ref (am 16 0), .ref (am 17 0), .ref (am 18 0), .ref (am 19 0), .ref (am 20 0), .ref (am 21 0), .ref (am 22 0), .ref (am 23 0), .ref (am 24 0), .ref (am 25 0), .ref (am 26 0), .ref (am 27 0), .ref (am 28 0), .ref (am 29 0), vI (((((bM m cB v1 tB sB) 0 0) 30).toNat : Nat) : Int), vI cB, vI 3, vI ((tB : Nat) : Int), vI sB, .ref (am 35 0), .ref (am 36 0), .ref (am 37 0)]) := by rw [e68]; exact hu_s
                  refine x_vret C G dX8_moves_269 ?_ (by decide) (by decide)
                  have cp70 : MP D am h (cu (bM m cB v1 tB sB) 0 0 ((fu (fu (fu (fu ((bM m cB v1 tB sB) 0 0) 31 cB) 32 3) 33 ((tB : Nat) : Int)) 34 sB))) h67 := by rw [e68]; exact (MP.up hcp3 (lm0 (by decide)) ((fu (fu (fu (fu ((bM m cB v1 tB sB) 0 0) 31 cB) 32 3) 33 ((tB : Nat) : Int)) 34 sB)) rfl)
                  refine ⟨rfl, ?_⟩
                  have q9 := cp70
                  rw [bM_up] at q9
                  have hFv : F9 = (cB, 3, tB, sB) := by
                    rcases hI with ⟨i1, i2, i3⟩ | ⟨i1, i2, i3⟩ | ⟨i1, i2, i3, i4⟩
                    · obtain rfl : n = 0 := by omega
                      rw [i3]
                      first
                        | (exfalso; omega)
                        | (show (cB, (if v1 < 3 then v1 + 1 else 3), tB, sB) = _; first | rw [if_pos (by omega)] | rw [if_neg (by omega)])
                    · exfalso; omega
                    · rw [i4]
                      first
                        | (exfalso; omega)
                        | rw [if_pos (show 12 * by9 < 0 by omega)]
                        | (rw [if_neg (show ¬ 12 * by9 < 0 by omega)]
                           have hb1 : by9 = 1 := by omega
                           subst hb1
                           have hsi := sol_in i3 (by omega)
                           rw [hsi.2]
                           unfold strK
                           first
                             | (rw [if_pos (by have q7 := hG (cB + 12 * 1).toNat; exact ⟨by assumption, by omega⟩)]; done)
                             | (rw [if_neg (by intro q7; have q8 := q7.1; exact absurd q8 (by omega))]; rfl))
                  rw [hFv] at hF9
                  unfold mvM
                  rw [← hF9]
                  exact q9
              · skip
                refine x_aload_n C dX8_moves_221 0 rfl ?_
                refine x_get C (v := vI v1) f4 (T := TX8) rfl kX8_moves_1 32 (by decide) kX8_moves_2 rfl dX8_moves_222 ?_
                refine x_iconst C dX8_moves_225 1 (by decide) ?_
                refine x_iadd C dX8_moves_226 ?_
                refine x_goto (tgt := 231) C dX8_moves_227 (by decide) ?_
                refine x_istore C (ls' := [(0, .ref (am 0 0)), (1, vI z), (2, vI (cB % 12)), (3, vI w9), (4, vI by9), (5, vI st9), (6, vI ((m 28 0) (Int.toNat (cB + 12)))), (7, vI (v1 + 1))]) dX8_moves_231 (by decide) rfl ?_
                refine x_aload_n C dX8_moves_233 0 rfl ?_
                refine x_iload C dX8_moves_234 5 rfl ?_
                refine x_if_ne (tgt := 244) C dX8_moves_236 (by decide) (by omega) (fun c71 => ?_) (fun c71 => ?_)
                · skip
                  refine x_iload C dX8_moves_244 6 rfl ?_
                  refine x_bipush C dX8_moves_246 6 (by decide) ?_
                  refine x_icmp_lt (tgt := 265) C dX8_moves_248 (by decide) (by omega) (by omega) (fun c72 => ?_) (fun c72 => ?_)
                  · skip
                    refine x_iconst C dX8_moves_265 0 (by decide) ?_
                    refine x_put C f4 (T := TX8) rfl tyX8_ok nmX8 kX8_moves_1 32 (by decide) kX8_moves_2 rfl (fs' := [vI (((bM m cB v1 tB sB) 0 0) 0), .ref (am 1 0), vI (((bM m cB v1 tB sB) 0 0) 2), .ref (am 3 0), .ref (am 4 0), .ref (am 5 0), .ref (am 6 0), .ref (am 7 0), .ref (am 8 0), .ref (am 9 0), .ref (am 10 0), .ref (am 11 0), .ref (am 12 0), .ref (am 13 0), vI (((bM m cB v1 tB sB) 0 0) 14), .ref (am 15 0), .ref (am 16 0), .ref (am 17 0), .ref (am 18 0), .ref (am 19 0), .ref (am 20 0), .ref (am 21 0), .ref (am 22 0), .ref (am 23 0), .ref (am 24 0), .ref (am 25 0), .ref (am 26 0), .ref (am 27 0), .ref (am 28 0), .ref (am 29 0), vI (((((bM m cB v1 tB sB) 0 0) 30).toNat : Nat) : Int), vI cB, vI 0, vI ((tB : Nat) : Int), vI sB, .ref (am 35 0), .ref (am 36 0), .ref (am 37 0)]) rfl rfl (by simp) rfl dX8_moves_266 (x_hn (fun h73 e74 => ?_))
                    have f75 : h73 (am 0 0) = some (eO 8 [vI (((bM m cB v1 tB sB) 0 0) 0), .ref (am 1 0), vI (((bM m cB v1 tB sB) 0 0) 2), .ref (am 3 0), .ref (am 4 0), .ref (am 5 0), .ref (am 6 0), .ref (am 7 0), .ref (am 8 0), .ref (am 9 0), .ref (am 10 0), .ref (am 11 0), .ref (am 12 0), .ref (am 13 0), vI (((bM m cB v1 tB sB) 0 0) 14), .ref (am 15 0), .ref (am 16 0), .ref (am 17 0), .ref (am 18 0), .ref (am 19 0), .ref (am 20 0), .ref (am 21 0), .ref (am 22 0), .ref (am 23 0), .ref (am 24 0), .ref (am 25 0), .ref (am 26 0), .ref (am 27 0), .ref (am 28 0), .ref (am 29 0), vI (((((bM m cB v1 tB sB) 0 0) 30).toNat : Nat) : Int), vI cB, vI 0, vI ((tB : Nat) : Int), vI sB, .ref (am 35 0), .ref (am 36 0), .ref (am 37 0)]) := by rw [e74]; exact hu_s
                    refine x_vret C G dX8_moves_269 ?_ (by decide) (by decide)
                    have cp76 : MP D am h (cu (bM m cB v1 tB sB) 0 0 ((fu (fu (fu (fu ((bM m cB v1 tB sB) 0 0) 31 cB) 32 0) 33 ((tB : Nat) : Int)) 34 sB))) h73 := by rw [e74]; exact (MP.up hcp3 (lm0 (by decide)) ((fu (fu (fu (fu ((bM m cB v1 tB sB) 0 0) 31 cB) 32 0) 33 ((tB : Nat) : Int)) 34 sB)) rfl)
                    refine ⟨rfl, ?_⟩
                    have q9 := cp76
                    rw [bM_up] at q9
                    have hFv : F9 = (cB, 0, tB, sB) := by
                      rcases hI with ⟨i1, i2, i3⟩ | ⟨i1, i2, i3⟩ | ⟨i1, i2, i3, i4⟩
                      · obtain rfl : n = 0 := by omega
                        rw [i3]
                        first
                          | (exfalso; omega)
                          | (show (cB, (if v1 < 3 then v1 + 1 else 3), tB, sB) = _; first | rw [if_pos (by omega)] | rw [if_neg (by omega)])
                      · exfalso; omega
                      · rw [i4]
                        first
                          | (exfalso; omega)
                          | rw [if_pos (show 12 * by9 < 0 by omega)]
                          | (rw [if_neg (show ¬ 12 * by9 < 0 by omega)]
                             have hb1 : by9 = 1 := by omega
                             subst hb1
                             have hsi := sol_in i3 (by omega)
                             rw [hsi.2]
                             unfold strK
                             first
                               | (rw [if_pos (by have q7 := hG (cB + 12 * 1).toNat; exact ⟨by assumption, by omega⟩)]; done)
                               | (rw [if_neg (by intro q7; have q8 := q7.1; exact absurd q8 (by omega))]; rfl))
                    rw [hFv] at hF9
                    unfold mvM
                    rw [← hF9]
                    exact q9
                  · skip
                    have f77 : h1 (am 1 0) = some (eI D 3 (((bM m cB v1 tB sB) 1 0))) := hcp3.1.1 1 0 (lm0 (by decide))
                    have f78 : h1 (am 1 0) = some (eI D 3 (m 1 0)) := by have q9 := f77; exact q9
                    refine x_aload_n C dX8_moves_251 0 rfl ?_
                    refine x_get C (v := .ref (am 1 0)) f4 (T := TX8) rfl kX8_moves_1 1 (by decide) kX8_moves_5 rfl dX8_moves_252 ?_
                    refine x_iload C dX8_moves_255 6 rfl ?_
                    refine x_bipush C dX8_moves_257 6 (by decide) ?_
                    refine x_isub C dX8_moves_259 ?_
                    refine x_iald C f78 ⟨by omega, by omega⟩ (by decide) dX8_moves_260 ?_
                    have r79 := hSS (Int.toNat (((m 28 0) (Int.toNat (cB + 12))) - 6))
                    refine x_ineg C dX8_moves_261 ?_
                    refine x_goto (tgt := 266) C dX8_moves_262 (by decide) ?_
                    refine x_put C f4 (T := TX8) rfl tyX8_ok nmX8 kX8_moves_1 32 (by decide) kX8_moves_2 rfl (fs' := [vI (((bM m cB v1 tB sB) 0 0) 0), .ref (am 1 0), vI (((bM m cB v1 tB sB) 0 0) 2), .ref (am 3 0), .ref (am 4 0), .ref (am 5 0), .ref (am 6 0), .ref (am 7 0), .ref (am 8 0), .ref (am 9 0), .ref (am 10 0), .ref (am 11 0), .ref (am 12 0), .ref (am 13 0), vI (((bM m cB v1 tB sB) 0 0) 14), .ref (am 15 0), .ref (am 16 0), .ref (am 17 0), .ref (am 18 0), .ref (am 19 0), .ref (am 20 0), .ref (am 21 0), .ref (am 22 0), .ref (am 23 0), .ref (am 24 0), .ref (am 25 0), .ref (am 26 0), .ref (am 27 0), .ref (am 28 0), .ref (am 29 0), vI (((((bM m cB v1 tB sB) 0 0) 30).toNat : Nat) : Int), vI cB, vI (-((m 1 0) (Int.toNat (((m 28 0) (Int.toNat (cB + 12))) - 6)))), vI ((tB : Nat) : Int), vI sB, .ref (am 35 0), .ref (am 36 0), .ref (am 37 0)]) rfl rfl (by simp) rfl dX8_moves_266 (x_hn (fun h80 e81 => ?_))
                    have f82 : h80 (am 0 0) = some (eO 8 [vI (((bM m cB v1 tB sB) 0 0) 0), .ref (am 1 0), vI (((bM m cB v1 tB sB) 0 0) 2), .ref (am 3 0), .ref (am 4 0), .ref (am 5 0), .ref (am 6 0), .ref (am 7 0), .ref (am 8 0), .ref (am 9 0), .ref (am 10 0), .ref (am 11 0), .ref (am 12 0), .ref (am 13 0), vI (((bM m cB v1 tB sB) 0 0) 14), .ref (am 15 0), .ref (am 16 0), .ref (am 17 0), .ref (am 18 0), .ref (am 19 0), .ref (am 20 0), .ref (am 21 0), .ref (am 22 0), .ref (am 23 0), .ref (am 24 0), .ref (am 25 0), .ref (am 26 0), .ref (am 27 0), .ref (am 28 0), .ref (am 29 0), vI (((((bM m cB v1 tB sB) 0 0) 30).toNat : Nat) : Int), vI cB, vI (-((m 1 0) (Int.toNat (((m 28 0) (Int.toNat (cB + 12))) - 6)))), vI ((tB : Nat) : Int), vI sB, .ref (am 35 0), .ref (am 36 0), .ref (am 37 0)]) := by rw [e81]; exact hu_s
                    refine x_vret C G dX8_moves_269 ?_ (by decide) (by decide)
                    have cp83 : MP D am h (cu (bM m cB v1 tB sB) 0 0 ((fu (fu (fu (fu ((bM m cB v1 tB sB) 0 0) 31 cB) 32 (-((m 1 0) (Int.toNat (((m 28 0) (Int.toNat (cB + 12))) - 6))))) 33 ((tB : Nat) : Int)) 34 sB))) h80 := by rw [e81]; exact (MP.up hcp3 (lm0 (by decide)) ((fu (fu (fu (fu ((bM m cB v1 tB sB) 0 0) 31 cB) 32 (-((m 1 0) (Int.toNat (((m 28 0) (Int.toNat (cB + 12))) - 6))))) 33 ((tB : Nat) : Int)) 34 sB)) rfl)
                    refine ⟨rfl, ?_⟩
                    have q9 := cp83
                    rw [bM_up] at q9
                    have hFv : F9 = (cB, -((m 1 0) (Int.toNat (((m 28 0) (Int.toNat (cB + 12))) - 6))), tB, sB) := by
                      rcases hI with ⟨i1, i2, i3⟩ | ⟨i1, i2, i3⟩ | ⟨i1, i2, i3, i4⟩
                      · obtain rfl : n = 0 := by omega
                        rw [i3]
                        first
                          | (exfalso; omega)
                          | (show (cB, (if v1 < 3 then v1 + 1 else 3), tB, sB) = _; first | rw [if_pos (by omega)] | rw [if_neg (by omega)])
                      · exfalso; omega
                      · rw [i4]
                        first
                          | (exfalso; omega)
                          | rw [if_pos (show 12 * by9 < 0 by omega)]
                          | (rw [if_neg (show ¬ 12 * by9 < 0 by omega)]
                             have hb1 : by9 = 1 := by omega
                             subst hb1
                             have hsi := sol_in i3 (by omega)
                             rw [hsi.2]
                             unfold strK
                             first
                               | (rw [if_pos (by have q7 := hG (cB + 12 * 1).toNat; exact ⟨by assumption, by omega⟩)]; done)
                               | (rw [if_neg (by intro q7; have q8 := q7.1; exact absurd q8 (by omega))]; rfl))
                    rw [hFv] at hF9
                    unfold mvM
                    rw [← hF9]
                    exact q9
                · skip
                  refine x_iload C dX8_moves_239 7 rfl ?_
                  refine x_goto (tgt := 266) C dX8_moves_241 (by decide) ?_
                  refine x_put C f4 (T := TX8) rfl tyX8_ok nmX8 kX8_moves_1 32 (by decide) kX8_moves_2 rfl (fs' := [vI (((bM m cB v1 tB sB) 0 0) 0), .ref (am 1 0), vI (((bM m cB v1 tB sB) 0 0) 2), .ref (am 3 0), .ref (am 4 0), .ref (am 5 0), .ref (am 6 0), .ref (am 7 0), .ref (am 8 0), .ref (am 9 0), .ref (am 10 0), .ref (am 11 0), .ref (am 12 0), .ref (am 13 0), vI (((bM m cB v1 tB sB) 0 0) 14), .ref (am 15 0), .ref (am 16 0), .ref (am 17 0), .ref (am 18 0), .ref (am 19 0), .ref (am 20 0), .ref (am 21 0), .ref (am 22 0), .ref (am 23 0), .ref (am 24 0), .ref (am 25 0), .ref (am 26 0), .ref (am 27 0), .ref (am 28 0), .ref (am 29 0), vI (((((bM m cB v1 tB sB) 0 0) 30).toNat : Nat) : Int), vI cB, vI (v1 + 1), vI ((tB : Nat) : Int), vI sB, .ref (am 35 0), .ref (am 36 0), .ref (am 37 0)]) rfl rfl (by simp) rfl dX8_moves_266 (x_hn (fun h84 e85 => ?_))
                  have f86 : h84 (am 0 0) = some (eO 8 [vI (((bM m cB v1 tB sB) 0 0) 0), .ref (am 1 0), vI (((bM m cB v1 tB sB) 0 0) 2), .ref (am 3 0), .ref (am 4 0), .ref (am 5 0), .ref (am 6 0), .ref (am 7 0), .ref (am 8 0), .ref (am 9 0), .ref (am 10 0), .ref (am 11 0), .ref (am 12 0), .ref (am 13 0), vI (((bM m cB v1 tB sB) 0 0) 14), .ref (am 15 0), .ref (am 16 0), .ref (am 17 0), .ref (am 18 0), .ref (am 19 0), .ref (am 20 0), .ref (am 21 0), .ref (am 22 0), .ref (am 23 0), .ref (am 24 0), .ref (am 25 0), .ref (am 26 0), .ref (am 27 0), .ref (am 28 0), .ref (am 29 0), vI (((((bM m cB v1 tB sB) 0 0) 30).toNat : Nat) : Int), vI cB, vI (v1 + 1), vI ((tB : Nat) : Int), vI sB, .ref (am 35 0), .ref (am 36 0), .ref (am 37 0)]) := by rw [e85]; exact hu_s
                  refine x_vret C G dX8_moves_269 ?_ (by decide) (by decide)
                  have cp87 : MP D am h (cu (bM m cB v1 tB sB) 0 0 ((fu (fu (fu (fu ((bM m cB v1 tB sB) 0 0) 31 cB) 32 (v1 + 1)) 33 ((tB : Nat) : Int)) 34 sB))) h84 := by rw [e85]; exact (MP.up hcp3 (lm0 (by decide)) ((fu (fu (fu (fu ((bM m cB v1 tB sB) 0 0) 31 cB) 32 (v1 + 1)) 33 ((tB : Nat) : Int)) 34 sB)) rfl)
                  refine ⟨rfl, ?_⟩
                  have q9 := cp87
                  rw [bM_up] at q9
                  have hFv : F9 = (cB, v1 + 1, tB, sB) := by
                    rcases hI with ⟨i1, i2, i3⟩ | ⟨i1, i2, i3⟩ | ⟨i1, i2, i3, i4⟩
                    · obtain rfl : n = 0 := by omega
                      rw [i3]
                      first
                        | (exfalso; omega)
                        | (show (cB, (if v1 < 3 then v1 + 1 else 3), tB, sB) = _; first | rw [if_pos (by omega)] | rw [if_neg (by omega)])
                    · exfalso; omega
                    · rw [i4]
                      first
                        | (exfalso; omega)
                        | rw [if_pos (show 12 * by9 < 0 by omega)]
                        | (rw [if_neg (show ¬ 12 * by9 < 0 by omega)]
                           have hb1 : by9 = 1 := by omega
                           subst hb1
                           have hsi := sol_in i3 (by omega)
                           rw [hsi.2]
                           unfold strK
                           first
                             | (rw [if_pos (by have q7 := hG (cB + 12 * 1).toNat; exact ⟨by assumption, by omega⟩)]; done)
                             | (rw [if_neg (by intro q7; have q8 := q7.1; exact absurd q8 (by omega))]; rfl))
                  rw [hFv] at hF9
                  unfold mvM
                  rw [← hF9]
                  exact q9
        · skip
          refine x_vret C G dX8_moves_184 ?_ (by decide) (by decide)
          refine ⟨rfl, ?_⟩
          rcases hI with ⟨i1, i2, i3⟩ | ⟨i1, i2, i3⟩ | ⟨i1, i2, i3, i4⟩
          · exfalso; omega
          · rw [i3] at hF9
            unfold mvM
            rw [← hF9]
            exact hcp3
          · exfalso; omega
      · skip
        have f88 : h1 (am 0 0) = some (eO 8 [vI (((bM m cB v1 tB sB) 0 0) 0), .ref (am 1 0), vI (((bM m cB v1 tB sB) 0 0) 2), .ref (am 3 0), .ref (am 4 0), .ref (am 5 0), .ref (am 6 0), .ref (am 7 0), .ref (am 8 0), .ref (am 9 0), .ref (am 10 0), .ref (am 11 0), .ref (am 12 0), .ref (am 13 0), vI (((bM m cB v1 tB sB) 0 0) 14), .ref (am 15 0), .ref (am 16 0), .ref (am 17 0), .ref (am 18 0), .ref (am 19 0), .ref (am 20 0), .ref (am 21 0), .ref (am 22 0), .ref (am 23 0), .ref (am 24 0), .ref (am 25 0), .ref (am 26 0), .ref (am 27 0), .ref (am 28 0), .ref (am 29 0), vI (((((bM m cB v1 tB sB) 0 0) 30).toNat : Nat) : Int), vI (((bM m cB v1 tB sB) 0 0) 31), vI (((bM m cB v1 tB sB) 0 0) 32), vI (((((bM m cB v1 tB sB) 0 0) 33).toNat : Nat) : Int), vI (((bM m cB v1 tB sB) 0 0) 34), .ref (am 35 0), .ref (am 36 0), .ref (am 37 0)]) := hcp3.1.1 0 0 (lm0 (by decide))
        have f89 : h1 (am 0 0) = some (eO 8 [vI (((bM m cB v1 tB sB) 0 0) 0), .ref (am 1 0), vI (((bM m cB v1 tB sB) 0 0) 2), .ref (am 3 0), .ref (am 4 0), .ref (am 5 0), .ref (am 6 0), .ref (am 7 0), .ref (am 8 0), .ref (am 9 0), .ref (am 10 0), .ref (am 11 0), .ref (am 12 0), .ref (am 13 0), vI (((bM m cB v1 tB sB) 0 0) 14), .ref (am 15 0), .ref (am 16 0), .ref (am 17 0), .ref (am 18 0), .ref (am 19 0), .ref (am 20 0), .ref (am 21 0), .ref (am 22 0), .ref (am 23 0), .ref (am 24 0), .ref (am 25 0), .ref (am 26 0), .ref (am 27 0), .ref (am 28 0), .ref (am 29 0), vI (((((bM m cB v1 tB sB) 0 0) 30).toNat : Nat) : Int), vI cB, vI v1, vI ((tB : Nat) : Int), vI sB, .ref (am 35 0), .ref (am 36 0), .ref (am 37 0)]) := by have q9 := f88; exact q9
        refine x_aload_n C dX8_moves_120 0 rfl ?_
        refine x_get C (v := vI sB) f89 (T := TX8) rfl kX8_moves_1 34 (by decide) kX8_moves_0 rfl dX8_moves_121 ?_
        refine x_iconst C dX8_moves_124 1 (by decide) ?_
        refine x_icmp_ne (tgt := 176) C dX8_moves_125 (by decide) (by omega) (by omega) (fun c90 => ?_) (fun c90 => ?_)
        · skip
          have f91 : h1 (am 0 0) = some (eO 8 [vI (((bM m cB v1 tB sB) 0 0) 0), .ref (am 1 0), vI (((bM m cB v1 tB sB) 0 0) 2), .ref (am 3 0), .ref (am 4 0), .ref (am 5 0), .ref (am 6 0), .ref (am 7 0), .ref (am 8 0), .ref (am 9 0), .ref (am 10 0), .ref (am 11 0), .ref (am 12 0), .ref (am 13 0), vI (((bM m cB v1 tB sB) 0 0) 14), .ref (am 15 0), .ref (am 16 0), .ref (am 17 0), .ref (am 18 0), .ref (am 19 0), .ref (am 20 0), .ref (am 21 0), .ref (am 22 0), .ref (am 23 0), .ref (am 24 0), .ref (am 25 0), .ref (am 26 0), .ref (am 27 0), .ref (am 28 0), .ref (am 29 0), vI (((((bM m cB v1 tB sB) 0 0) 30).toNat : Nat) : Int), vI cB, vI v1, vI ((tB : Nat) : Int), vI sB, .ref (am 35 0), .ref (am 36 0), .ref (am 37 0)]) := by have q9 := f89; exact q9
          refine x_aload_n C dX8_moves_176 0 rfl ?_
          refine x_get C (v := vI sB) f91 (T := TX8) rfl kX8_moves_1 34 (by decide) kX8_moves_0 rfl dX8_moves_177 ?_
          refine x_iconst C dX8_moves_180 1 (by decide) ?_
          refine x_icmp_eq (tgt := 185) C dX8_moves_181 (by decide) (by omega) (by omega) (fun c92 => ?_) (fun c92 => ?_)
          · skip
            refine x_iload C dX8_moves_185 5 rfl ?_
            refine x_if_eq (tgt := 210) C dX8_moves_187 (by decide) (by omega) (fun c93 => ?_) (fun c93 => ?_)
            · skip
              refine x_iconst C dX8_moves_210 0 (by decide) ?_
              refine x_istore C (ls' := [(0, .ref (am 0 0)), (1, vI z), (2, vI (cB % 12)), (3, vI w9), (4, vI by9), (5, vI st9), (6, vI 0)]) dX8_moves_211 (by decide) rfl ?_
              refine x_aload_n C dX8_moves_213 0 rfl ?_
              refine x_get C (v := vI v1) f91 (T := TX8) rfl kX8_moves_1 32 (by decide) kX8_moves_2 rfl dX8_moves_214 ?_
              refine x_iconst C dX8_moves_217 3 (by decide) ?_
              refine x_icmp_ge (tgt := 230) C dX8_moves_218 (by decide) (by omega) (by omega) (fun c94 => ?_) (fun c94 => ?_)
              · skip
                refine x_iconst C dX8_moves_230 3 (by decide) ?_
                refine x_istore C (ls' := [(0, .ref (am 0 0)), (1, vI z), (2, vI (cB % 12)), (3, vI w9), (4, vI by9), (5, vI st9), (6, vI 0), (7, vI 3)]) dX8_moves_231 (by decide) rfl ?_
                refine x_aload_n C dX8_moves_233 0 rfl ?_
                refine x_iload C dX8_moves_234 5 rfl ?_
                refine x_if_ne (tgt := 244) C dX8_moves_236 (by decide) (by omega) (fun c95 => ?_) (fun c95 => ?_)
                · skip
                  refine x_iload C dX8_moves_244 6 rfl ?_
                  refine x_bipush C dX8_moves_246 6 (by decide) ?_
                  refine x_icmp_lt (tgt := 265) C dX8_moves_248 (by decide) (by omega) (by omega) (fun c96 => ?_) (fun c96 => ?_)
                  · skip
                    refine x_iconst C dX8_moves_265 0 (by decide) ?_
                    refine x_put C f91 (T := TX8) rfl tyX8_ok nmX8 kX8_moves_1 32 (by decide) kX8_moves_2 rfl (fs' := [vI (((bM m cB v1 tB sB) 0 0) 0), .ref (am 1 0), vI (((bM m cB v1 tB sB) 0 0) 2), .ref (am 3 0), .ref (am 4 0), .ref (am 5 0), .ref (am 6 0), .ref (am 7 0), .ref (am 8 0), .ref (am 9 0), .ref (am 10 0), .ref (am 11 0), .ref (am 12 0), .ref (am 13 0), vI (((bM m cB v1 tB sB) 0 0) 14), .ref (am 15 0), .ref (am 16 0), .ref (am 17 0), .ref (am 18 0), .ref (am 19 0), .ref (am 20 0), .ref (am 21 0), .ref (am 22 0), .ref (am 23 0), .ref (am 24 0), .ref (am 25 0), .ref (am 26 0), .ref (am 27 0), .ref (am 28 0), .ref (am 29 0), vI (((((bM m cB v1 tB sB) 0 0) 30).toNat : Nat) : Int), vI cB, vI 0, vI ((tB : Nat) : Int), vI sB, .ref (am 35 0), .ref (am 36 0), .ref (am 37 0)]) rfl rfl (by simp) rfl dX8_moves_266 (x_hn (fun h97 e98 => ?_))
                    have f99 : h97 (am 0 0) = some (eO 8 [vI (((bM m cB v1 tB sB) 0 0) 0), .ref (am 1 0), vI (((bM m cB v1 tB sB) 0 0) 2), .ref (am 3 0), .ref (am 4 0), .ref (am 5 0), .ref (am 6 0), .ref (am 7 0), .ref (am 8 0), .ref (am 9 0), .ref (am 10 0), .ref (am 11 0), .ref (am 12 0), .ref (am 13 0), vI (((bM m cB v1 tB sB) 0 0) 14), .ref (am 15 0), .ref (am 16 0), .ref (am 17 0), .ref (am 18 0), .ref (am 19 0), .ref (am 20 0), .ref (am 21 0), .ref (am 22 0), .ref (am 23 0), .ref (am 24 0), .ref (am 25 0), .ref (am 26 0), .ref (am 27 0), .ref (am 28 0), .ref (am 29 0), vI (((((bM m cB v1 tB sB) 0 0) 30).toNat : Nat) : Int), vI cB, vI 0, vI ((tB : Nat) : Int), vI sB, .ref (am 35 0), .ref (am 36 0), .ref (am 37 0)]) := by rw [e98]; exact hu_s
                    refine x_vret C G dX8_moves_269 ?_ (by decide) (by decide)
                    have cp100 : MP D am h (cu (bM m cB v1 tB sB) 0 0 ((fu (fu (fu (fu ((bM m cB v1 tB sB) 0 0) 31 cB) 32 0) 33 ((tB : Nat) : Int)) 34 sB))) h97 := by rw [e98]; exact (MP.up hcp3 (lm0 (by decide)) ((fu (fu (fu (fu ((bM m cB v1 tB sB) 0 0) 31 cB) 32 0) 33 ((tB : Nat) : Int)) 34 sB)) rfl)
                    refine ⟨rfl, ?_⟩
                    have q9 := cp100
                    rw [bM_up] at q9
                    have hFv : F9 = (cB, 0, tB, sB) := by
                      rcases hI with ⟨i1, i2, i3⟩ | ⟨i1, i2, i3⟩ | ⟨i1, i2, i3, i4⟩
                      · obtain rfl : n = 0 := by omega
                        rw [i3]
                        first
                          | (exfalso; omega)
                          | (show (cB, (if v1 < 3 then v1 + 1 else 3), tB, sB) = _; first | rw [if_pos (by omega)] | rw [if_neg (by omega)])
                      · exfalso; omega
                      · rw [i4]
                        first
                          | (exfalso; omega)
                          | rw [if_pos (show 12 * by9 < 0 by omega)]
                          | (rw [if_neg (show ¬ 12 * by9 < 0 by omega)]
                             have hb1 : by9 = 1 := by omega
                             subst hb1
                             have hsi := sol_in i3 (by omega)
                             rw [hsi.2]
                             unfold strK
                             first
                               | (rw [if_pos (by have q7 := hG (cB + 12 * 1).toNat; exact ⟨by assumption, by omega⟩)]; done)
                               | (rw [if_neg (by intro q7; have q8 := q7.1; exact absurd q8 (by omega))]; rfl))
                    rw [hFv] at hF9
                    unfold mvM
                    rw [← hF9]
                    exact q9
                  · exfalso; omega
                · skip
                  refine x_iload C dX8_moves_239 7 rfl ?_
                  refine x_goto (tgt := 266) C dX8_moves_241 (by decide) ?_
                  refine x_put C f91 (T := TX8) rfl tyX8_ok nmX8 kX8_moves_1 32 (by decide) kX8_moves_2 rfl (fs' := [vI (((bM m cB v1 tB sB) 0 0) 0), .ref (am 1 0), vI (((bM m cB v1 tB sB) 0 0) 2), .ref (am 3 0), .ref (am 4 0), .ref (am 5 0), .ref (am 6 0), .ref (am 7 0), .ref (am 8 0), .ref (am 9 0), .ref (am 10 0), .ref (am 11 0), .ref (am 12 0), .ref (am 13 0), vI (((bM m cB v1 tB sB) 0 0) 14), .ref (am 15 0), .ref (am 16 0), .ref (am 17 0), .ref (am 18 0), .ref (am 19 0), .ref (am 20 0), .ref (am 21 0), .ref (am 22 0), .ref (am 23 0), .ref (am 24 0), .ref (am 25 0), .ref (am 26 0), .ref (am 27 0), .ref (am 28 0), .ref (am 29 0), vI (((((bM m cB v1 tB sB) 0 0) 30).toNat : Nat) : Int), vI cB, vI 3, vI ((tB : Nat) : Int), vI sB, .ref (am 35 0), .ref (am 36 0), .ref (am 37 0)]) rfl rfl (by simp) rfl dX8_moves_266 (x_hn (fun h101 e102 => ?_))
                  have f103 : h101 (am 0 0) = some (eO 8 [vI (((bM m cB v1 tB sB) 0 0) 0), .ref (am 1 0), vI (((bM m cB v1 tB sB) 0 0) 2), .ref (am 3 0), .ref (am 4 0), .ref (am 5 0), .ref (am 6 0), .ref (am 7 0), .ref (am 8 0), .ref (am 9 0), .ref (am 10 0), .ref (am 11 0), .ref (am 12 0), .ref (am 13 0), vI (((bM m cB v1 tB sB) 0 0) 14), .ref (am 15 0), .ref (am 16 0), .ref (am 17 0), .ref (am 18 0), .ref (am 19 0), .ref (am 20 0), .ref (am 21 0), .ref (am 22 0), .ref (am 23 0), .ref (am 24 0), .ref (am 25 0), .ref (am 26 0), .ref (am 27 0), .ref (am 28 0), .ref (am 29 0), vI (((((bM m cB v1 tB sB) 0 0) 30).toNat : Nat) : Int), vI cB, vI 3, vI ((tB : Nat) : Int), vI sB, .ref (am 35 0), .ref (am 36 0), .ref (am 37 0)]) := by rw [e102]; exact hu_s
                  refine x_vret C G dX8_moves_269 ?_ (by decide) (by decide)
                  have cp104 : MP D am h (cu (bM m cB v1 tB sB) 0 0 ((fu (fu (fu (fu ((bM m cB v1 tB sB) 0 0) 31 cB) 32 3) 33 ((tB : Nat) : Int)) 34 sB))) h101 := by rw [e102]; exact (MP.up hcp3 (lm0 (by decide)) ((fu (fu (fu (fu ((bM m cB v1 tB sB) 0 0) 31 cB) 32 3) 33 ((tB : Nat) : Int)) 34 sB)) rfl)
                  refine ⟨rfl, ?_⟩
                  have q9 := cp104
                  rw [bM_up] at q9
                  have hFv : F9 = (cB, 3, tB, sB) := by
                    rcases hI with ⟨i1, i2, i3⟩ | ⟨i1, i2, i3⟩ | ⟨i1, i2, i3, i4⟩
                    · obtain rfl : n = 0 := by omega
                      rw [i3]
                      first
                        | (exfalso; omega)
                        | (show (cB, (if v1 < 3 then v1 + 1 else 3), tB, sB) = _; first | rw [if_pos (by omega)] | rw [if_neg (by omega)])
                    · exfalso; omega
                    · rw [i4]
                      first
                        | (exfalso; omega)
                        | rw [if_pos (show 12 * by9 < 0 by omega)]
                        | (rw [if_neg (show ¬ 12 * by9 < 0 by omega)]
                           have hb1 : by9 = 1 := by omega
                           subst hb1
                           have hsi := sol_in i3 (by omega)
                           rw [hsi.2]
                           unfold strK
                           first
                             | (rw [if_pos (by have q7 := hG (cB + 12 * 1).toNat; exact ⟨by assumption, by omega⟩)]; done)
                             | (rw [if_neg (by intro q7; have q8 := q7.1; exact absurd q8 (by omega))]; rfl))
                  rw [hFv] at hF9
                  unfold mvM
                  rw [← hF9]
                  exact q9
              · skip
                refine x_aload_n C dX8_moves_221 0 rfl ?_
                refine x_get C (v := vI v1) f91 (T := TX8) rfl kX8_moves_1 32 (by decide) kX8_moves_2 rfl dX8_moves_222 ?_
                refine x_iconst C dX8_moves_225 1 (by decide) ?_
                refine x_iadd C dX8_moves_226 ?_
                refine x_goto (tgt := 231) C dX8_moves_227 (by decide) ?_
                refine x_istore C (ls' := [(0, .ref (am 0 0)), (1, vI z), (2, vI (cB % 12)), (3, vI w9), (4, vI by9), (5, vI st9), (6, vI 0), (7, vI (v1 + 1))]) dX8_moves_231 (by decide) rfl ?_
                refine x_aload_n C dX8_moves_233 0 rfl ?_
                refine x_iload C dX8_moves_234 5 rfl ?_
                refine x_if_ne (tgt := 244) C dX8_moves_236 (by decide) (by omega) (fun c105 => ?_) (fun c105 => ?_)
                · skip
                  refine x_iload C dX8_moves_244 6 rfl ?_
                  refine x_bipush C dX8_moves_246 6 (by decide) ?_
                  refine x_icmp_lt (tgt := 265) C dX8_moves_248 (by decide) (by omega) (by omega) (fun c106 => ?_) (fun c106 => ?_)
                  · skip
                    refine x_iconst C dX8_moves_265 0 (by decide) ?_
                    refine x_put C f91 (T := TX8) rfl tyX8_ok nmX8 kX8_moves_1 32 (by decide) kX8_moves_2 rfl (fs' := [vI (((bM m cB v1 tB sB) 0 0) 0), .ref (am 1 0), vI (((bM m cB v1 tB sB) 0 0) 2), .ref (am 3 0), .ref (am 4 0), .ref (am 5 0), .ref (am 6 0), .ref (am 7 0), .ref (am 8 0), .ref (am 9 0), .ref (am 10 0), .ref (am 11 0), .ref (am 12 0), .ref (am 13 0), vI (((bM m cB v1 tB sB) 0 0) 14), .ref (am 15 0), .ref (am 16 0), .ref (am 17 0), .ref (am 18 0), .ref (am 19 0), .ref (am 20 0), .ref (am 21 0), .ref (am 22 0), .ref (am 23 0), .ref (am 24 0), .ref (am 25 0), .ref (am 26 0), .ref (am 27 0), .ref (am 28 0), .ref (am 29 0), vI (((((bM m cB v1 tB sB) 0 0) 30).toNat : Nat) : Int), vI cB, vI 0, vI ((tB : Nat) : Int), vI sB, .ref (am 35 0), .ref (am 36 0), .ref (am 37 0)]) rfl rfl (by simp) rfl dX8_moves_266 (x_hn (fun h107 e108 => ?_))
                    have f109 : h107 (am 0 0) = some (eO 8 [vI (((bM m cB v1 tB sB) 0 0) 0), .ref (am 1 0), vI (((bM m cB v1 tB sB) 0 0) 2), .ref (am 3 0), .ref (am 4 0), .ref (am 5 0), .ref (am 6 0), .ref (am 7 0), .ref (am 8 0), .ref (am 9 0), .ref (am 10 0), .ref (am 11 0), .ref (am 12 0), .ref (am 13 0), vI (((bM m cB v1 tB sB) 0 0) 14), .ref (am 15 0), .ref (am 16 0), .ref (am 17 0), .ref (am 18 0), .ref (am 19 0), .ref (am 20 0), .ref (am 21 0), .ref (am 22 0), .ref (am 23 0), .ref (am 24 0), .ref (am 25 0), .ref (am 26 0), .ref (am 27 0), .ref (am 28 0), .ref (am 29 0), vI (((((bM m cB v1 tB sB) 0 0) 30).toNat : Nat) : Int), vI cB, vI 0, vI ((tB : Nat) : Int), vI sB, .ref (am 35 0), .ref (am 36 0), .ref (am 37 0)]) := by rw [e108]; exact hu_s
                    refine x_vret C G dX8_moves_269 ?_ (by decide) (by decide)
                    have cp110 : MP D am h (cu (bM m cB v1 tB sB) 0 0 ((fu (fu (fu (fu ((bM m cB v1 tB sB) 0 0) 31 cB) 32 0) 33 ((tB : Nat) : Int)) 34 sB))) h107 := by rw [e108]; exact (MP.up hcp3 (lm0 (by decide)) ((fu (fu (fu (fu ((bM m cB v1 tB sB) 0 0) 31 cB) 32 0) 33 ((tB : Nat) : Int)) 34 sB)) rfl)
                    refine ⟨rfl, ?_⟩
                    have q9 := cp110
                    rw [bM_up] at q9
                    have hFv : F9 = (cB, 0, tB, sB) := by
                      rcases hI with ⟨i1, i2, i3⟩ | ⟨i1, i2, i3⟩ | ⟨i1, i2, i3, i4⟩
                      · obtain rfl : n = 0 := by omega
                        rw [i3]
                        first
                          | (exfalso; omega)
                          | (show (cB, (if v1 < 3 then v1 + 1 else 3), tB, sB) = _; first | rw [if_pos (by omega)] | rw [if_neg (by omega)])
                      · exfalso; omega
                      · rw [i4]
                        first
                          | (exfalso; omega)
                          | rw [if_pos (show 12 * by9 < 0 by omega)]
                          | (rw [if_neg (show ¬ 12 * by9 < 0 by omega)]
                             have hb1 : by9 = 1 := by omega
                             subst hb1
                             have hsi := sol_in i3 (by omega)
                             rw [hsi.2]
                             unfold strK
                             first
                               | (rw [if_pos (by have q7 := hG (cB + 12 * 1).toNat; exact ⟨by assumption, by omega⟩)]; done)
                               | (rw [if_neg (by intro q7; have q8 := q7.1; exact absurd q8 (by omega))]; rfl))
                    rw [hFv] at hF9
                    unfold mvM
                    rw [← hF9]
                    exact q9
                  · exfalso; omega
                · skip
                  refine x_iload C dX8_moves_239 7 rfl ?_
                  refine x_goto (tgt := 266) C dX8_moves_241 (by decide) ?_
                  refine x_put C f91 (T := TX8) rfl tyX8_ok nmX8 kX8_moves_1 32 (by decide) kX8_moves_2 rfl (fs' := [vI (((bM m cB v1 tB sB) 0 0) 0), .ref (am 1 0), vI (((bM m cB v1 tB sB) 0 0) 2), .ref (am 3 0), .ref (am 4 0), .ref (am 5 0), .ref (am 6 0), .ref (am 7 0), .ref (am 8 0), .ref (am 9 0), .ref (am 10 0), .ref (am 11 0), .ref (am 12 0), .ref (am 13 0), vI (((bM m cB v1 tB sB) 0 0) 14), .ref (am 15 0), .ref (am 16 0), .ref (am 17 0), .ref (am 18 0), .ref (am 19 0), .ref (am 20 0), .ref (am 21 0), .ref (am 22 0), .ref (am 23 0), .ref (am 24 0), .ref (am 25 0), .ref (am 26 0), .ref (am 27 0), .ref (am 28 0), .ref (am 29 0), vI (((((bM m cB v1 tB sB) 0 0) 30).toNat : Nat) : Int), vI cB, vI (v1 + 1), vI ((tB : Nat) : Int), vI sB, .ref (am 35 0), .ref (am 36 0), .ref (am 37 0)]) rfl rfl (by simp) rfl dX8_moves_266 (x_hn (fun h111 e112 => ?_))
                  have f113 : h111 (am 0 0) = some (eO 8 [vI (((bM m cB v1 tB sB) 0 0) 0), .ref (am 1 0), vI (((bM m cB v1 tB sB) 0 0) 2), .ref (am 3 0), .ref (am 4 0), .ref (am 5 0), .ref (am 6 0), .ref (am 7 0), .ref (am 8 0), .ref (am 9 0), .ref (am 10 0), .ref (am 11 0), .ref (am 12 0), .ref (am 13 0), vI (((bM m cB v1 tB sB) 0 0) 14), .ref (am 15 0), .ref (am 16 0), .ref (am 17 0), .ref (am 18 0), .ref (am 19 0), .ref (am 20 0), .ref (am 21 0), .ref (am 22 0), .ref (am 23 0), .ref (am 24 0), .ref (am 25 0), .ref (am 26 0), .ref (am 27 0), .ref (am 28 0), .ref (am 29 0), vI (((((bM m cB v1 tB sB) 0 0) 30).toNat : Nat) : Int), vI cB, vI (v1 + 1), vI ((tB : Nat) : Int), vI sB, .ref (am 35 0), .ref (am 36 0), .ref (am 37 0)]) := by rw [e112]; exact hu_s
                  refine x_vret C G dX8_moves_269 ?_ (by decide) (by decide)
                  have cp114 : MP D am h (cu (bM m cB v1 tB sB) 0 0 ((fu (fu (fu (fu ((bM m cB v1 tB sB) 0 0) 31 cB) 32 (v1 + 1)) 33 ((tB : Nat) : Int)) 34 sB))) h111 := by rw [e112]; exact (MP.up hcp3 (lm0 (by decide)) ((fu (fu (fu (fu ((bM m cB v1 tB sB) 0 0) 31 cB) 32 (v1 + 1)) 33 ((tB : Nat) : Int)) 34 sB)) rfl)
                  refine ⟨rfl, ?_⟩
                  have q9 := cp114
                  rw [bM_up] at q9
                  have hFv : F9 = (cB, v1 + 1, tB, sB) := by
                    rcases hI with ⟨i1, i2, i3⟩ | ⟨i1, i2, i3⟩ | ⟨i1, i2, i3, i4⟩
                    · obtain rfl : n = 0 := by omega
                      rw [i3]
                      first
                        | (exfalso; omega)
                        | (show (cB, (if v1 < 3 then v1 + 1 else 3), tB, sB) = _; first | rw [if_pos (by omega)] | rw [if_neg (by omega)])
                    · exfalso; omega
                    · rw [i4]
                      first
                        | (exfalso; omega)
                        | rw [if_pos (show 12 * by9 < 0 by omega)]
                        | (rw [if_neg (show ¬ 12 * by9 < 0 by omega)]
                           have hb1 : by9 = 1 := by omega
                           subst hb1
                           have hsi := sol_in i3 (by omega)
                           rw [hsi.2]
                           unfold strK
                           first
                             | (rw [if_pos (by have q7 := hG (cB + 12 * 1).toNat; exact ⟨by assumption, by omega⟩)]; done)
                             | (rw [if_neg (by intro q7; have q8 := q7.1; exact absurd q8 (by omega))]; rfl))
                  rw [hFv] at hF9
                  unfold mvM
                  rw [← hF9]
                  exact q9
            · skip
              refine x_iload C dX8_moves_190 4 rfl ?_
              refine x_if_le (tgt := 210) C dX8_moves_192 (by decide) (by omega) (fun c115 => ?_) (fun c115 => ?_)
              · skip
                refine x_iconst C dX8_moves_210 0 (by decide) ?_
                refine x_istore C (ls' := [(0, .ref (am 0 0)), (1, vI z), (2, vI (cB % 12)), (3, vI w9), (4, vI by9), (5, vI st9), (6, vI 0)]) dX8_moves_211 (by decide) rfl ?_
                refine x_aload_n C dX8_moves_213 0 rfl ?_
                refine x_get C (v := vI v1) f91 (T := TX8) rfl kX8_moves_1 32 (by decide) kX8_moves_2 rfl dX8_moves_214 ?_
                refine x_iconst C dX8_moves_217 3 (by decide) ?_
                refine x_icmp_ge (tgt := 230) C dX8_moves_218 (by decide) (by omega) (by omega) (fun c116 => ?_) (fun c116 => ?_)
                · skip
                  refine x_iconst C dX8_moves_230 3 (by decide) ?_
                  refine x_istore C (ls' := [(0, .ref (am 0 0)), (1, vI z), (2, vI (cB % 12)), (3, vI w9), (4, vI by9), (5, vI st9), (6, vI 0), (7, vI 3)]) dX8_moves_231 (by decide) rfl ?_
                  refine x_aload_n C dX8_moves_233 0 rfl ?_
                  refine x_iload C dX8_moves_234 5 rfl ?_
                  refine x_if_ne (tgt := 244) C dX8_moves_236 (by decide) (by omega) (fun c117 => ?_) (fun c117 => ?_)
                  · skip
                    refine x_iload C dX8_moves_244 6 rfl ?_
                    refine x_bipush C dX8_moves_246 6 (by decide) ?_
                    refine x_icmp_lt (tgt := 265) C dX8_moves_248 (by decide) (by omega) (by omega) (fun c118 => ?_) (fun c118 => ?_)
                    · skip
                      refine x_iconst C dX8_moves_265 0 (by decide) ?_
                      refine x_put C f91 (T := TX8) rfl tyX8_ok nmX8 kX8_moves_1 32 (by decide) kX8_moves_2 rfl (fs' := [vI (((bM m cB v1 tB sB) 0 0) 0), .ref (am 1 0), vI (((bM m cB v1 tB sB) 0 0) 2), .ref (am 3 0), .ref (am 4 0), .ref (am 5 0), .ref (am 6 0), .ref (am 7 0), .ref (am 8 0), .ref (am 9 0), .ref (am 10 0), .ref (am 11 0), .ref (am 12 0), .ref (am 13 0), vI (((bM m cB v1 tB sB) 0 0) 14), .ref (am 15 0), .ref (am 16 0), .ref (am 17 0), .ref (am 18 0), .ref (am 19 0), .ref (am 20 0), .ref (am 21 0), .ref (am 22 0), .ref (am 23 0), .ref (am 24 0), .ref (am 25 0), .ref (am 26 0), .ref (am 27 0), .ref (am 28 0), .ref (am 29 0), vI (((((bM m cB v1 tB sB) 0 0) 30).toNat : Nat) : Int), vI cB, vI 0, vI ((tB : Nat) : Int), vI sB, .ref (am 35 0), .ref (am 36 0), .ref (am 37 0)]) rfl rfl (by simp) rfl dX8_moves_266 (x_hn (fun h119 e120 => ?_))
                      have f121 : h119 (am 0 0) = some (eO 8 [vI (((bM m cB v1 tB sB) 0 0) 0), .ref (am 1 0), vI (((bM m cB v1 tB sB) 0 0) 2), .ref (am 3 0), .ref (am 4 0), .ref (am 5 0), .ref (am 6 0), .ref (am 7 0), .ref (am 8 0), .ref (am 9 0), .ref (am 10 0), .ref (am 11 0), .ref (am 12 0), .ref (am 13 0), vI (((bM m cB v1 tB sB) 0 0) 14), .ref (am 15 0), .ref (am 16 0), .ref (am 17 0), .ref (am 18 0), .ref (am 19 0), .ref (am 20 0), .ref (am 21 0), .ref (am 22 0), .ref (am 23 0), .ref (am 24 0), .ref (am 25 0), .ref (am 26 0), .ref (am 27 0), .ref (am 28 0), .ref (am 29 0), vI (((((bM m cB v1 tB sB) 0 0) 30).toNat : Nat) : Int), vI cB, vI 0, vI ((tB : Nat) : Int), vI sB, .ref (am 35 0), .ref (am 36 0), .ref (am 37 0)]) := by rw [e120]; exact hu_s
                      refine x_vret C G dX8_moves_269 ?_ (by decide) (by decide)
                      have cp122 : MP D am h (cu (bM m cB v1 tB sB) 0 0 ((fu (fu (fu (fu ((bM m cB v1 tB sB) 0 0) 31 cB) 32 0) 33 ((tB : Nat) : Int)) 34 sB))) h119 := by rw [e120]; exact (MP.up hcp3 (lm0 (by decide)) ((fu (fu (fu (fu ((bM m cB v1 tB sB) 0 0) 31 cB) 32 0) 33 ((tB : Nat) : Int)) 34 sB)) rfl)
                      refine ⟨rfl, ?_⟩
                      have q9 := cp122
                      rw [bM_up] at q9
                      have hFv : F9 = (cB, 0, tB, sB) := by
                        rcases hI with ⟨i1, i2, i3⟩ | ⟨i1, i2, i3⟩ | ⟨i1, i2, i3, i4⟩
                        · obtain rfl : n = 0 := by omega
                          rw [i3]
                          first
                            | (exfalso; omega)
                            | (show (cB, (if v1 < 3 then v1 + 1 else 3), tB, sB) = _; first | rw [if_pos (by omega)] | rw [if_neg (by omega)])
                        · exfalso; omega
                        · rw [i4]
                          first
                            | (exfalso; omega)
                            | rw [if_pos (show 12 * by9 < 0 by omega)]
                            | (rw [if_neg (show ¬ 12 * by9 < 0 by omega)]
                               have hb1 : by9 = 1 := by omega
                               subst hb1
                               have hsi := sol_in i3 (by omega)
                               rw [hsi.2]
                               unfold strK
                               first
                                 | (rw [if_pos (by have q7 := hG (cB + 12 * 1).toNat; exact ⟨by assumption, by omega⟩)]; done)
                                 | (rw [if_neg (by intro q7; have q8 := q7.1; exact absurd q8 (by omega))]; rfl))
                      rw [hFv] at hF9
                      unfold mvM
                      rw [← hF9]
                      exact q9
                    · exfalso; omega
                  · skip
                    refine x_iload C dX8_moves_239 7 rfl ?_
                    refine x_goto (tgt := 266) C dX8_moves_241 (by decide) ?_
                    refine x_put C f91 (T := TX8) rfl tyX8_ok nmX8 kX8_moves_1 32 (by decide) kX8_moves_2 rfl (fs' := [vI (((bM m cB v1 tB sB) 0 0) 0), .ref (am 1 0), vI (((bM m cB v1 tB sB) 0 0) 2), .ref (am 3 0), .ref (am 4 0), .ref (am 5 0), .ref (am 6 0), .ref (am 7 0), .ref (am 8 0), .ref (am 9 0), .ref (am 10 0), .ref (am 11 0), .ref (am 12 0), .ref (am 13 0), vI (((bM m cB v1 tB sB) 0 0) 14), .ref (am 15 0), .ref (am 16 0), .ref (am 17 0), .ref (am 18 0), .ref (am 19 0), .ref (am 20 0), .ref (am 21 0), .ref (am 22 0), .ref (am 23 0), .ref (am 24 0), .ref (am 25 0), .ref (am 26 0), .ref (am 27 0), .ref (am 28 0), .ref (am 29 0), vI (((((bM m cB v1 tB sB) 0 0) 30).toNat : Nat) : Int), vI cB, vI 3, vI ((tB : Nat) : Int), vI sB, .ref (am 35 0), .ref (am 36 0), .ref (am 37 0)]) rfl rfl (by simp) rfl dX8_moves_266 (x_hn (fun h123 e124 => ?_))
                    have f125 : h123 (am 0 0) = some (eO 8 [vI (((bM m cB v1 tB sB) 0 0) 0), .ref (am 1 0), vI (((bM m cB v1 tB sB) 0 0) 2), .ref (am 3 0), .ref (am 4 0), .ref (am 5 0), .ref (am 6 0), .ref (am 7 0), .ref (am 8 0), .ref (am 9 0), .ref (am 10 0), .ref (am 11 0), .ref (am 12 0), .ref (am 13 0), vI (((bM m cB v1 tB sB) 0 0) 14), .ref (am 15 0), .ref (am 16 0), .ref (am 17 0), .ref (am 18 0), .ref (am 19 0), .ref (am 20 0), .ref (am 21 0), .ref (am 22 0), .ref (am 23 0), .ref (am 24 0), .ref (am 25 0), .ref (am 26 0), .ref (am 27 0), .ref (am 28 0), .ref (am 29 0), vI (((((bM m cB v1 tB sB) 0 0) 30).toNat : Nat) : Int), vI cB, vI 3, vI ((tB : Nat) : Int), vI sB, .ref (am 35 0), .ref (am 36 0), .ref (am 37 0)]) := by rw [e124]; exact hu_s
                    refine x_vret C G dX8_moves_269 ?_ (by decide) (by decide)
                    have cp126 : MP D am h (cu (bM m cB v1 tB sB) 0 0 ((fu (fu (fu (fu ((bM m cB v1 tB sB) 0 0) 31 cB) 32 3) 33 ((tB : Nat) : Int)) 34 sB))) h123 := by rw [e124]; exact (MP.up hcp3 (lm0 (by decide)) ((fu (fu (fu (fu ((bM m cB v1 tB sB) 0 0) 31 cB) 32 3) 33 ((tB : Nat) : Int)) 34 sB)) rfl)
                    refine ⟨rfl, ?_⟩
                    have q9 := cp126
                    rw [bM_up] at q9
                    have hFv : F9 = (cB, 3, tB, sB) := by
                      rcases hI with ⟨i1, i2, i3⟩ | ⟨i1, i2, i3⟩ | ⟨i1, i2, i3, i4⟩
                      · obtain rfl : n = 0 := by omega
                        rw [i3]
                        first
                          | (exfalso; omega)
                          | (show (cB, (if v1 < 3 then v1 + 1 else 3), tB, sB) = _; first | rw [if_pos (by omega)] | rw [if_neg (by omega)])
                      · exfalso; omega
                      · rw [i4]
                        first
                          | (exfalso; omega)
                          | rw [if_pos (show 12 * by9 < 0 by omega)]
                          | (rw [if_neg (show ¬ 12 * by9 < 0 by omega)]
                             have hb1 : by9 = 1 := by omega
                             subst hb1
                             have hsi := sol_in i3 (by omega)
                             rw [hsi.2]
                             unfold strK
                             first
                               | (rw [if_pos (by have q7 := hG (cB + 12 * 1).toNat; exact ⟨by assumption, by omega⟩)]; done)
                               | (rw [if_neg (by intro q7; have q8 := q7.1; exact absurd q8 (by omega))]; rfl))
                    rw [hFv] at hF9
                    unfold mvM
                    rw [← hF9]
                    exact q9
                · skip
                  refine x_aload_n C dX8_moves_221 0 rfl ?_
                  refine x_get C (v := vI v1) f91 (T := TX8) rfl kX8_moves_1 32 (by decide) kX8_moves_2 rfl dX8_moves_222 ?_
                  refine x_iconst C dX8_moves_225 1 (by decide) ?_
                  refine x_iadd C dX8_moves_226 ?_
                  refine x_goto (tgt := 231) C dX8_moves_227 (by decide) ?_
                  refine x_istore C (ls' := [(0, .ref (am 0 0)), (1, vI z), (2, vI (cB % 12)), (3, vI w9), (4, vI by9), (5, vI st9), (6, vI 0), (7, vI (v1 + 1))]) dX8_moves_231 (by decide) rfl ?_
                  refine x_aload_n C dX8_moves_233 0 rfl ?_
                  refine x_iload C dX8_moves_234 5 rfl ?_
                  refine x_if_ne (tgt := 244) C dX8_moves_236 (by decide) (by omega) (fun c127 => ?_) (fun c127 => ?_)
                  · skip
                    refine x_iload C dX8_moves_244 6 rfl ?_
                    refine x_bipush C dX8_moves_246 6 (by decide) ?_
                    refine x_icmp_lt (tgt := 265) C dX8_moves_248 (by decide) (by omega) (by omega) (fun c128 => ?_) (fun c128 => ?_)
                    · skip
                      refine x_iconst C dX8_moves_265 0 (by decide) ?_
                      refine x_put C f91 (T := TX8) rfl tyX8_ok nmX8 kX8_moves_1 32 (by decide) kX8_moves_2 rfl (fs' := [vI (((bM m cB v1 tB sB) 0 0) 0), .ref (am 1 0), vI (((bM m cB v1 tB sB) 0 0) 2), .ref (am 3 0), .ref (am 4 0), .ref (am 5 0), .ref (am 6 0), .ref (am 7 0), .ref (am 8 0), .ref (am 9 0), .ref (am 10 0), .ref (am 11 0), .ref (am 12 0), .ref (am 13 0), vI (((bM m cB v1 tB sB) 0 0) 14), .ref (am 15 0), .ref (am 16 0), .ref (am 17 0), .ref (am 18 0), .ref (am 19 0), .ref (am 20 0), .ref (am 21 0), .ref (am 22 0), .ref (am 23 0), .ref (am 24 0), .ref (am 25 0), .ref (am 26 0), .ref (am 27 0), .ref (am 28 0), .ref (am 29 0), vI (((((bM m cB v1 tB sB) 0 0) 30).toNat : Nat) : Int), vI cB, vI 0, vI ((tB : Nat) : Int), vI sB, .ref (am 35 0), .ref (am 36 0), .ref (am 37 0)]) rfl rfl (by simp) rfl dX8_moves_266 (x_hn (fun h129 e130 => ?_))
                      have f131 : h129 (am 0 0) = some (eO 8 [vI (((bM m cB v1 tB sB) 0 0) 0), .ref (am 1 0), vI (((bM m cB v1 tB sB) 0 0) 2), .ref (am 3 0), .ref (am 4 0), .ref (am 5 0), .ref (am 6 0), .ref (am 7 0), .ref (am 8 0), .ref (am 9 0), .ref (am 10 0), .ref (am 11 0), .ref (am 12 0), .ref (am 13 0), vI (((bM m cB v1 tB sB) 0 0) 14), .ref (am 15 0), .ref (am 16 0), .ref (am 17 0), .ref (am 18 0), .ref (am 19 0), .ref (am 20 0), .ref (am 21 0), .ref (am 22 0), .ref (am 23 0), .ref (am 24 0), .ref (am 25 0), .ref (am 26 0), .ref (am 27 0), .ref (am 28 0), .ref (am 29 0), vI (((((bM m cB v1 tB sB) 0 0) 30).toNat : Nat) : Int), vI cB, vI 0, vI ((tB : Nat) : Int), vI sB, .ref (am 35 0), .ref (am 36 0), .ref (am 37 0)]) := by rw [e130]; exact hu_s
                      refine x_vret C G dX8_moves_269 ?_ (by decide) (by decide)
                      have cp132 : MP D am h (cu (bM m cB v1 tB sB) 0 0 ((fu (fu (fu (fu ((bM m cB v1 tB sB) 0 0) 31 cB) 32 0) 33 ((tB : Nat) : Int)) 34 sB))) h129 := by rw [e130]; exact (MP.up hcp3 (lm0 (by decide)) ((fu (fu (fu (fu ((bM m cB v1 tB sB) 0 0) 31 cB) 32 0) 33 ((tB : Nat) : Int)) 34 sB)) rfl)
                      refine ⟨rfl, ?_⟩
                      have q9 := cp132
                      rw [bM_up] at q9
                      have hFv : F9 = (cB, 0, tB, sB) := by
                        rcases hI with ⟨i1, i2, i3⟩ | ⟨i1, i2, i3⟩ | ⟨i1, i2, i3, i4⟩
                        · obtain rfl : n = 0 := by omega
                          rw [i3]
                          first
                            | (exfalso; omega)
                            | (show (cB, (if v1 < 3 then v1 + 1 else 3), tB, sB) = _; first | rw [if_pos (by omega)] | rw [if_neg (by omega)])
                        · exfalso; omega
                        · rw [i4]
                          first
                            | (exfalso; omega)
                            | rw [if_pos (show 12 * by9 < 0 by omega)]
                            | (rw [if_neg (show ¬ 12 * by9 < 0 by omega)]
                               have hb1 : by9 = 1 := by omega
                               subst hb1
                               have hsi := sol_in i3 (by omega)
                               rw [hsi.2]
                               unfold strK
                               first
                                 | (rw [if_pos (by have q7 := hG (cB + 12 * 1).toNat; exact ⟨by assumption, by omega⟩)]; done)
                                 | (rw [if_neg (by intro q7; have q8 := q7.1; exact absurd q8 (by omega))]; rfl))
                      rw [hFv] at hF9
                      unfold mvM
                      rw [← hF9]
                      exact q9
                    · exfalso; omega
                  · skip
                    refine x_iload C dX8_moves_239 7 rfl ?_
                    refine x_goto (tgt := 266) C dX8_moves_241 (by decide) ?_
                    refine x_put C f91 (T := TX8) rfl tyX8_ok nmX8 kX8_moves_1 32 (by decide) kX8_moves_2 rfl (fs' := [vI (((bM m cB v1 tB sB) 0 0) 0), .ref (am 1 0), vI (((bM m cB v1 tB sB) 0 0) 2), .ref (am 3 0), .ref (am 4 0), .ref (am 5 0), .ref (am 6 0), .ref (am 7 0), .ref (am 8 0), .ref (am 9 0), .ref (am 10 0), .ref (am 11 0), .ref (am 12 0), .ref (am 13 0), vI (((bM m cB v1 tB sB) 0 0) 14), .ref (am 15 0), .ref (am 16 0), .ref (am 17 0), .ref (am 18 0), .ref (am 19 0), .ref (am 20 0), .ref (am 21 0), .ref (am 22 0), .ref (am 23 0), .ref (am 24 0), .ref (am 25 0), .ref (am 26 0), .ref (am 27 0), .ref (am 28 0), .ref (am 29 0), vI (((((bM m cB v1 tB sB) 0 0) 30).toNat : Nat) : Int), vI cB, vI (v1 + 1), vI ((tB : Nat) : Int), vI sB, .ref (am 35 0), .ref (am 36 0), .ref (am 37 0)]) rfl rfl (by simp) rfl dX8_moves_266 (x_hn (fun h133 e134 => ?_))
                    have f135 : h133 (am 0 0) = some (eO 8 [vI (((bM m cB v1 tB sB) 0 0) 0), .ref (am 1 0), vI (((bM m cB v1 tB sB) 0 0) 2), .ref (am 3 0), .ref (am 4 0), .ref (am 5 0), .ref (am 6 0), .ref (am 7 0), .ref (am 8 0), .ref (am 9 0), .ref (am 10 0), .ref (am 11 0), .ref (am 12 0), .ref (am 13 0), vI (((bM m cB v1 tB sB) 0 0) 14), .ref (am 15 0), .ref (am 16 0), .ref (am 17 0), .ref (am 18 0), .ref (am 19 0), .ref (am 20 0), .ref (am 21 0), .ref (am 22 0), .ref (am 23 0), .ref (am 24 0), .ref (am 25 0), .ref (am 26 0), .ref (am 27 0), .ref (am 28 0), .ref (am 29 0), vI (((((bM m cB v1 tB sB) 0 0) 30).toNat : Nat) : Int), vI cB, vI (v1 + 1), vI ((tB : Nat) : Int), vI sB, .ref (am 35 0), .ref (am 36 0), .ref (am 37 0)]) := by rw [e134]; exact hu_s
                    refine x_vret C G dX8_moves_269 ?_ (by decide) (by decide)
                    have cp136 : MP D am h (cu (bM m cB v1 tB sB) 0 0 ((fu (fu (fu (fu ((bM m cB v1 tB sB) 0 0) 31 cB) 32 (v1 + 1)) 33 ((tB : Nat) : Int)) 34 sB))) h133 := by rw [e134]; exact (MP.up hcp3 (lm0 (by decide)) ((fu (fu (fu (fu ((bM m cB v1 tB sB) 0 0) 31 cB) 32 (v1 + 1)) 33 ((tB : Nat) : Int)) 34 sB)) rfl)
                    refine ⟨rfl, ?_⟩
                    have q9 := cp136
                    rw [bM_up] at q9
                    have hFv : F9 = (cB, v1 + 1, tB, sB) := by
                      rcases hI with ⟨i1, i2, i3⟩ | ⟨i1, i2, i3⟩ | ⟨i1, i2, i3, i4⟩
                      · obtain rfl : n = 0 := by omega
                        rw [i3]
                        first
                          | (exfalso; omega)
                          | (show (cB, (if v1 < 3 then v1 + 1 else 3), tB, sB) = _; first | rw [if_pos (by omega)] | rw [if_neg (by omega)])
                      · exfalso; omega
                      · rw [i4]
                        first
                          | (exfalso; omega)
                          | rw [if_pos (show 12 * by9 < 0 by omega)]
                          | (rw [if_neg (show ¬ 12 * by9 < 0 by omega)]
                             have hb1 : by9 = 1 := by omega
                             subst hb1
                             have hsi := sol_in i3 (by omega)
                             rw [hsi.2]
                             unfold strK
                             first
                               | (rw [if_pos (by have q7 := hG (cB + 12 * 1).toNat; exact ⟨by assumption, by omega⟩)]; done)
                               | (rw [if_neg (by intro q7; have q8 := q7.1; exact absurd q8 (by omega))]; rfl))
                    rw [hFv] at hF9
                    unfold mvM
                    rw [← hF9]
                    exact q9
              · skip
                have hsin : 0 ≤ cB + 12 ∧ cB + 12 < 96 := by
                    rcases hI with ⟨i1, i2, i3⟩ | ⟨i1, i2, i3⟩ | ⟨i1, i2, i3, i4⟩
                    · exfalso; omega
                    · exfalso; omega
                    · have hb1 : by9 = 1 := by omega
                      have q9 := (sol_in i3 (by omega)).1
                      omega
                refine x_aload_n C dX8_moves_195 0 rfl ?_
                refine x_get C (v := .ref (am 28 0)) f91 (T := TX8) rfl kX8_moves_1 28 (by decide) kX8_moves_3 rfl dX8_moves_196 ?_
                have f137 : h1 (am 28 0) = some (eI D 96 (((bM m cB v1 tB sB) 28 0))) := hcp3.1.1 28 0 (lm0 (by decide))
                have f138 : h1 (am 28 0) = some (eI D 96 (m 28 0)) := by have q9 := f137; exact q9
                refine x_aload_n C dX8_moves_199 0 rfl ?_
                refine x_get C (v := vI cB) f91 (T := TX8) rfl kX8_moves_1 31 (by decide) kX8_moves_4 rfl dX8_moves_200 ?_
                refine x_bipush C dX8_moves_203 12 (by decide) ?_
                refine x_iadd C dX8_moves_205 ?_
                refine x_iald C f138 ⟨by omega, by omega⟩ (by decide) dX8_moves_206 ?_
                have r139 := hG (Int.toNat (cB + 12))
                refine x_goto (tgt := 211) C dX8_moves_207 (by decide) ?_
                refine x_istore C (ls' := [(0, .ref (am 0 0)), (1, vI z), (2, vI (cB % 12)), (3, vI w9), (4, vI by9), (5, vI st9), (6, vI ((m 28 0) (Int.toNat (cB + 12))))]) dX8_moves_211 (by decide) rfl ?_
                refine x_aload_n C dX8_moves_213 0 rfl ?_
                refine x_get C (v := vI v1) f91 (T := TX8) rfl kX8_moves_1 32 (by decide) kX8_moves_2 rfl dX8_moves_214 ?_
                refine x_iconst C dX8_moves_217 3 (by decide) ?_
                refine x_icmp_ge (tgt := 230) C dX8_moves_218 (by decide) (by omega) (by omega) (fun c140 => ?_) (fun c140 => ?_)
                · skip
                  refine x_iconst C dX8_moves_230 3 (by decide) ?_
                  refine x_istore C (ls' := [(0, .ref (am 0 0)), (1, vI z), (2, vI (cB % 12)), (3, vI w9), (4, vI by9), (5, vI st9), (6, vI ((m 28 0) (Int.toNat (cB + 12)))), (7, vI 3)]) dX8_moves_231 (by decide) rfl ?_
                  refine x_aload_n C dX8_moves_233 0 rfl ?_
                  refine x_iload C dX8_moves_234 5 rfl ?_
                  refine x_if_ne (tgt := 244) C dX8_moves_236 (by decide) (by omega) (fun c141 => ?_) (fun c141 => ?_)
                  · skip
                    refine x_iload C dX8_moves_244 6 rfl ?_
                    refine x_bipush C dX8_moves_246 6 (by decide) ?_
                    refine x_icmp_lt (tgt := 265) C dX8_moves_248 (by decide) (by omega) (by omega) (fun c142 => ?_) (fun c142 => ?_)
                    · skip
                      refine x_iconst C dX8_moves_265 0 (by decide) ?_
                      refine x_put C f91 (T := TX8) rfl tyX8_ok nmX8 kX8_moves_1 32 (by decide) kX8_moves_2 rfl (fs' := [vI (((bM m cB v1 tB sB) 0 0) 0), .ref (am 1 0), vI (((bM m cB v1 tB sB) 0 0) 2), .ref (am 3 0), .ref (am 4 0), .ref (am 5 0), .ref (am 6 0), .ref (am 7 0), .ref (am 8 0), .ref (am 9 0), .ref (am 10 0), .ref (am 11 0), .ref (am 12 0), .ref (am 13 0), vI (((bM m cB v1 tB sB) 0 0) 14), .ref (am 15 0), .ref (am 16 0), .ref (am 17 0), .ref (am 18 0), .ref (am 19 0), .ref (am 20 0), .ref (am 21 0), .ref (am 22 0), .ref (am 23 0), .ref (am 24 0), .ref (am 25 0), .ref (am 26 0), .ref (am 27 0), .ref (am 28 0), .ref (am 29 0), vI (((((bM m cB v1 tB sB) 0 0) 30).toNat : Nat) : Int), vI cB, vI 0, vI ((tB : Nat) : Int), vI sB, .ref (am 35 0), .ref (am 36 0), .ref (am 37 0)]) rfl rfl (by simp) rfl dX8_moves_266 (x_hn (fun h143 e144 => ?_))
                      have f145 : h143 (am 0 0) = some (eO 8 [vI (((bM m cB v1 tB sB) 0 0) 0), .ref (am 1 0), vI (((bM m cB v1 tB sB) 0 0) 2), .ref (am 3 0), .ref (am 4 0), .ref (am 5 0), .ref (am 6 0), .ref (am 7 0), .ref (am 8 0), .ref (am 9 0), .ref (am 10 0), .ref (am 11 0), .ref (am 12 0), .ref (am 13 0), vI (((bM m cB v1 tB sB) 0 0) 14), .ref (am 15 0), .ref (am 16 0), .ref (am 17 0), .ref (am 18 0), .ref (am 19 0), .ref (am 20 0), .ref (am 21 0), .ref (am 22 0), .ref (am 23 0), .ref (am 24 0), .ref (am 25 0), .ref (am 26 0), .ref (am 27 0), .ref (am 28 0), .ref (am 29 0), vI (((((bM m cB v1 tB sB) 0 0) 30).toNat : Nat) : Int), vI cB, vI 0, vI ((tB : Nat) : Int), vI sB, .ref (am 35 0), .ref (am 36 0), .ref (am 37 0)]) := by rw [e144]; exact hu_s
                      refine x_vret C G dX8_moves_269 ?_ (by decide) (by decide)
                      have cp146 : MP D am h (cu (bM m cB v1 tB sB) 0 0 ((fu (fu (fu (fu ((bM m cB v1 tB sB) 0 0) 31 cB) 32 0) 33 ((tB : Nat) : Int)) 34 sB))) h143 := by rw [e144]; exact (MP.up hcp3 (lm0 (by decide)) ((fu (fu (fu (fu ((bM m cB v1 tB sB) 0 0) 31 cB) 32 0) 33 ((tB : Nat) : Int)) 34 sB)) rfl)
                      refine ⟨rfl, ?_⟩
                      have q9 := cp146
                      rw [bM_up] at q9
                      have hFv : F9 = (cB, 0, tB, sB) := by
                        rcases hI with ⟨i1, i2, i3⟩ | ⟨i1, i2, i3⟩ | ⟨i1, i2, i3, i4⟩
                        · obtain rfl : n = 0 := by omega
                          rw [i3]
                          first
                            | (exfalso; omega)
                            | (show (cB, (if v1 < 3 then v1 + 1 else 3), tB, sB) = _; first | rw [if_pos (by omega)] | rw [if_neg (by omega)])
                        · exfalso; omega
                        · rw [i4]
                          first
                            | (exfalso; omega)
                            | rw [if_pos (show 12 * by9 < 0 by omega)]
                            | (rw [if_neg (show ¬ 12 * by9 < 0 by omega)]
                               have hb1 : by9 = 1 := by omega
                               subst hb1
                               have hsi := sol_in i3 (by omega)
                               rw [hsi.2]
                               unfold strK
                               first
                                 | (rw [if_pos (by have q7 := hG (cB + 12 * 1).toNat; exact ⟨by assumption, by omega⟩)]; done)
                                 | (rw [if_neg (by intro q7; have q8 := q7.1; exact absurd q8 (by omega))]; rfl))
                      rw [hFv] at hF9
                      unfold mvM
                      rw [← hF9]
                      exact q9
                    · skip
                      have f147 : h1 (am 1 0) = some (eI D 3 (((bM m cB v1 tB sB) 1 0))) := hcp3.1.1 1 0 (lm0 (by decide))
                      have f148 : h1 (am 1 0) = some (eI D 3 (m 1 0)) := by have q9 := f147; exact q9
                      refine x_aload_n C dX8_moves_251 0 rfl ?_
                      refine x_get C (v := .ref (am 1 0)) f91 (T := TX8) rfl kX8_moves_1 1 (by decide) kX8_moves_5 rfl dX8_moves_252 ?_
                      refine x_iload C dX8_moves_255 6 rfl ?_
                      refine x_bipush C dX8_moves_257 6 (by decide) ?_
                      refine x_isub C dX8_moves_259 ?_
                      refine x_iald C f148 ⟨by omega, by omega⟩ (by decide) dX8_moves_260 ?_
                      have r149 := hSS (Int.toNat (((m 28 0) (Int.toNat (cB + 12))) - 6))
                      refine x_ineg C dX8_moves_261 ?_
                      refine x_goto (tgt := 266) C dX8_moves_262 (by decide) ?_
                      refine x_put C f91 (T := TX8) rfl tyX8_ok nmX8 kX8_moves_1 32 (by decide) kX8_moves_2 rfl (fs' := [vI (((bM m cB v1 tB sB) 0 0) 0), .ref (am 1 0), vI (((bM m cB v1 tB sB) 0 0) 2), .ref (am 3 0), .ref (am 4 0), .ref (am 5 0), .ref (am 6 0), .ref (am 7 0), .ref (am 8 0), .ref (am 9 0), .ref (am 10 0), .ref (am 11 0), .ref (am 12 0), .ref (am 13 0), vI (((bM m cB v1 tB sB) 0 0) 14), .ref (am 15 0), .ref (am 16 0), .ref (am 17 0), .ref (am 18 0), .ref (am 19 0), .ref (am 20 0), .ref (am 21 0), .ref (am 22 0), .ref (am 23 0), .ref (am 24 0), .ref (am 25 0), .ref (am 26 0), .ref (am 27 0), .ref (am 28 0), .ref (am 29 0), vI (((((bM m cB v1 tB sB) 0 0) 30).toNat : Nat) : Int), vI cB, vI (-((m 1 0) (Int.toNat (((m 28 0) (Int.toNat (cB + 12))) - 6)))), vI ((tB : Nat) : Int), vI sB, .ref (am 35 0), .ref (am 36 0), .ref (am 37 0)]) rfl rfl (by simp) rfl dX8_moves_266 (x_hn (fun h150 e151 => ?_))
                      have f152 : h150 (am 0 0) = some (eO 8 [vI (((bM m cB v1 tB sB) 0 0) 0), .ref (am 1 0), vI (((bM m cB v1 tB sB) 0 0) 2), .ref (am 3 0), .ref (am 4 0), .ref (am 5 0), .ref (am 6 0), .ref (am 7 0), .ref (am 8 0), .ref (am 9 0), .ref (am 10 0), .ref (am 11 0), .ref (am 12 0), .ref (am 13 0), vI (((bM m cB v1 tB sB) 0 0) 14), .ref (am 15 0), .ref (am 16 0), .ref (am 17 0), .ref (am 18 0), .ref (am 19 0), .ref (am 20 0), .ref (am 21 0), .ref (am 22 0), .ref (am 23 0), .ref (am 24 0), .ref (am 25 0), .ref (am 26 0), .ref (am 27 0), .ref (am 28 0), .ref (am 29 0), vI (((((bM m cB v1 tB sB) 0 0) 30).toNat : Nat) : Int), vI cB, vI (-((m 1 0) (Int.toNat (((m 28 0) (Int.toNat (cB + 12))) - 6)))), vI ((tB : Nat) : Int), vI sB, .ref (am 35 0), .ref (am 36 0), .ref (am 37 0)]) := by rw [e151]; exact hu_s
                      refine x_vret C G dX8_moves_269 ?_ (by decide) (by decide)
                      have cp153 : MP D am h (cu (bM m cB v1 tB sB) 0 0 ((fu (fu (fu (fu ((bM m cB v1 tB sB) 0 0) 31 cB) 32 (-((m 1 0) (Int.toNat (((m 28 0) (Int.toNat (cB + 12))) - 6))))) 33 ((tB : Nat) : Int)) 34 sB))) h150 := by rw [e151]; exact (MP.up hcp3 (lm0 (by decide)) ((fu (fu (fu (fu ((bM m cB v1 tB sB) 0 0) 31 cB) 32 (-((m 1 0) (Int.toNat (((m 28 0) (Int.toNat (cB + 12))) - 6))))) 33 ((tB : Nat) : Int)) 34 sB)) rfl)
                      refine ⟨rfl, ?_⟩
                      have q9 := cp153
                      rw [bM_up] at q9
                      have hFv : F9 = (cB, -((m 1 0) (Int.toNat (((m 28 0) (Int.toNat (cB + 12))) - 6))), tB, sB) := by
                        rcases hI with ⟨i1, i2, i3⟩ | ⟨i1, i2, i3⟩ | ⟨i1, i2, i3, i4⟩
                        · obtain rfl : n = 0 := by omega
                          rw [i3]
                          first
                            | (exfalso; omega)
                            | (show (cB, (if v1 < 3 then v1 + 1 else 3), tB, sB) = _; first | rw [if_pos (by omega)] | rw [if_neg (by omega)])
                        · exfalso; omega
                        · rw [i4]
                          first
                            | (exfalso; omega)
                            | rw [if_pos (show 12 * by9 < 0 by omega)]
                            | (rw [if_neg (show ¬ 12 * by9 < 0 by omega)]
                               have hb1 : by9 = 1 := by omega
                               subst hb1
                               have hsi := sol_in i3 (by omega)
                               rw [hsi.2]
                               unfold strK
                               first
                                 | (rw [if_pos (by have q7 := hG (cB + 12 * 1).toNat; exact ⟨by assumption, by omega⟩)]; done)
                                 | (rw [if_neg (by intro q7; have q8 := q7.1; exact absurd q8 (by omega))]; rfl))
                      rw [hFv] at hF9
                      unfold mvM
                      rw [← hF9]
                      exact q9
                  · skip
                    refine x_iload C dX8_moves_239 7 rfl ?_
                    refine x_goto (tgt := 266) C dX8_moves_241 (by decide) ?_
                    refine x_put C f91 (T := TX8) rfl tyX8_ok nmX8 kX8_moves_1 32 (by decide) kX8_moves_2 rfl (fs' := [vI (((bM m cB v1 tB sB) 0 0) 0), .ref (am 1 0), vI (((bM m cB v1 tB sB) 0 0) 2), .ref (am 3 0), .ref (am 4 0), .ref (am 5 0), .ref (am 6 0), .ref (am 7 0), .ref (am 8 0), .ref (am 9 0), .ref (am 10 0), .ref (am 11 0), .ref (am 12 0), .ref (am 13 0), vI (((bM m cB v1 tB sB) 0 0) 14), .ref (am 15 0), .ref (am 16 0), .ref (am 17 0), .ref (am 18 0), .ref (am 19 0), .ref (am 20 0), .ref (am 21 0), .ref (am 22 0), .ref (am 23 0), .ref (am 24 0), .ref (am 25 0), .ref (am 26 0), .ref (am 27 0), .ref (am 28 0), .ref (am 29 0), vI (((((bM m cB v1 tB sB) 0 0) 30).toNat : Nat) : Int), vI cB, vI 3, vI ((tB : Nat) : Int), vI sB, .ref (am 35 0), .ref (am 36 0), .ref (am 37 0)]) rfl rfl (by simp) rfl dX8_moves_266 (x_hn (fun h154 e155 => ?_))
                    have f156 : h154 (am 0 0) = some (eO 8 [vI (((bM m cB v1 tB sB) 0 0) 0), .ref (am 1 0), vI (((bM m cB v1 tB sB) 0 0) 2), .ref (am 3 0), .ref (am 4 0), .ref (am 5 0), .ref (am 6 0), .ref (am 7 0), .ref (am 8 0), .ref (am 9 0), .ref (am 10 0), .ref (am 11 0), .ref (am 12 0), .ref (am 13 0), vI (((bM m cB v1 tB sB) 0 0) 14), .ref (am 15 0), .ref (am 16 0), .ref (am 17 0), .ref (am 18 0), .ref (am 19 0), .ref (am 20 0), .ref (am 21 0), .ref (am 22 0), .ref (am 23 0), .ref (am 24 0), .ref (am 25 0), .ref (am 26 0), .ref (am 27 0), .ref (am 28 0), .ref (am 29 0), vI (((((bM m cB v1 tB sB) 0 0) 30).toNat : Nat) : Int), vI cB, vI 3, vI ((tB : Nat) : Int), vI sB, .ref (am 35 0), .ref (am 36 0), .ref (am 37 0)]) := by rw [e155]; exact hu_s
                    refine x_vret C G dX8_moves_269 ?_ (by decide) (by decide)
                    have cp157 : MP D am h (cu (bM m cB v1 tB sB) 0 0 ((fu (fu (fu (fu ((bM m cB v1 tB sB) 0 0) 31 cB) 32 3) 33 ((tB : Nat) : Int)) 34 sB))) h154 := by rw [e155]; exact (MP.up hcp3 (lm0 (by decide)) ((fu (fu (fu (fu ((bM m cB v1 tB sB) 0 0) 31 cB) 32 3) 33 ((tB : Nat) : Int)) 34 sB)) rfl)
                    refine ⟨rfl, ?_⟩
                    have q9 := cp157
                    rw [bM_up] at q9
                    have hFv : F9 = (cB, 3, tB, sB) := by
                      rcases hI with ⟨i1, i2, i3⟩ | ⟨i1, i2, i3⟩ | ⟨i1, i2, i3, i4⟩
                      · obtain rfl : n = 0 := by omega
                        rw [i3]
                        first
                          | (exfalso; omega)
                          | (show (cB, (if v1 < 3 then v1 + 1 else 3), tB, sB) = _; first | rw [if_pos (by omega)] | rw [if_neg (by omega)])
                      · exfalso; omega
                      · rw [i4]
                        first
                          | (exfalso; omega)
                          | rw [if_pos (show 12 * by9 < 0 by omega)]
                          | (rw [if_neg (show ¬ 12 * by9 < 0 by omega)]
                             have hb1 : by9 = 1 := by omega
                             subst hb1
                             have hsi := sol_in i3 (by omega)
                             rw [hsi.2]
                             unfold strK
                             first
                               | (rw [if_pos (by have q7 := hG (cB + 12 * 1).toNat; exact ⟨by assumption, by omega⟩)]; done)
                               | (rw [if_neg (by intro q7; have q8 := q7.1; exact absurd q8 (by omega))]; rfl))
                    rw [hFv] at hF9
                    unfold mvM
                    rw [← hF9]
                    exact q9
                · skip
                  refine x_aload_n C dX8_moves_221 0 rfl ?_
                  refine x_get C (v := vI v1) f91 (T := TX8) rfl kX8_moves_1 32 (by decide) kX8_moves_2 rfl dX8_moves_222 ?_
                  refine x_iconst C dX8_moves_225 1 (by decide) ?_
                  refine x_iadd C dX8_moves_226 ?_
                  refine x_goto (tgt := 231) C dX8_moves_227 (by decide) ?_
                  refine x_istore C (ls' := [(0, .ref (am 0 0)), (1, vI z), (2, vI (cB % 12)), (3, vI w9), (4, vI by9), (5, vI st9), (6, vI ((m 28 0) (Int.toNat (cB + 12)))), (7, vI (v1 + 1))]) dX8_moves_231 (by decide) rfl ?_
                  refine x_aload_n C dX8_moves_233 0 rfl ?_
                  refine x_iload C dX8_moves_234 5 rfl ?_
                  refine x_if_ne (tgt := 244) C dX8_moves_236 (by decide) (by omega) (fun c158 => ?_) (fun c158 => ?_)
                  · skip
                    refine x_iload C dX8_moves_244 6 rfl ?_
                    refine x_bipush C dX8_moves_246 6 (by decide) ?_
                    refine x_icmp_lt (tgt := 265) C dX8_moves_248 (by decide) (by omega) (by omega) (fun c159 => ?_) (fun c159 => ?_)
                    · skip
                      refine x_iconst C dX8_moves_265 0 (by decide) ?_
                      refine x_put C f91 (T := TX8) rfl tyX8_ok nmX8 kX8_moves_1 32 (by decide) kX8_moves_2 rfl (fs' := [vI (((bM m cB v1 tB sB) 0 0) 0), .ref (am 1 0), vI (((bM m cB v1 tB sB) 0 0) 2), .ref (am 3 0), .ref (am 4 0), .ref (am 5 0), .ref (am 6 0), .ref (am 7 0), .ref (am 8 0), .ref (am 9 0), .ref (am 10 0), .ref (am 11 0), .ref (am 12 0), .ref (am 13 0), vI (((bM m cB v1 tB sB) 0 0) 14), .ref (am 15 0), .ref (am 16 0), .ref (am 17 0), .ref (am 18 0), .ref (am 19 0), .ref (am 20 0), .ref (am 21 0), .ref (am 22 0), .ref (am 23 0), .ref (am 24 0), .ref (am 25 0), .ref (am 26 0), .ref (am 27 0), .ref (am 28 0), .ref (am 29 0), vI (((((bM m cB v1 tB sB) 0 0) 30).toNat : Nat) : Int), vI cB, vI 0, vI ((tB : Nat) : Int), vI sB, .ref (am 35 0), .ref (am 36 0), .ref (am 37 0)]) rfl rfl (by simp) rfl dX8_moves_266 (x_hn (fun h160 e161 => ?_))
                      have f162 : h160 (am 0 0) = some (eO 8 [vI (((bM m cB v1 tB sB) 0 0) 0), .ref (am 1 0), vI (((bM m cB v1 tB sB) 0 0) 2), .ref (am 3 0), .ref (am 4 0), .ref (am 5 0), .ref (am 6 0), .ref (am 7 0), .ref (am 8 0), .ref (am 9 0), .ref (am 10 0), .ref (am 11 0), .ref (am 12 0), .ref (am 13 0), vI (((bM m cB v1 tB sB) 0 0) 14), .ref (am 15 0), .ref (am 16 0), .ref (am 17 0), .ref (am 18 0), .ref (am 19 0), .ref (am 20 0), .ref (am 21 0), .ref (am 22 0), .ref (am 23 0), .ref (am 24 0), .ref (am 25 0), .ref (am 26 0), .ref (am 27 0), .ref (am 28 0), .ref (am 29 0), vI (((((bM m cB v1 tB sB) 0 0) 30).toNat : Nat) : Int), vI cB, vI 0, vI ((tB : Nat) : Int), vI sB, .ref (am 35 0), .ref (am 36 0), .ref (am 37 0)]) := by rw [e161]; exact hu_s
                      refine x_vret C G dX8_moves_269 ?_ (by decide) (by decide)
                      have cp163 : MP D am h (cu (bM m cB v1 tB sB) 0 0 ((fu (fu (fu (fu ((bM m cB v1 tB sB) 0 0) 31 cB) 32 0) 33 ((tB : Nat) : Int)) 34 sB))) h160 := by rw [e161]; exact (MP.up hcp3 (lm0 (by decide)) ((fu (fu (fu (fu ((bM m cB v1 tB sB) 0 0) 31 cB) 32 0) 33 ((tB : Nat) : Int)) 34 sB)) rfl)
                      refine ⟨rfl, ?_⟩
                      have q9 := cp163
                      rw [bM_up] at q9
                      have hFv : F9 = (cB, 0, tB, sB) := by
                        rcases hI with ⟨i1, i2, i3⟩ | ⟨i1, i2, i3⟩ | ⟨i1, i2, i3, i4⟩
                        · obtain rfl : n = 0 := by omega
                          rw [i3]
                          first
                            | (exfalso; omega)
                            | (show (cB, (if v1 < 3 then v1 + 1 else 3), tB, sB) = _; first | rw [if_pos (by omega)] | rw [if_neg (by omega)])
                        · exfalso; omega
                        · rw [i4]
                          first
                            | (exfalso; omega)
                            | rw [if_pos (show 12 * by9 < 0 by omega)]
                            | (rw [if_neg (show ¬ 12 * by9 < 0 by omega)]
                               have hb1 : by9 = 1 := by omega
                               subst hb1
                               have hsi := sol_in i3 (by omega)
                               rw [hsi.2]
                               unfold strK
                               first
                                 | (rw [if_pos (by have q7 := hG (cB + 12 * 1).toNat; exact ⟨by assumption, by omega⟩)]; done)
                                 | (rw [if_neg (by intro q7; have q8 := q7.1; exact absurd q8 (by omega))]; rfl))
                      rw [hFv] at hF9
                      unfold mvM
                      rw [← hF9]
                      exact q9
                    · skip
                      have f164 : h1 (am 1 0) = some (eI D 3 (((bM m cB v1 tB sB) 1 0))) := hcp3.1.1 1 0 (lm0 (by decide))
                      have f165 : h1 (am 1 0) = some (eI D 3 (m 1 0)) := by have q9 := f164; exact q9
                      refine x_aload_n C dX8_moves_251 0 rfl ?_
                      refine x_get C (v := .ref (am 1 0)) f91 (T := TX8) rfl kX8_moves_1 1 (by decide) kX8_moves_5 rfl dX8_moves_252 ?_
                      refine x_iload C dX8_moves_255 6 rfl ?_
                      refine x_bipush C dX8_moves_257 6 (by decide) ?_
                      refine x_isub C dX8_moves_259 ?_
                      refine x_iald C f165 ⟨by omega, by omega⟩ (by decide) dX8_moves_260 ?_
                      have r166 := hSS (Int.toNat (((m 28 0) (Int.toNat (cB + 12))) - 6))
                      refine x_ineg C dX8_moves_261 ?_
                      refine x_goto (tgt := 266) C dX8_moves_262 (by decide) ?_
                      refine x_put C f91 (T := TX8) rfl tyX8_ok nmX8 kX8_moves_1 32 (by decide) kX8_moves_2 rfl (fs' := [vI (((bM m cB v1 tB sB) 0 0) 0), .ref (am 1 0), vI (((bM m cB v1 tB sB) 0 0) 2), .ref (am 3 0), .ref (am 4 0), .ref (am 5 0), .ref (am 6 0), .ref (am 7 0), .ref (am 8 0), .ref (am 9 0), .ref (am 10 0), .ref (am 11 0), .ref (am 12 0), .ref (am 13 0), vI (((bM m cB v1 tB sB) 0 0) 14), .ref (am 15 0), .ref (am 16 0), .ref (am 17 0), .ref (am 18 0), .ref (am 19 0), .ref (am 20 0), .ref (am 21 0), .ref (am 22 0), .ref (am 23 0), .ref (am 24 0), .ref (am 25 0), .ref (am 26 0), .ref (am 27 0), .ref (am 28 0), .ref (am 29 0), vI (((((bM m cB v1 tB sB) 0 0) 30).toNat : Nat) : Int), vI cB, vI (-((m 1 0) (Int.toNat (((m 28 0) (Int.toNat (cB + 12))) - 6)))), vI ((tB : Nat) : Int), vI sB, .ref (am 35 0), .ref (am 36 0), .ref (am 37 0)]) rfl rfl (by simp) rfl dX8_moves_266 (x_hn (fun h167 e168 => ?_))
                      have f169 : h167 (am 0 0) = some (eO 8 [vI (((bM m cB v1 tB sB) 0 0) 0), .ref (am 1 0), vI (((bM m cB v1 tB sB) 0 0) 2), .ref (am 3 0), .ref (am 4 0), .ref (am 5 0), .ref (am 6 0), .ref (am 7 0), .ref (am 8 0), .ref (am 9 0), .ref (am 10 0), .ref (am 11 0), .ref (am 12 0), .ref (am 13 0), vI (((bM m cB v1 tB sB) 0 0) 14), .ref (am 15 0), .ref (am 16 0), .ref (am 17 0), .ref (am 18 0), .ref (am 19 0), .ref (am 20 0), .ref (am 21 0), .ref (am 22 0), .ref (am 23 0), .ref (am 24 0), .ref (am 25 0), .ref (am 26 0), .ref (am 27 0), .ref (am 28 0), .ref (am 29 0), vI (((((bM m cB v1 tB sB) 0 0) 30).toNat : Nat) : Int), vI cB, vI (-((m 1 0) (Int.toNat (((m 28 0) (Int.toNat (cB + 12))) - 6)))), vI ((tB : Nat) : Int), vI sB, .ref (am 35 0), .ref (am 36 0), .ref (am 37 0)]) := by rw [e168]; exact hu_s
                      refine x_vret C G dX8_moves_269 ?_ (by decide) (by decide)
                      have cp170 : MP D am h (cu (bM m cB v1 tB sB) 0 0 ((fu (fu (fu (fu ((bM m cB v1 tB sB) 0 0) 31 cB) 32 (-((m 1 0) (Int.toNat (((m 28 0) (Int.toNat (cB + 12))) - 6))))) 33 ((tB : Nat) : Int)) 34 sB))) h167 := by rw [e168]; exact (MP.up hcp3 (lm0 (by decide)) ((fu (fu (fu (fu ((bM m cB v1 tB sB) 0 0) 31 cB) 32 (-((m 1 0) (Int.toNat (((m 28 0) (Int.toNat (cB + 12))) - 6))))) 33 ((tB : Nat) : Int)) 34 sB)) rfl)
                      refine ⟨rfl, ?_⟩
                      have q9 := cp170
                      rw [bM_up] at q9
                      have hFv : F9 = (cB, -((m 1 0) (Int.toNat (((m 28 0) (Int.toNat (cB + 12))) - 6))), tB, sB) := by
                        rcases hI with ⟨i1, i2, i3⟩ | ⟨i1, i2, i3⟩ | ⟨i1, i2, i3, i4⟩
                        · obtain rfl : n = 0 := by omega
                          rw [i3]
                          first
                            | (exfalso; omega)
                            | (show (cB, (if v1 < 3 then v1 + 1 else 3), tB, sB) = _; first | rw [if_pos (by omega)] | rw [if_neg (by omega)])
                        · exfalso; omega
                        · rw [i4]
                          first
                            | (exfalso; omega)
                            | rw [if_pos (show 12 * by9 < 0 by omega)]
                            | (rw [if_neg (show ¬ 12 * by9 < 0 by omega)]
                               have hb1 : by9 = 1 := by omega
                               subst hb1
                               have hsi := sol_in i3 (by omega)
                               rw [hsi.2]
                               unfold strK
                               first
                                 | (rw [if_pos (by have q7 := hG (cB + 12 * 1).toNat; exact ⟨by assumption, by omega⟩)]; done)
                                 | (rw [if_neg (by intro q7; have q8 := q7.1; exact absurd q8 (by omega))]; rfl))
                      rw [hFv] at hF9
                      unfold mvM
                      rw [← hF9]
                      exact q9
                  · skip
                    refine x_iload C dX8_moves_239 7 rfl ?_
                    refine x_goto (tgt := 266) C dX8_moves_241 (by decide) ?_
                    refine x_put C f91 (T := TX8) rfl tyX8_ok nmX8 kX8_moves_1 32 (by decide) kX8_moves_2 rfl (fs' := [vI (((bM m cB v1 tB sB) 0 0) 0), .ref (am 1 0), vI (((bM m cB v1 tB sB) 0 0) 2), .ref (am 3 0), .ref (am 4 0), .ref (am 5 0), .ref (am 6 0), .ref (am 7 0), .ref (am 8 0), .ref (am 9 0), .ref (am 10 0), .ref (am 11 0), .ref (am 12 0), .ref (am 13 0), vI (((bM m cB v1 tB sB) 0 0) 14), .ref (am 15 0), .ref (am 16 0), .ref (am 17 0), .ref (am 18 0), .ref (am 19 0), .ref (am 20 0), .ref (am 21 0), .ref (am 22 0), .ref (am 23 0), .ref (am 24 0), .ref (am 25 0), .ref (am 26 0), .ref (am 27 0), .ref (am 28 0), .ref (am 29 0), vI (((((bM m cB v1 tB sB) 0 0) 30).toNat : Nat) : Int), vI cB, vI (v1 + 1), vI ((tB : Nat) : Int), vI sB, .ref (am 35 0), .ref (am 36 0), .ref (am 37 0)]) rfl rfl (by simp) rfl dX8_moves_266 (x_hn (fun h171 e172 => ?_))
                    have f173 : h171 (am 0 0) = some (eO 8 [vI (((bM m cB v1 tB sB) 0 0) 0), .ref (am 1 0), vI (((bM m cB v1 tB sB) 0 0) 2), .ref (am 3 0), .ref (am 4 0), .ref (am 5 0), .ref (am 6 0), .ref (am 7 0), .ref (am 8 0), .ref (am 9 0), .ref (am 10 0), .ref (am 11 0), .ref (am 12 0), .ref (am 13 0), vI (((bM m cB v1 tB sB) 0 0) 14), .ref (am 15 0), .ref (am 16 0), .ref (am 17 0), .ref (am 18 0), .ref (am 19 0), .ref (am 20 0), .ref (am 21 0), .ref (am 22 0), .ref (am 23 0), .ref (am 24 0), .ref (am 25 0), .ref (am 26 0), .ref (am 27 0), .ref (am 28 0), .ref (am 29 0), vI (((((bM m cB v1 tB sB) 0 0) 30).toNat : Nat) : Int), vI cB, vI (v1 + 1), vI ((tB : Nat) : Int), vI sB, .ref (am 35 0), .ref (am 36 0), .ref (am 37 0)]) := by rw [e172]; exact hu_s
                    refine x_vret C G dX8_moves_269 ?_ (by decide) (by decide)
                    have cp174 : MP D am h (cu (bM m cB v1 tB sB) 0 0 ((fu (fu (fu (fu ((bM m cB v1 tB sB) 0 0) 31 cB) 32 (v1 + 1)) 33 ((tB : Nat) : Int)) 34 sB))) h171 := by rw [e172]; exact (MP.up hcp3 (lm0 (by decide)) ((fu (fu (fu (fu ((bM m cB v1 tB sB) 0 0) 31 cB) 32 (v1 + 1)) 33 ((tB : Nat) : Int)) 34 sB)) rfl)
                    refine ⟨rfl, ?_⟩
                    have q9 := cp174
                    rw [bM_up] at q9
                    have hFv : F9 = (cB, v1 + 1, tB, sB) := by
                      rcases hI with ⟨i1, i2, i3⟩ | ⟨i1, i2, i3⟩ | ⟨i1, i2, i3, i4⟩
                      · obtain rfl : n = 0 := by omega
                        rw [i3]
                        first
                          | (exfalso; omega)
                          | (show (cB, (if v1 < 3 then v1 + 1 else 3), tB, sB) = _; first | rw [if_pos (by omega)] | rw [if_neg (by omega)])
                      · exfalso; omega
                      · rw [i4]
                        first
                          | (exfalso; omega)
                          | rw [if_pos (show 12 * by9 < 0 by omega)]
                          | (rw [if_neg (show ¬ 12 * by9 < 0 by omega)]
                             have hb1 : by9 = 1 := by omega
                             subst hb1
                             have hsi := sol_in i3 (by omega)
                             rw [hsi.2]
                             unfold strK
                             first
                               | (rw [if_pos (by have q7 := hG (cB + 12 * 1).toNat; exact ⟨by assumption, by omega⟩)]; done)
                               | (rw [if_neg (by intro q7; have q8 := q7.1; exact absurd q8 (by omega))]; rfl))
                    rw [hFv] at hF9
                    unfold mvM
                    rw [← hF9]
                    exact q9
          · skip
            refine x_vret C G dX8_moves_184 ?_ (by decide) (by decide)
            refine ⟨rfl, ?_⟩
            rcases hI with ⟨i1, i2, i3⟩ | ⟨i1, i2, i3⟩ | ⟨i1, i2, i3, i4⟩
            · exfalso; omega
            · rw [i3] at hF9
              unfold mvM
              rw [← hF9]
              exact hcp3
            · exfalso; omega
        · skip
          refine x_iload C dX8_moves_128 5 rfl ?_
          refine x_if_ne (tgt := 176) C dX8_moves_130 (by decide) (by omega) (fun c175 => ?_) (fun c175 => ?_)
          · skip
            have f176 : h1 (am 0 0) = some (eO 8 [vI (((bM m cB v1 tB sB) 0 0) 0), .ref (am 1 0), vI (((bM m cB v1 tB sB) 0 0) 2), .ref (am 3 0), .ref (am 4 0), .ref (am 5 0), .ref (am 6 0), .ref (am 7 0), .ref (am 8 0), .ref (am 9 0), .ref (am 10 0), .ref (am 11 0), .ref (am 12 0), .ref (am 13 0), vI (((bM m cB v1 tB sB) 0 0) 14), .ref (am 15 0), .ref (am 16 0), .ref (am 17 0), .ref (am 18 0), .ref (am 19 0), .ref (am 20 0), .ref (am 21 0), .ref (am 22 0), .ref (am 23 0), .ref (am 24 0), .ref (am 25 0), .ref (am 26 0), .ref (am 27 0), .ref (am 28 0), .ref (am 29 0), vI (((((bM m cB v1 tB sB) 0 0) 30).toNat : Nat) : Int), vI cB, vI v1, vI ((tB : Nat) : Int), vI sB, .ref (am 35 0), .ref (am 36 0), .ref (am 37 0)]) := by have q9 := f89; exact q9
            refine x_aload_n C dX8_moves_176 0 rfl ?_
            refine x_get C (v := vI sB) f176 (T := TX8) rfl kX8_moves_1 34 (by decide) kX8_moves_0 rfl dX8_moves_177 ?_
            refine x_iconst C dX8_moves_180 1 (by decide) ?_
            refine x_icmp_eq (tgt := 185) C dX8_moves_181 (by decide) (by omega) (by omega) (fun c177 => ?_) (fun c177 => ?_)
            · skip
              refine x_iload C dX8_moves_185 5 rfl ?_
              refine x_if_eq (tgt := 210) C dX8_moves_187 (by decide) (by omega) (fun c178 => ?_) (fun c178 => ?_)
              · skip
                refine x_iconst C dX8_moves_210 0 (by decide) ?_
                refine x_istore C (ls' := [(0, .ref (am 0 0)), (1, vI z), (2, vI (cB % 12)), (3, vI w9), (4, vI by9), (5, vI st9), (6, vI 0)]) dX8_moves_211 (by decide) rfl ?_
                refine x_aload_n C dX8_moves_213 0 rfl ?_
                refine x_get C (v := vI v1) f176 (T := TX8) rfl kX8_moves_1 32 (by decide) kX8_moves_2 rfl dX8_moves_214 ?_
                refine x_iconst C dX8_moves_217 3 (by decide) ?_
                refine x_icmp_ge (tgt := 230) C dX8_moves_218 (by decide) (by omega) (by omega) (fun c179 => ?_) (fun c179 => ?_)
                · skip
                  refine x_iconst C dX8_moves_230 3 (by decide) ?_
                  refine x_istore C (ls' := [(0, .ref (am 0 0)), (1, vI z), (2, vI (cB % 12)), (3, vI w9), (4, vI by9), (5, vI st9), (6, vI 0), (7, vI 3)]) dX8_moves_231 (by decide) rfl ?_
                  refine x_aload_n C dX8_moves_233 0 rfl ?_
                  refine x_iload C dX8_moves_234 5 rfl ?_
                  refine x_if_ne (tgt := 244) C dX8_moves_236 (by decide) (by omega) (fun c180 => ?_) (fun c180 => ?_)
                  · skip
                    refine x_iload C dX8_moves_244 6 rfl ?_
                    refine x_bipush C dX8_moves_246 6 (by decide) ?_
                    refine x_icmp_lt (tgt := 265) C dX8_moves_248 (by decide) (by omega) (by omega) (fun c181 => ?_) (fun c181 => ?_)
                    · skip
                      refine x_iconst C dX8_moves_265 0 (by decide) ?_
                      refine x_put C f176 (T := TX8) rfl tyX8_ok nmX8 kX8_moves_1 32 (by decide) kX8_moves_2 rfl (fs' := [vI (((bM m cB v1 tB sB) 0 0) 0), .ref (am 1 0), vI (((bM m cB v1 tB sB) 0 0) 2), .ref (am 3 0), .ref (am 4 0), .ref (am 5 0), .ref (am 6 0), .ref (am 7 0), .ref (am 8 0), .ref (am 9 0), .ref (am 10 0), .ref (am 11 0), .ref (am 12 0), .ref (am 13 0), vI (((bM m cB v1 tB sB) 0 0) 14), .ref (am 15 0), .ref (am 16 0), .ref (am 17 0), .ref (am 18 0), .ref (am 19 0), .ref (am 20 0), .ref (am 21 0), .ref (am 22 0), .ref (am 23 0), .ref (am 24 0), .ref (am 25 0), .ref (am 26 0), .ref (am 27 0), .ref (am 28 0), .ref (am 29 0), vI (((((bM m cB v1 tB sB) 0 0) 30).toNat : Nat) : Int), vI cB, vI 0, vI ((tB : Nat) : Int), vI sB, .ref (am 35 0), .ref (am 36 0), .ref (am 37 0)]) rfl rfl (by simp) rfl dX8_moves_266 (x_hn (fun h182 e183 => ?_))
                      have f184 : h182 (am 0 0) = some (eO 8 [vI (((bM m cB v1 tB sB) 0 0) 0), .ref (am 1 0), vI (((bM m cB v1 tB sB) 0 0) 2), .ref (am 3 0), .ref (am 4 0), .ref (am 5 0), .ref (am 6 0), .ref (am 7 0), .ref (am 8 0), .ref (am 9 0), .ref (am 10 0), .ref (am 11 0), .ref (am 12 0), .ref (am 13 0), vI (((bM m cB v1 tB sB) 0 0) 14), .ref (am 15 0), .ref (am 16 0), .ref (am 17 0), .ref (am 18 0), .ref (am 19 0), .ref (am 20 0), .ref (am 21 0), .ref (am 22 0), .ref (am 23 0), .ref (am 24 0), .ref (am 25 0), .ref (am 26 0), .ref (am 27 0), .ref (am 28 0), .ref (am 29 0), vI (((((bM m cB v1 tB sB) 0 0) 30).toNat : Nat) : Int), vI cB, vI 0, vI ((tB : Nat) : Int), vI sB, .ref (am 35 0), .ref (am 36 0), .ref (am 37 0)]) := by rw [e183]; exact hu_s
                      refine x_vret C G dX8_moves_269 ?_ (by decide) (by decide)
                      have cp185 : MP D am h (cu (bM m cB v1 tB sB) 0 0 ((fu (fu (fu (fu ((bM m cB v1 tB sB) 0 0) 31 cB) 32 0) 33 ((tB : Nat) : Int)) 34 sB))) h182 := by rw [e183]; exact (MP.up hcp3 (lm0 (by decide)) ((fu (fu (fu (fu ((bM m cB v1 tB sB) 0 0) 31 cB) 32 0) 33 ((tB : Nat) : Int)) 34 sB)) rfl)
                      refine ⟨rfl, ?_⟩
                      have q9 := cp185
                      rw [bM_up] at q9
                      have hFv : F9 = (cB, 0, tB, sB) := by
                        rcases hI with ⟨i1, i2, i3⟩ | ⟨i1, i2, i3⟩ | ⟨i1, i2, i3, i4⟩
                        · obtain rfl : n = 0 := by omega
                          rw [i3]
                          first
                            | (exfalso; omega)
                            | (show (cB, (if v1 < 3 then v1 + 1 else 3), tB, sB) = _; first | rw [if_pos (by omega)] | rw [if_neg (by omega)])
                        · exfalso; omega
                        · rw [i4]
                          first
                            | (exfalso; omega)
                            | rw [if_pos (show 12 * by9 < 0 by omega)]
                            | (rw [if_neg (show ¬ 12 * by9 < 0 by omega)]
                               have hb1 : by9 = 1 := by omega
                               subst hb1
                               have hsi := sol_in i3 (by omega)
                               rw [hsi.2]
                               unfold strK
                               first
                                 | (rw [if_pos (by have q7 := hG (cB + 12 * 1).toNat; exact ⟨by assumption, by omega⟩)]; done)
                                 | (rw [if_neg (by intro q7; have q8 := q7.1; exact absurd q8 (by omega))]; rfl))
                      rw [hFv] at hF9
                      unfold mvM
                      rw [← hF9]
                      exact q9
                    · exfalso; omega
                  · skip
                    refine x_iload C dX8_moves_239 7 rfl ?_
                    refine x_goto (tgt := 266) C dX8_moves_241 (by decide) ?_
                    refine x_put C f176 (T := TX8) rfl tyX8_ok nmX8 kX8_moves_1 32 (by decide) kX8_moves_2 rfl (fs' := [vI (((bM m cB v1 tB sB) 0 0) 0), .ref (am 1 0), vI (((bM m cB v1 tB sB) 0 0) 2), .ref (am 3 0), .ref (am 4 0), .ref (am 5 0), .ref (am 6 0), .ref (am 7 0), .ref (am 8 0), .ref (am 9 0), .ref (am 10 0), .ref (am 11 0), .ref (am 12 0), .ref (am 13 0), vI (((bM m cB v1 tB sB) 0 0) 14), .ref (am 15 0), .ref (am 16 0), .ref (am 17 0), .ref (am 18 0), .ref (am 19 0), .ref (am 20 0), .ref (am 21 0), .ref (am 22 0), .ref (am 23 0), .ref (am 24 0), .ref (am 25 0), .ref (am 26 0), .ref (am 27 0), .ref (am 28 0), .ref (am 29 0), vI (((((bM m cB v1 tB sB) 0 0) 30).toNat : Nat) : Int), vI cB, vI 3, vI ((tB : Nat) : Int), vI sB, .ref (am 35 0), .ref (am 36 0), .ref (am 37 0)]) rfl rfl (by simp) rfl dX8_moves_266 (x_hn (fun h186 e187 => ?_))
                    have f188 : h186 (am 0 0) = some (eO 8 [vI (((bM m cB v1 tB sB) 0 0) 0), .ref (am 1 0), vI (((bM m cB v1 tB sB) 0 0) 2), .ref (am 3 0), .ref (am 4 0), .ref (am 5 0), .ref (am 6 0), .ref (am 7 0), .ref (am 8 0), .ref (am 9 0), .ref (am 10 0), .ref (am 11 0), .ref (am 12 0), .ref (am 13 0), vI (((bM m cB v1 tB sB) 0 0) 14), .ref (am 15 0), .ref (am 16 0), .ref (am 17 0), .ref (am 18 0), .ref (am 19 0), .ref (am 20 0), .ref (am 21 0), .ref (am 22 0), .ref (am 23 0), .ref (am 24 0), .ref (am 25 0), .ref (am 26 0), .ref (am 27 0), .ref (am 28 0), .ref (am 29 0), vI (((((bM m cB v1 tB sB) 0 0) 30).toNat : Nat) : Int), vI cB, vI 3, vI ((tB : Nat) : Int), vI sB, .ref (am 35 0), .ref (am 36 0), .ref (am 37 0)]) := by rw [e187]; exact hu_s
                    refine x_vret C G dX8_moves_269 ?_ (by decide) (by decide)
                    have cp189 : MP D am h (cu (bM m cB v1 tB sB) 0 0 ((fu (fu (fu (fu ((bM m cB v1 tB sB) 0 0) 31 cB) 32 3) 33 ((tB : Nat) : Int)) 34 sB))) h186 := by rw [e187]; exact (MP.up hcp3 (lm0 (by decide)) ((fu (fu (fu (fu ((bM m cB v1 tB sB) 0 0) 31 cB) 32 3) 33 ((tB : Nat) : Int)) 34 sB)) rfl)
                    refine ⟨rfl, ?_⟩
                    have q9 := cp189
                    rw [bM_up] at q9
                    have hFv : F9 = (cB, 3, tB, sB) := by
                      rcases hI with ⟨i1, i2, i3⟩ | ⟨i1, i2, i3⟩ | ⟨i1, i2, i3, i4⟩
                      · obtain rfl : n = 0 := by omega
                        rw [i3]
                        first
                          | (exfalso; omega)
                          | (show (cB, (if v1 < 3 then v1 + 1 else 3), tB, sB) = _; first | rw [if_pos (by omega)] | rw [if_neg (by omega)])
                      · exfalso; omega
                      · rw [i4]
                        first
                          | (exfalso; omega)
                          | rw [if_pos (show 12 * by9 < 0 by omega)]
                          | (rw [if_neg (show ¬ 12 * by9 < 0 by omega)]
                             have hb1 : by9 = 1 := by omega
                             subst hb1
                             have hsi := sol_in i3 (by omega)
                             rw [hsi.2]
                             unfold strK
                             first
                               | (rw [if_pos (by have q7 := hG (cB + 12 * 1).toNat; exact ⟨by assumption, by omega⟩)]; done)
                               | (rw [if_neg (by intro q7; have q8 := q7.1; exact absurd q8 (by omega))]; rfl))
                    rw [hFv] at hF9
                    unfold mvM
                    rw [← hF9]
                    exact q9
                · skip
                  refine x_aload_n C dX8_moves_221 0 rfl ?_
                  refine x_get C (v := vI v1) f176 (T := TX8) rfl kX8_moves_1 32 (by decide) kX8_moves_2 rfl dX8_moves_222 ?_
                  refine x_iconst C dX8_moves_225 1 (by decide) ?_
                  refine x_iadd C dX8_moves_226 ?_
                  refine x_goto (tgt := 231) C dX8_moves_227 (by decide) ?_
                  refine x_istore C (ls' := [(0, .ref (am 0 0)), (1, vI z), (2, vI (cB % 12)), (3, vI w9), (4, vI by9), (5, vI st9), (6, vI 0), (7, vI (v1 + 1))]) dX8_moves_231 (by decide) rfl ?_
                  refine x_aload_n C dX8_moves_233 0 rfl ?_
                  refine x_iload C dX8_moves_234 5 rfl ?_
                  refine x_if_ne (tgt := 244) C dX8_moves_236 (by decide) (by omega) (fun c190 => ?_) (fun c190 => ?_)
                  · skip
                    refine x_iload C dX8_moves_244 6 rfl ?_
                    refine x_bipush C dX8_moves_246 6 (by decide) ?_
                    refine x_icmp_lt (tgt := 265) C dX8_moves_248 (by decide) (by omega) (by omega) (fun c191 => ?_) (fun c191 => ?_)
                    · skip
                      refine x_iconst C dX8_moves_265 0 (by decide) ?_
                      refine x_put C f176 (T := TX8) rfl tyX8_ok nmX8 kX8_moves_1 32 (by decide) kX8_moves_2 rfl (fs' := [vI (((bM m cB v1 tB sB) 0 0) 0), .ref (am 1 0), vI (((bM m cB v1 tB sB) 0 0) 2), .ref (am 3 0), .ref (am 4 0), .ref (am 5 0), .ref (am 6 0), .ref (am 7 0), .ref (am 8 0), .ref (am 9 0), .ref (am 10 0), .ref (am 11 0), .ref (am 12 0), .ref (am 13 0), vI (((bM m cB v1 tB sB) 0 0) 14), .ref (am 15 0), .ref (am 16 0), .ref (am 17 0), .ref (am 18 0), .ref (am 19 0), .ref (am 20 0), .ref (am 21 0), .ref (am 22 0), .ref (am 23 0), .ref (am 24 0), .ref (am 25 0), .ref (am 26 0), .ref (am 27 0), .ref (am 28 0), .ref (am 29 0), vI (((((bM m cB v1 tB sB) 0 0) 30).toNat : Nat) : Int), vI cB, vI 0, vI ((tB : Nat) : Int), vI sB, .ref (am 35 0), .ref (am 36 0), .ref (am 37 0)]) rfl rfl (by simp) rfl dX8_moves_266 (x_hn (fun h192 e193 => ?_))
                      have f194 : h192 (am 0 0) = some (eO 8 [vI (((bM m cB v1 tB sB) 0 0) 0), .ref (am 1 0), vI (((bM m cB v1 tB sB) 0 0) 2), .ref (am 3 0), .ref (am 4 0), .ref (am 5 0), .ref (am 6 0), .ref (am 7 0), .ref (am 8 0), .ref (am 9 0), .ref (am 10 0), .ref (am 11 0), .ref (am 12 0), .ref (am 13 0), vI (((bM m cB v1 tB sB) 0 0) 14), .ref (am 15 0), .ref (am 16 0), .ref (am 17 0), .ref (am 18 0), .ref (am 19 0), .ref (am 20 0), .ref (am 21 0), .ref (am 22 0), .ref (am 23 0), .ref (am 24 0), .ref (am 25 0), .ref (am 26 0), .ref (am 27 0), .ref (am 28 0), .ref (am 29 0), vI (((((bM m cB v1 tB sB) 0 0) 30).toNat : Nat) : Int), vI cB, vI 0, vI ((tB : Nat) : Int), vI sB, .ref (am 35 0), .ref (am 36 0), .ref (am 37 0)]) := by rw [e193]; exact hu_s
                      refine x_vret C G dX8_moves_269 ?_ (by decide) (by decide)
                      have cp195 : MP D am h (cu (bM m cB v1 tB sB) 0 0 ((fu (fu (fu (fu ((bM m cB v1 tB sB) 0 0) 31 cB) 32 0) 33 ((tB : Nat) : Int)) 34 sB))) h192 := by rw [e193]; exact (MP.up hcp3 (lm0 (by decide)) ((fu (fu (fu (fu ((bM m cB v1 tB sB) 0 0) 31 cB) 32 0) 33 ((tB : Nat) : Int)) 34 sB)) rfl)
                      refine ⟨rfl, ?_⟩
                      have q9 := cp195
                      rw [bM_up] at q9
                      have hFv : F9 = (cB, 0, tB, sB) := by
                        rcases hI with ⟨i1, i2, i3⟩ | ⟨i1, i2, i3⟩ | ⟨i1, i2, i3, i4⟩
                        · obtain rfl : n = 0 := by omega
                          rw [i3]
                          first
                            | (exfalso; omega)
                            | (show (cB, (if v1 < 3 then v1 + 1 else 3), tB, sB) = _; first | rw [if_pos (by omega)] | rw [if_neg (by omega)])
                        · exfalso; omega
                        · rw [i4]
                          first
                            | (exfalso; omega)
                            | rw [if_pos (show 12 * by9 < 0 by omega)]
                            | (rw [if_neg (show ¬ 12 * by9 < 0 by omega)]
                               have hb1 : by9 = 1 := by omega
                               subst hb1
                               have hsi := sol_in i3 (by omega)
                               rw [hsi.2]
                               unfold strK
                               first
                                 | (rw [if_pos (by have q7 := hG (cB + 12 * 1).toNat; exact ⟨by assumption, by omega⟩)]; done)
                                 | (rw [if_neg (by intro q7; have q8 := q7.1; exact absurd q8 (by omega))]; rfl))
                      rw [hFv] at hF9
                      unfold mvM
                      rw [← hF9]
                      exact q9
                    · exfalso; omega
                  · skip
                    refine x_iload C dX8_moves_239 7 rfl ?_
                    refine x_goto (tgt := 266) C dX8_moves_241 (by decide) ?_
                    refine x_put C f176 (T := TX8) rfl tyX8_ok nmX8 kX8_moves_1 32 (by decide) kX8_moves_2 rfl (fs' := [vI (((bM m cB v1 tB sB) 0 0) 0), .ref (am 1 0), vI (((bM m cB v1 tB sB) 0 0) 2), .ref (am 3 0), .ref (am 4 0), .ref (am 5 0), .ref (am 6 0), .ref (am 7 0), .ref (am 8 0), .ref (am 9 0), .ref (am 10 0), .ref (am 11 0), .ref (am 12 0), .ref (am 13 0), vI (((bM m cB v1 tB sB) 0 0) 14), .ref (am 15 0), .ref (am 16 0), .ref (am 17 0), .ref (am 18 0), .ref (am 19 0), .ref (am 20 0), .ref (am 21 0), .ref (am 22 0), .ref (am 23 0), .ref (am 24 0), .ref (am 25 0), .ref (am 26 0), .ref (am 27 0), .ref (am 28 0), .ref (am 29 0), vI (((((bM m cB v1 tB sB) 0 0) 30).toNat : Nat) : Int), vI cB, vI (v1 + 1), vI ((tB : Nat) : Int), vI sB, .ref (am 35 0), .ref (am 36 0), .ref (am 37 0)]) rfl rfl (by simp) rfl dX8_moves_266 (x_hn (fun h196 e197 => ?_))
                    have f198 : h196 (am 0 0) = some (eO 8 [vI (((bM m cB v1 tB sB) 0 0) 0), .ref (am 1 0), vI (((bM m cB v1 tB sB) 0 0) 2), .ref (am 3 0), .ref (am 4 0), .ref (am 5 0), .ref (am 6 0), .ref (am 7 0), .ref (am 8 0), .ref (am 9 0), .ref (am 10 0), .ref (am 11 0), .ref (am 12 0), .ref (am 13 0), vI (((bM m cB v1 tB sB) 0 0) 14), .ref (am 15 0), .ref (am 16 0), .ref (am 17 0), .ref (am 18 0), .ref (am 19 0), .ref (am 20 0), .ref (am 21 0), .ref (am 22 0), .ref (am 23 0), .ref (am 24 0), .ref (am 25 0), .ref (am 26 0), .ref (am 27 0), .ref (am 28 0), .ref (am 29 0), vI (((((bM m cB v1 tB sB) 0 0) 30).toNat : Nat) : Int), vI cB, vI (v1 + 1), vI ((tB : Nat) : Int), vI sB, .ref (am 35 0), .ref (am 36 0), .ref (am 37 0)]) := by rw [e197]; exact hu_s
                    refine x_vret C G dX8_moves_269 ?_ (by decide) (by decide)
                    have cp199 : MP D am h (cu (bM m cB v1 tB sB) 0 0 ((fu (fu (fu (fu ((bM m cB v1 tB sB) 0 0) 31 cB) 32 (v1 + 1)) 33 ((tB : Nat) : Int)) 34 sB))) h196 := by rw [e197]; exact (MP.up hcp3 (lm0 (by decide)) ((fu (fu (fu (fu ((bM m cB v1 tB sB) 0 0) 31 cB) 32 (v1 + 1)) 33 ((tB : Nat) : Int)) 34 sB)) rfl)
                    refine ⟨rfl, ?_⟩
                    have q9 := cp199
                    rw [bM_up] at q9
                    have hFv : F9 = (cB, v1 + 1, tB, sB) := by
                      rcases hI with ⟨i1, i2, i3⟩ | ⟨i1, i2, i3⟩ | ⟨i1, i2, i3, i4⟩
                      · obtain rfl : n = 0 := by omega
                        rw [i3]
                        first
                          | (exfalso; omega)
                          | (show (cB, (if v1 < 3 then v1 + 1 else 3), tB, sB) = _; first | rw [if_pos (by omega)] | rw [if_neg (by omega)])
                      · exfalso; omega
                      · rw [i4]
                        first
                          | (exfalso; omega)
                          | rw [if_pos (show 12 * by9 < 0 by omega)]
                          | (rw [if_neg (show ¬ 12 * by9 < 0 by omega)]
                             have hb1 : by9 = 1 := by omega
                             subst hb1
                             have hsi := sol_in i3 (by omega)
                             rw [hsi.2]
                             unfold strK
                             first
                               | (rw [if_pos (by have q7 := hG (cB + 12 * 1).toNat; exact ⟨by assumption, by omega⟩)]; done)
                               | (rw [if_neg (by intro q7; have q8 := q7.1; exact absurd q8 (by omega))]; rfl))
                    rw [hFv] at hF9
                    unfold mvM
                    rw [← hF9]
                    exact q9
              · skip
                refine x_iload C dX8_moves_190 4 rfl ?_
                refine x_if_le (tgt := 210) C dX8_moves_192 (by decide) (by omega) (fun c200 => ?_) (fun c200 => ?_)
                · skip
                  refine x_iconst C dX8_moves_210 0 (by decide) ?_
                  refine x_istore C (ls' := [(0, .ref (am 0 0)), (1, vI z), (2, vI (cB % 12)), (3, vI w9), (4, vI by9), (5, vI st9), (6, vI 0)]) dX8_moves_211 (by decide) rfl ?_
                  refine x_aload_n C dX8_moves_213 0 rfl ?_
                  refine x_get C (v := vI v1) f176 (T := TX8) rfl kX8_moves_1 32 (by decide) kX8_moves_2 rfl dX8_moves_214 ?_
                  refine x_iconst C dX8_moves_217 3 (by decide) ?_
                  refine x_icmp_ge (tgt := 230) C dX8_moves_218 (by decide) (by omega) (by omega) (fun c201 => ?_) (fun c201 => ?_)
                  · skip
                    refine x_iconst C dX8_moves_230 3 (by decide) ?_
                    refine x_istore C (ls' := [(0, .ref (am 0 0)), (1, vI z), (2, vI (cB % 12)), (3, vI w9), (4, vI by9), (5, vI st9), (6, vI 0), (7, vI 3)]) dX8_moves_231 (by decide) rfl ?_
                    refine x_aload_n C dX8_moves_233 0 rfl ?_
                    refine x_iload C dX8_moves_234 5 rfl ?_
                    refine x_if_ne (tgt := 244) C dX8_moves_236 (by decide) (by omega) (fun c202 => ?_) (fun c202 => ?_)
                    · skip
                      refine x_iload C dX8_moves_244 6 rfl ?_
                      refine x_bipush C dX8_moves_246 6 (by decide) ?_
                      refine x_icmp_lt (tgt := 265) C dX8_moves_248 (by decide) (by omega) (by omega) (fun c203 => ?_) (fun c203 => ?_)
                      · skip
                        refine x_iconst C dX8_moves_265 0 (by decide) ?_
                        refine x_put C f176 (T := TX8) rfl tyX8_ok nmX8 kX8_moves_1 32 (by decide) kX8_moves_2 rfl (fs' := [vI (((bM m cB v1 tB sB) 0 0) 0), .ref (am 1 0), vI (((bM m cB v1 tB sB) 0 0) 2), .ref (am 3 0), .ref (am 4 0), .ref (am 5 0), .ref (am 6 0), .ref (am 7 0), .ref (am 8 0), .ref (am 9 0), .ref (am 10 0), .ref (am 11 0), .ref (am 12 0), .ref (am 13 0), vI (((bM m cB v1 tB sB) 0 0) 14), .ref (am 15 0), .ref (am 16 0), .ref (am 17 0), .ref (am 18 0), .ref (am 19 0), .ref (am 20 0), .ref (am 21 0), .ref (am 22 0), .ref (am 23 0), .ref (am 24 0), .ref (am 25 0), .ref (am 26 0), .ref (am 27 0), .ref (am 28 0), .ref (am 29 0), vI (((((bM m cB v1 tB sB) 0 0) 30).toNat : Nat) : Int), vI cB, vI 0, vI ((tB : Nat) : Int), vI sB, .ref (am 35 0), .ref (am 36 0), .ref (am 37 0)]) rfl rfl (by simp) rfl dX8_moves_266 (x_hn (fun h204 e205 => ?_))
                        have f206 : h204 (am 0 0) = some (eO 8 [vI (((bM m cB v1 tB sB) 0 0) 0), .ref (am 1 0), vI (((bM m cB v1 tB sB) 0 0) 2), .ref (am 3 0), .ref (am 4 0), .ref (am 5 0), .ref (am 6 0), .ref (am 7 0), .ref (am 8 0), .ref (am 9 0), .ref (am 10 0), .ref (am 11 0), .ref (am 12 0), .ref (am 13 0), vI (((bM m cB v1 tB sB) 0 0) 14), .ref (am 15 0), .ref (am 16 0), .ref (am 17 0), .ref (am 18 0), .ref (am 19 0), .ref (am 20 0), .ref (am 21 0), .ref (am 22 0), .ref (am 23 0), .ref (am 24 0), .ref (am 25 0), .ref (am 26 0), .ref (am 27 0), .ref (am 28 0), .ref (am 29 0), vI (((((bM m cB v1 tB sB) 0 0) 30).toNat : Nat) : Int), vI cB, vI 0, vI ((tB : Nat) : Int), vI sB, .ref (am 35 0), .ref (am 36 0), .ref (am 37 0)]) := by rw [e205]; exact hu_s
                        refine x_vret C G dX8_moves_269 ?_ (by decide) (by decide)
                        have cp207 : MP D am h (cu (bM m cB v1 tB sB) 0 0 ((fu (fu (fu (fu ((bM m cB v1 tB sB) 0 0) 31 cB) 32 0) 33 ((tB : Nat) : Int)) 34 sB))) h204 := by rw [e205]; exact (MP.up hcp3 (lm0 (by decide)) ((fu (fu (fu (fu ((bM m cB v1 tB sB) 0 0) 31 cB) 32 0) 33 ((tB : Nat) : Int)) 34 sB)) rfl)
                        refine ⟨rfl, ?_⟩
                        have q9 := cp207
                        rw [bM_up] at q9
                        have hFv : F9 = (cB, 0, tB, sB) := by
                          rcases hI with ⟨i1, i2, i3⟩ | ⟨i1, i2, i3⟩ | ⟨i1, i2, i3, i4⟩
                          · obtain rfl : n = 0 := by omega
                            rw [i3]
                            first
                              | (exfalso; omega)
                              | (show (cB, (if v1 < 3 then v1 + 1 else 3), tB, sB) = _; first | rw [if_pos (by omega)] | rw [if_neg (by omega)])
                          · exfalso; omega
                          · rw [i4]
                            first
                              | (exfalso; omega)
                              | rw [if_pos (show 12 * by9 < 0 by omega)]
                              | (rw [if_neg (show ¬ 12 * by9 < 0 by omega)]
                                 have hb1 : by9 = 1 := by omega
                                 subst hb1
                                 have hsi := sol_in i3 (by omega)
                                 rw [hsi.2]
                                 unfold strK
                                 first
                                   | (rw [if_pos (by have q7 := hG (cB + 12 * 1).toNat; exact ⟨by assumption, by omega⟩)]; done)
                                   | (rw [if_neg (by intro q7; have q8 := q7.1; exact absurd q8 (by omega))]; rfl))
                        rw [hFv] at hF9
                        unfold mvM
                        rw [← hF9]
                        exact q9
                      · exfalso; omega
                    · skip
                      refine x_iload C dX8_moves_239 7 rfl ?_
                      refine x_goto (tgt := 266) C dX8_moves_241 (by decide) ?_
                      refine x_put C f176 (T := TX8) rfl tyX8_ok nmX8 kX8_moves_1 32 (by decide) kX8_moves_2 rfl (fs' := [vI (((bM m cB v1 tB sB) 0 0) 0), .ref (am 1 0), vI (((bM m cB v1 tB sB) 0 0) 2), .ref (am 3 0), .ref (am 4 0), .ref (am 5 0), .ref (am 6 0), .ref (am 7 0), .ref (am 8 0), .ref (am 9 0), .ref (am 10 0), .ref (am 11 0), .ref (am 12 0), .ref (am 13 0), vI (((bM m cB v1 tB sB) 0 0) 14), .ref (am 15 0), .ref (am 16 0), .ref (am 17 0), .ref (am 18 0), .ref (am 19 0), .ref (am 20 0), .ref (am 21 0), .ref (am 22 0), .ref (am 23 0), .ref (am 24 0), .ref (am 25 0), .ref (am 26 0), .ref (am 27 0), .ref (am 28 0), .ref (am 29 0), vI (((((bM m cB v1 tB sB) 0 0) 30).toNat : Nat) : Int), vI cB, vI 3, vI ((tB : Nat) : Int), vI sB, .ref (am 35 0), .ref (am 36 0), .ref (am 37 0)]) rfl rfl (by simp) rfl dX8_moves_266 (x_hn (fun h208 e209 => ?_))
                      have f210 : h208 (am 0 0) = some (eO 8 [vI (((bM m cB v1 tB sB) 0 0) 0), .ref (am 1 0), vI (((bM m cB v1 tB sB) 0 0) 2), .ref (am 3 0), .ref (am 4 0), .ref (am 5 0), .ref (am 6 0), .ref (am 7 0), .ref (am 8 0), .ref (am 9 0), .ref (am 10 0), .ref (am 11 0), .ref (am 12 0), .ref (am 13 0), vI (((bM m cB v1 tB sB) 0 0) 14), .ref (am 15 0), .ref (am 16 0), .ref (am 17 0), .ref (am 18 0), .ref (am 19 0), .ref (am 20 0), .ref (am 21 0), .ref (am 22 0), .ref (am 23 0), .ref (am 24 0), .ref (am 25 0), .ref (am 26 0), .ref (am 27 0), .ref (am 28 0), .ref (am 29 0), vI (((((bM m cB v1 tB sB) 0 0) 30).toNat : Nat) : Int), vI cB, vI 3, vI ((tB : Nat) : Int), vI sB, .ref (am 35 0), .ref (am 36 0), .ref (am 37 0)]) := by rw [e209]; exact hu_s
                      refine x_vret C G dX8_moves_269 ?_ (by decide) (by decide)
                      have cp211 : MP D am h (cu (bM m cB v1 tB sB) 0 0 ((fu (fu (fu (fu ((bM m cB v1 tB sB) 0 0) 31 cB) 32 3) 33 ((tB : Nat) : Int)) 34 sB))) h208 := by rw [e209]; exact (MP.up hcp3 (lm0 (by decide)) ((fu (fu (fu (fu ((bM m cB v1 tB sB) 0 0) 31 cB) 32 3) 33 ((tB : Nat) : Int)) 34 sB)) rfl)
                      refine ⟨rfl, ?_⟩
                      have q9 := cp211
                      rw [bM_up] at q9
                      have hFv : F9 = (cB, 3, tB, sB) := by
                        rcases hI with ⟨i1, i2, i3⟩ | ⟨i1, i2, i3⟩ | ⟨i1, i2, i3, i4⟩
                        · obtain rfl : n = 0 := by omega
                          rw [i3]
                          first
                            | (exfalso; omega)
                            | (show (cB, (if v1 < 3 then v1 + 1 else 3), tB, sB) = _; first | rw [if_pos (by omega)] | rw [if_neg (by omega)])
                        · exfalso; omega
                        · rw [i4]
                          first
                            | (exfalso; omega)
                            | rw [if_pos (show 12 * by9 < 0 by omega)]
                            | (rw [if_neg (show ¬ 12 * by9 < 0 by omega)]
                               have hb1 : by9 = 1 := by omega
                               subst hb1
                               have hsi := sol_in i3 (by omega)
                               rw [hsi.2]
                               unfold strK
                               first
                                 | (rw [if_pos (by have q7 := hG (cB + 12 * 1).toNat; exact ⟨by assumption, by omega⟩)]; done)
                                 | (rw [if_neg (by intro q7; have q8 := q7.1; exact absurd q8 (by omega))]; rfl))
                      rw [hFv] at hF9
                      unfold mvM
                      rw [← hF9]
                      exact q9
                  · skip
                    refine x_aload_n C dX8_moves_221 0 rfl ?_
                    refine x_get C (v := vI v1) f176 (T := TX8) rfl kX8_moves_1 32 (by decide) kX8_moves_2 rfl dX8_moves_222 ?_
                    refine x_iconst C dX8_moves_225 1 (by decide) ?_
                    refine x_iadd C dX8_moves_226 ?_
                    refine x_goto (tgt := 231) C dX8_moves_227 (by decide) ?_
                    refine x_istore C (ls' := [(0, .ref (am 0 0)), (1, vI z), (2, vI (cB % 12)), (3, vI w9), (4, vI by9), (5, vI st9), (6, vI 0), (7, vI (v1 + 1))]) dX8_moves_231 (by decide) rfl ?_
                    refine x_aload_n C dX8_moves_233 0 rfl ?_
                    refine x_iload C dX8_moves_234 5 rfl ?_
                    refine x_if_ne (tgt := 244) C dX8_moves_236 (by decide) (by omega) (fun c212 => ?_) (fun c212 => ?_)
                    · skip
                      refine x_iload C dX8_moves_244 6 rfl ?_
                      refine x_bipush C dX8_moves_246 6 (by decide) ?_
                      refine x_icmp_lt (tgt := 265) C dX8_moves_248 (by decide) (by omega) (by omega) (fun c213 => ?_) (fun c213 => ?_)
                      · skip
                        refine x_iconst C dX8_moves_265 0 (by decide) ?_
                        refine x_put C f176 (T := TX8) rfl tyX8_ok nmX8 kX8_moves_1 32 (by decide) kX8_moves_2 rfl (fs' := [vI (((bM m cB v1 tB sB) 0 0) 0), .ref (am 1 0), vI (((bM m cB v1 tB sB) 0 0) 2), .ref (am 3 0), .ref (am 4 0), .ref (am 5 0), .ref (am 6 0), .ref (am 7 0), .ref (am 8 0), .ref (am 9 0), .ref (am 10 0), .ref (am 11 0), .ref (am 12 0), .ref (am 13 0), vI (((bM m cB v1 tB sB) 0 0) 14), .ref (am 15 0), .ref (am 16 0), .ref (am 17 0), .ref (am 18 0), .ref (am 19 0), .ref (am 20 0), .ref (am 21 0), .ref (am 22 0), .ref (am 23 0), .ref (am 24 0), .ref (am 25 0), .ref (am 26 0), .ref (am 27 0), .ref (am 28 0), .ref (am 29 0), vI (((((bM m cB v1 tB sB) 0 0) 30).toNat : Nat) : Int), vI cB, vI 0, vI ((tB : Nat) : Int), vI sB, .ref (am 35 0), .ref (am 36 0), .ref (am 37 0)]) rfl rfl (by simp) rfl dX8_moves_266 (x_hn (fun h214 e215 => ?_))
                        have f216 : h214 (am 0 0) = some (eO 8 [vI (((bM m cB v1 tB sB) 0 0) 0), .ref (am 1 0), vI (((bM m cB v1 tB sB) 0 0) 2), .ref (am 3 0), .ref (am 4 0), .ref (am 5 0), .ref (am 6 0), .ref (am 7 0), .ref (am 8 0), .ref (am 9 0), .ref (am 10 0), .ref (am 11 0), .ref (am 12 0), .ref (am 13 0), vI (((bM m cB v1 tB sB) 0 0) 14), .ref (am 15 0), .ref (am 16 0), .ref (am 17 0), .ref (am 18 0), .ref (am 19 0), .ref (am 20 0), .ref (am 21 0), .ref (am 22 0), .ref (am 23 0), .ref (am 24 0), .ref (am 25 0), .ref (am 26 0), .ref (am 27 0), .ref (am 28 0), .ref (am 29 0), vI (((((bM m cB v1 tB sB) 0 0) 30).toNat : Nat) : Int), vI cB, vI 0, vI ((tB : Nat) : Int), vI sB, .ref (am 35 0), .ref (am 36 0), .ref (am 37 0)]) := by rw [e215]; exact hu_s
                        refine x_vret C G dX8_moves_269 ?_ (by decide) (by decide)
                        have cp217 : MP D am h (cu (bM m cB v1 tB sB) 0 0 ((fu (fu (fu (fu ((bM m cB v1 tB sB) 0 0) 31 cB) 32 0) 33 ((tB : Nat) : Int)) 34 sB))) h214 := by rw [e215]; exact (MP.up hcp3 (lm0 (by decide)) ((fu (fu (fu (fu ((bM m cB v1 tB sB) 0 0) 31 cB) 32 0) 33 ((tB : Nat) : Int)) 34 sB)) rfl)
                        refine ⟨rfl, ?_⟩
                        have q9 := cp217
                        rw [bM_up] at q9
                        have hFv : F9 = (cB, 0, tB, sB) := by
                          rcases hI with ⟨i1, i2, i3⟩ | ⟨i1, i2, i3⟩ | ⟨i1, i2, i3, i4⟩
                          · obtain rfl : n = 0 := by omega
                            rw [i3]
                            first
                              | (exfalso; omega)
                              | (show (cB, (if v1 < 3 then v1 + 1 else 3), tB, sB) = _; first | rw [if_pos (by omega)] | rw [if_neg (by omega)])
                          · exfalso; omega
                          · rw [i4]
                            first
                              | (exfalso; omega)
                              | rw [if_pos (show 12 * by9 < 0 by omega)]
                              | (rw [if_neg (show ¬ 12 * by9 < 0 by omega)]
                                 have hb1 : by9 = 1 := by omega
                                 subst hb1
                                 have hsi := sol_in i3 (by omega)
                                 rw [hsi.2]
                                 unfold strK
                                 first
                                   | (rw [if_pos (by have q7 := hG (cB + 12 * 1).toNat; exact ⟨by assumption, by omega⟩)]; done)
                                   | (rw [if_neg (by intro q7; have q8 := q7.1; exact absurd q8 (by omega))]; rfl))
                        rw [hFv] at hF9
                        unfold mvM
                        rw [← hF9]
                        exact q9
                      · exfalso; omega
                    · skip
                      refine x_iload C dX8_moves_239 7 rfl ?_
                      refine x_goto (tgt := 266) C dX8_moves_241 (by decide) ?_
                      refine x_put C f176 (T := TX8) rfl tyX8_ok nmX8 kX8_moves_1 32 (by decide) kX8_moves_2 rfl (fs' := [vI (((bM m cB v1 tB sB) 0 0) 0), .ref (am 1 0), vI (((bM m cB v1 tB sB) 0 0) 2), .ref (am 3 0), .ref (am 4 0), .ref (am 5 0), .ref (am 6 0), .ref (am 7 0), .ref (am 8 0), .ref (am 9 0), .ref (am 10 0), .ref (am 11 0), .ref (am 12 0), .ref (am 13 0), vI (((bM m cB v1 tB sB) 0 0) 14), .ref (am 15 0), .ref (am 16 0), .ref (am 17 0), .ref (am 18 0), .ref (am 19 0), .ref (am 20 0), .ref (am 21 0), .ref (am 22 0), .ref (am 23 0), .ref (am 24 0), .ref (am 25 0), .ref (am 26 0), .ref (am 27 0), .ref (am 28 0), .ref (am 29 0), vI (((((bM m cB v1 tB sB) 0 0) 30).toNat : Nat) : Int), vI cB, vI (v1 + 1), vI ((tB : Nat) : Int), vI sB, .ref (am 35 0), .ref (am 36 0), .ref (am 37 0)]) rfl rfl (by simp) rfl dX8_moves_266 (x_hn (fun h218 e219 => ?_))
                      have f220 : h218 (am 0 0) = some (eO 8 [vI (((bM m cB v1 tB sB) 0 0) 0), .ref (am 1 0), vI (((bM m cB v1 tB sB) 0 0) 2), .ref (am 3 0), .ref (am 4 0), .ref (am 5 0), .ref (am 6 0), .ref (am 7 0), .ref (am 8 0), .ref (am 9 0), .ref (am 10 0), .ref (am 11 0), .ref (am 12 0), .ref (am 13 0), vI (((bM m cB v1 tB sB) 0 0) 14), .ref (am 15 0), .ref (am 16 0), .ref (am 17 0), .ref (am 18 0), .ref (am 19 0), .ref (am 20 0), .ref (am 21 0), .ref (am 22 0), .ref (am 23 0), .ref (am 24 0), .ref (am 25 0), .ref (am 26 0), .ref (am 27 0), .ref (am 28 0), .ref (am 29 0), vI (((((bM m cB v1 tB sB) 0 0) 30).toNat : Nat) : Int), vI cB, vI (v1 + 1), vI ((tB : Nat) : Int), vI sB, .ref (am 35 0), .ref (am 36 0), .ref (am 37 0)]) := by rw [e219]; exact hu_s
                      refine x_vret C G dX8_moves_269 ?_ (by decide) (by decide)
                      have cp221 : MP D am h (cu (bM m cB v1 tB sB) 0 0 ((fu (fu (fu (fu ((bM m cB v1 tB sB) 0 0) 31 cB) 32 (v1 + 1)) 33 ((tB : Nat) : Int)) 34 sB))) h218 := by rw [e219]; exact (MP.up hcp3 (lm0 (by decide)) ((fu (fu (fu (fu ((bM m cB v1 tB sB) 0 0) 31 cB) 32 (v1 + 1)) 33 ((tB : Nat) : Int)) 34 sB)) rfl)
                      refine ⟨rfl, ?_⟩
                      have q9 := cp221
                      rw [bM_up] at q9
                      have hFv : F9 = (cB, v1 + 1, tB, sB) := by
                        rcases hI with ⟨i1, i2, i3⟩ | ⟨i1, i2, i3⟩ | ⟨i1, i2, i3, i4⟩
                        · obtain rfl : n = 0 := by omega
                          rw [i3]
                          first
                            | (exfalso; omega)
                            | (show (cB, (if v1 < 3 then v1 + 1 else 3), tB, sB) = _; first | rw [if_pos (by omega)] | rw [if_neg (by omega)])
                        · exfalso; omega
                        · rw [i4]
                          first
                            | (exfalso; omega)
                            | rw [if_pos (show 12 * by9 < 0 by omega)]
                            | (rw [if_neg (show ¬ 12 * by9 < 0 by omega)]
                               have hb1 : by9 = 1 := by omega
                               subst hb1
                               have hsi := sol_in i3 (by omega)
                               rw [hsi.2]
                               unfold strK
                               first
                                 | (rw [if_pos (by have q7 := hG (cB + 12 * 1).toNat; exact ⟨by assumption, by omega⟩)]; done)
                                 | (rw [if_neg (by intro q7; have q8 := q7.1; exact absurd q8 (by omega))]; rfl))
                      rw [hFv] at hF9
                      unfold mvM
                      rw [← hF9]
                      exact q9
                · skip
                  have hsin : 0 ≤ cB + 12 ∧ cB + 12 < 96 := by
                      rcases hI with ⟨i1, i2, i3⟩ | ⟨i1, i2, i3⟩ | ⟨i1, i2, i3, i4⟩
                      · exfalso; omega
                      · exfalso; omega
                      · have hb1 : by9 = 1 := by omega
                        have q9 := (sol_in i3 (by omega)).1
                        omega
                  refine x_aload_n C dX8_moves_195 0 rfl ?_
                  refine x_get C (v := .ref (am 28 0)) f176 (T := TX8) rfl kX8_moves_1 28 (by decide) kX8_moves_3 rfl dX8_moves_196 ?_
                  have f222 : h1 (am 28 0) = some (eI D 96 (((bM m cB v1 tB sB) 28 0))) := hcp3.1.1 28 0 (lm0 (by decide))
                  have f223 : h1 (am 28 0) = some (eI D 96 (m 28 0)) := by have q9 := f222; exact q9
                  refine x_aload_n C dX8_moves_199 0 rfl ?_
                  refine x_get C (v := vI cB) f176 (T := TX8) rfl kX8_moves_1 31 (by decide) kX8_moves_4 rfl dX8_moves_200 ?_
                  refine x_bipush C dX8_moves_203 12 (by decide) ?_
                  refine x_iadd C dX8_moves_205 ?_
                  refine x_iald C f223 ⟨by omega, by omega⟩ (by decide) dX8_moves_206 ?_
                  have r224 := hG (Int.toNat (cB + 12))
                  refine x_goto (tgt := 211) C dX8_moves_207 (by decide) ?_
                  refine x_istore C (ls' := [(0, .ref (am 0 0)), (1, vI z), (2, vI (cB % 12)), (3, vI w9), (4, vI by9), (5, vI st9), (6, vI ((m 28 0) (Int.toNat (cB + 12))))]) dX8_moves_211 (by decide) rfl ?_
                  refine x_aload_n C dX8_moves_213 0 rfl ?_
                  refine x_get C (v := vI v1) f176 (T := TX8) rfl kX8_moves_1 32 (by decide) kX8_moves_2 rfl dX8_moves_214 ?_
                  refine x_iconst C dX8_moves_217 3 (by decide) ?_
                  refine x_icmp_ge (tgt := 230) C dX8_moves_218 (by decide) (by omega) (by omega) (fun c225 => ?_) (fun c225 => ?_)
                  · skip
                    refine x_iconst C dX8_moves_230 3 (by decide) ?_
                    refine x_istore C (ls' := [(0, .ref (am 0 0)), (1, vI z), (2, vI (cB % 12)), (3, vI w9), (4, vI by9), (5, vI st9), (6, vI ((m 28 0) (Int.toNat (cB + 12)))), (7, vI 3)]) dX8_moves_231 (by decide) rfl ?_
                    refine x_aload_n C dX8_moves_233 0 rfl ?_
                    refine x_iload C dX8_moves_234 5 rfl ?_
                    refine x_if_ne (tgt := 244) C dX8_moves_236 (by decide) (by omega) (fun c226 => ?_) (fun c226 => ?_)
                    · skip
                      refine x_iload C dX8_moves_244 6 rfl ?_
                      refine x_bipush C dX8_moves_246 6 (by decide) ?_
                      refine x_icmp_lt (tgt := 265) C dX8_moves_248 (by decide) (by omega) (by omega) (fun c227 => ?_) (fun c227 => ?_)
                      · skip
                        refine x_iconst C dX8_moves_265 0 (by decide) ?_
                        refine x_put C f176 (T := TX8) rfl tyX8_ok nmX8 kX8_moves_1 32 (by decide) kX8_moves_2 rfl (fs' := [vI (((bM m cB v1 tB sB) 0 0) 0), .ref (am 1 0), vI (((bM m cB v1 tB sB) 0 0) 2), .ref (am 3 0), .ref (am 4 0), .ref (am 5 0), .ref (am 6 0), .ref (am 7 0), .ref (am 8 0), .ref (am 9 0), .ref (am 10 0), .ref (am 11 0), .ref (am 12 0), .ref (am 13 0), vI (((bM m cB v1 tB sB) 0 0) 14), .ref (am 15 0), .ref (am 16 0), .ref (am 17 0), .ref (am 18 0), .ref (am 19 0), .ref (am 20 0), .ref (am 21 0), .ref (am 22 0), .ref (am 23 0), .ref (am 24 0), .ref (am 25 0), .ref (am 26 0), .ref (am 27 0), .ref (am 28 0), .ref (am 29 0), vI (((((bM m cB v1 tB sB) 0 0) 30).toNat : Nat) : Int), vI cB, vI 0, vI ((tB : Nat) : Int), vI sB, .ref (am 35 0), .ref (am 36 0), .ref (am 37 0)]) rfl rfl (by simp) rfl dX8_moves_266 (x_hn (fun h228 e229 => ?_))
                        have f230 : h228 (am 0 0) = some (eO 8 [vI (((bM m cB v1 tB sB) 0 0) 0), .ref (am 1 0), vI (((bM m cB v1 tB sB) 0 0) 2), .ref (am 3 0), .ref (am 4 0), .ref (am 5 0), .ref (am 6 0), .ref (am 7 0), .ref (am 8 0), .ref (am 9 0), .ref (am 10 0), .ref (am 11 0), .ref (am 12 0), .ref (am 13 0), vI (((bM m cB v1 tB sB) 0 0) 14), .ref (am 15 0), .ref (am 16 0), .ref (am 17 0), .ref (am 18 0), .ref (am 19 0), .ref (am 20 0), .ref (am 21 0), .ref (am 22 0), .ref (am 23 0), .ref (am 24 0), .ref (am 25 0), .ref (am 26 0), .ref (am 27 0), .ref (am 28 0), .ref (am 29 0), vI (((((bM m cB v1 tB sB) 0 0) 30).toNat : Nat) : Int), vI cB, vI 0, vI ((tB : Nat) : Int), vI sB, .ref (am 35 0), .ref (am 36 0), .ref (am 37 0)]) := by rw [e229]; exact hu_s
                        refine x_vret C G dX8_moves_269 ?_ (by decide) (by decide)
                        have cp231 : MP D am h (cu (bM m cB v1 tB sB) 0 0 ((fu (fu (fu (fu ((bM m cB v1 tB sB) 0 0) 31 cB) 32 0) 33 ((tB : Nat) : Int)) 34 sB))) h228 := by rw [e229]; exact (MP.up hcp3 (lm0 (by decide)) ((fu (fu (fu (fu ((bM m cB v1 tB sB) 0 0) 31 cB) 32 0) 33 ((tB : Nat) : Int)) 34 sB)) rfl)
                        refine ⟨rfl, ?_⟩
                        have q9 := cp231
                        rw [bM_up] at q9
                        have hFv : F9 = (cB, 0, tB, sB) := by
                          rcases hI with ⟨i1, i2, i3⟩ | ⟨i1, i2, i3⟩ | ⟨i1, i2, i3, i4⟩
                          · obtain rfl : n = 0 := by omega
                            rw [i3]
                            first
                              | (exfalso; omega)
                              | (show (cB, (if v1 < 3 then v1 + 1 else 3), tB, sB) = _; first | rw [if_pos (by omega)] | rw [if_neg (by omega)])
                          · exfalso; omega
                          · rw [i4]
                            first
                              | (exfalso; omega)
                              | rw [if_pos (show 12 * by9 < 0 by omega)]
                              | (rw [if_neg (show ¬ 12 * by9 < 0 by omega)]
                                 have hb1 : by9 = 1 := by omega
                                 subst hb1
                                 have hsi := sol_in i3 (by omega)
                                 rw [hsi.2]
                                 unfold strK
                                 first
                                   | (rw [if_pos (by have q7 := hG (cB + 12 * 1).toNat; exact ⟨by assumption, by omega⟩)]; done)
                                   | (rw [if_neg (by intro q7; have q8 := q7.1; exact absurd q8 (by omega))]; rfl))
                        rw [hFv] at hF9
                        unfold mvM
                        rw [← hF9]
                        exact q9
                      · skip
                        have f232 : h1 (am 1 0) = some (eI D 3 (((bM m cB v1 tB sB) 1 0))) := hcp3.1.1 1 0 (lm0 (by decide))
                        have f233 : h1 (am 1 0) = some (eI D 3 (m 1 0)) := by have q9 := f232; exact q9
                        refine x_aload_n C dX8_moves_251 0 rfl ?_
                        refine x_get C (v := .ref (am 1 0)) f176 (T := TX8) rfl kX8_moves_1 1 (by decide) kX8_moves_5 rfl dX8_moves_252 ?_
                        refine x_iload C dX8_moves_255 6 rfl ?_
                        refine x_bipush C dX8_moves_257 6 (by decide) ?_
                        refine x_isub C dX8_moves_259 ?_
                        refine x_iald C f233 ⟨by omega, by omega⟩ (by decide) dX8_moves_260 ?_
                        have r234 := hSS (Int.toNat (((m 28 0) (Int.toNat (cB + 12))) - 6))
                        refine x_ineg C dX8_moves_261 ?_
                        refine x_goto (tgt := 266) C dX8_moves_262 (by decide) ?_
                        refine x_put C f176 (T := TX8) rfl tyX8_ok nmX8 kX8_moves_1 32 (by decide) kX8_moves_2 rfl (fs' := [vI (((bM m cB v1 tB sB) 0 0) 0), .ref (am 1 0), vI (((bM m cB v1 tB sB) 0 0) 2), .ref (am 3 0), .ref (am 4 0), .ref (am 5 0), .ref (am 6 0), .ref (am 7 0), .ref (am 8 0), .ref (am 9 0), .ref (am 10 0), .ref (am 11 0), .ref (am 12 0), .ref (am 13 0), vI (((bM m cB v1 tB sB) 0 0) 14), .ref (am 15 0), .ref (am 16 0), .ref (am 17 0), .ref (am 18 0), .ref (am 19 0), .ref (am 20 0), .ref (am 21 0), .ref (am 22 0), .ref (am 23 0), .ref (am 24 0), .ref (am 25 0), .ref (am 26 0), .ref (am 27 0), .ref (am 28 0), .ref (am 29 0), vI (((((bM m cB v1 tB sB) 0 0) 30).toNat : Nat) : Int), vI cB, vI (-((m 1 0) (Int.toNat (((m 28 0) (Int.toNat (cB + 12))) - 6)))), vI ((tB : Nat) : Int), vI sB, .ref (am 35 0), .ref (am 36 0), .ref (am 37 0)]) rfl rfl (by simp) rfl dX8_moves_266 (x_hn (fun h235 e236 => ?_))
                        have f237 : h235 (am 0 0) = some (eO 8 [vI (((bM m cB v1 tB sB) 0 0) 0), .ref (am 1 0), vI (((bM m cB v1 tB sB) 0 0) 2), .ref (am 3 0), .ref (am 4 0), .ref (am 5 0), .ref (am 6 0), .ref (am 7 0), .ref (am 8 0), .ref (am 9 0), .ref (am 10 0), .ref (am 11 0), .ref (am 12 0), .ref (am 13 0), vI (((bM m cB v1 tB sB) 0 0) 14), .ref (am 15 0), .ref (am 16 0), .ref (am 17 0), .ref (am 18 0), .ref (am 19 0), .ref (am 20 0), .ref (am 21 0), .ref (am 22 0), .ref (am 23 0), .ref (am 24 0), .ref (am 25 0), .ref (am 26 0), .ref (am 27 0), .ref (am 28 0), .ref (am 29 0), vI (((((bM m cB v1 tB sB) 0 0) 30).toNat : Nat) : Int), vI cB, vI (-((m 1 0) (Int.toNat (((m 28 0) (Int.toNat (cB + 12))) - 6)))), vI ((tB : Nat) : Int), vI sB, .ref (am 35 0), .ref (am 36 0), .ref (am 37 0)]) := by rw [e236]; exact hu_s
                        refine x_vret C G dX8_moves_269 ?_ (by decide) (by decide)
                        have cp238 : MP D am h (cu (bM m cB v1 tB sB) 0 0 ((fu (fu (fu (fu ((bM m cB v1 tB sB) 0 0) 31 cB) 32 (-((m 1 0) (Int.toNat (((m 28 0) (Int.toNat (cB + 12))) - 6))))) 33 ((tB : Nat) : Int)) 34 sB))) h235 := by rw [e236]; exact (MP.up hcp3 (lm0 (by decide)) ((fu (fu (fu (fu ((bM m cB v1 tB sB) 0 0) 31 cB) 32 (-((m 1 0) (Int.toNat (((m 28 0) (Int.toNat (cB + 12))) - 6))))) 33 ((tB : Nat) : Int)) 34 sB)) rfl)
                        refine ⟨rfl, ?_⟩
                        have q9 := cp238
                        rw [bM_up] at q9
                        have hFv : F9 = (cB, -((m 1 0) (Int.toNat (((m 28 0) (Int.toNat (cB + 12))) - 6))), tB, sB) := by
                          rcases hI with ⟨i1, i2, i3⟩ | ⟨i1, i2, i3⟩ | ⟨i1, i2, i3, i4⟩
                          · obtain rfl : n = 0 := by omega
                            rw [i3]
                            first
                              | (exfalso; omega)
                              | (show (cB, (if v1 < 3 then v1 + 1 else 3), tB, sB) = _; first | rw [if_pos (by omega)] | rw [if_neg (by omega)])
                          · exfalso; omega
                          · rw [i4]
                            first
                              | (exfalso; omega)
                              | rw [if_pos (show 12 * by9 < 0 by omega)]
                              | (rw [if_neg (show ¬ 12 * by9 < 0 by omega)]
                                 have hb1 : by9 = 1 := by omega
                                 subst hb1
                                 have hsi := sol_in i3 (by omega)
                                 rw [hsi.2]
                                 unfold strK
                                 first
                                   | (rw [if_pos (by have q7 := hG (cB + 12 * 1).toNat; exact ⟨by assumption, by omega⟩)]; done)
                                   | (rw [if_neg (by intro q7; have q8 := q7.1; exact absurd q8 (by omega))]; rfl))
                        rw [hFv] at hF9
                        unfold mvM
                        rw [← hF9]
                        exact q9
                    · skip
                      refine x_iload C dX8_moves_239 7 rfl ?_
                      refine x_goto (tgt := 266) C dX8_moves_241 (by decide) ?_
                      refine x_put C f176 (T := TX8) rfl tyX8_ok nmX8 kX8_moves_1 32 (by decide) kX8_moves_2 rfl (fs' := [vI (((bM m cB v1 tB sB) 0 0) 0), .ref (am 1 0), vI (((bM m cB v1 tB sB) 0 0) 2), .ref (am 3 0), .ref (am 4 0), .ref (am 5 0), .ref (am 6 0), .ref (am 7 0), .ref (am 8 0), .ref (am 9 0), .ref (am 10 0), .ref (am 11 0), .ref (am 12 0), .ref (am 13 0), vI (((bM m cB v1 tB sB) 0 0) 14), .ref (am 15 0), .ref (am 16 0), .ref (am 17 0), .ref (am 18 0), .ref (am 19 0), .ref (am 20 0), .ref (am 21 0), .ref (am 22 0), .ref (am 23 0), .ref (am 24 0), .ref (am 25 0), .ref (am 26 0), .ref (am 27 0), .ref (am 28 0), .ref (am 29 0), vI (((((bM m cB v1 tB sB) 0 0) 30).toNat : Nat) : Int), vI cB, vI 3, vI ((tB : Nat) : Int), vI sB, .ref (am 35 0), .ref (am 36 0), .ref (am 37 0)]) rfl rfl (by simp) rfl dX8_moves_266 (x_hn (fun h239 e240 => ?_))
                      have f241 : h239 (am 0 0) = some (eO 8 [vI (((bM m cB v1 tB sB) 0 0) 0), .ref (am 1 0), vI (((bM m cB v1 tB sB) 0 0) 2), .ref (am 3 0), .ref (am 4 0), .ref (am 5 0), .ref (am 6 0), .ref (am 7 0), .ref (am 8 0), .ref (am 9 0), .ref (am 10 0), .ref (am 11 0), .ref (am 12 0), .ref (am 13 0), vI (((bM m cB v1 tB sB) 0 0) 14), .ref (am 15 0), .ref (am 16 0), .ref (am 17 0), .ref (am 18 0), .ref (am 19 0), .ref (am 20 0), .ref (am 21 0), .ref (am 22 0), .ref (am 23 0), .ref (am 24 0), .ref (am 25 0), .ref (am 26 0), .ref (am 27 0), .ref (am 28 0), .ref (am 29 0), vI (((((bM m cB v1 tB sB) 0 0) 30).toNat : Nat) : Int), vI cB, vI 3, vI ((tB : Nat) : Int), vI sB, .ref (am 35 0), .ref (am 36 0), .ref (am 37 0)]) := by rw [e240]; exact hu_s
                      refine x_vret C G dX8_moves_269 ?_ (by decide) (by decide)
                      have cp242 : MP D am h (cu (bM m cB v1 tB sB) 0 0 ((fu (fu (fu (fu ((bM m cB v1 tB sB) 0 0) 31 cB) 32 3) 33 ((tB : Nat) : Int)) 34 sB))) h239 := by rw [e240]; exact (MP.up hcp3 (lm0 (by decide)) ((fu (fu (fu (fu ((bM m cB v1 tB sB) 0 0) 31 cB) 32 3) 33 ((tB : Nat) : Int)) 34 sB)) rfl)
                      refine ⟨rfl, ?_⟩
                      have q9 := cp242
                      rw [bM_up] at q9
                      have hFv : F9 = (cB, 3, tB, sB) := by
                        rcases hI with ⟨i1, i2, i3⟩ | ⟨i1, i2, i3⟩ | ⟨i1, i2, i3, i4⟩
                        · obtain rfl : n = 0 := by omega
                          rw [i3]
                          first
                            | (exfalso; omega)
                            | (show (cB, (if v1 < 3 then v1 + 1 else 3), tB, sB) = _; first | rw [if_pos (by omega)] | rw [if_neg (by omega)])
                        · exfalso; omega
                        · rw [i4]
                          first
                            | (exfalso; omega)
                            | rw [if_pos (show 12 * by9 < 0 by omega)]
                            | (rw [if_neg (show ¬ 12 * by9 < 0 by omega)]
                               have hb1 : by9 = 1 := by omega
                               subst hb1
                               have hsi := sol_in i3 (by omega)
                               rw [hsi.2]
                               unfold strK
                               first
                                 | (rw [if_pos (by have q7 := hG (cB + 12 * 1).toNat; exact ⟨by assumption, by omega⟩)]; done)
                                 | (rw [if_neg (by intro q7; have q8 := q7.1; exact absurd q8 (by omega))]; rfl))
                      rw [hFv] at hF9
                      unfold mvM
                      rw [← hF9]
                      exact q9
                  · skip
                    refine x_aload_n C dX8_moves_221 0 rfl ?_
                    refine x_get C (v := vI v1) f176 (T := TX8) rfl kX8_moves_1 32 (by decide) kX8_moves_2 rfl dX8_moves_222 ?_
                    refine x_iconst C dX8_moves_225 1 (by decide) ?_
                    refine x_iadd C dX8_moves_226 ?_
                    refine x_goto (tgt := 231) C dX8_moves_227 (by decide) ?_
                    refine x_istore C (ls' := [(0, .ref (am 0 0)), (1, vI z), (2, vI (cB % 12)), (3, vI w9), (4, vI by9), (5, vI st9), (6, vI ((m 28 0) (Int.toNat (cB + 12)))), (7, vI (v1 + 1))]) dX8_moves_231 (by decide) rfl ?_
                    refine x_aload_n C dX8_moves_233 0 rfl ?_
                    refine x_iload C dX8_moves_234 5 rfl ?_
                    refine x_if_ne (tgt := 244) C dX8_moves_236 (by decide) (by omega) (fun c243 => ?_) (fun c243 => ?_)
                    · skip
                      refine x_iload C dX8_moves_244 6 rfl ?_
                      refine x_bipush C dX8_moves_246 6 (by decide) ?_
                      refine x_icmp_lt (tgt := 265) C dX8_moves_248 (by decide) (by omega) (by omega) (fun c244 => ?_) (fun c244 => ?_)
                      · skip
                        refine x_iconst C dX8_moves_265 0 (by decide) ?_
                        refine x_put C f176 (T := TX8) rfl tyX8_ok nmX8 kX8_moves_1 32 (by decide) kX8_moves_2 rfl (fs' := [vI (((bM m cB v1 tB sB) 0 0) 0), .ref (am 1 0), vI (((bM m cB v1 tB sB) 0 0) 2), .ref (am 3 0), .ref (am 4 0), .ref (am 5 0), .ref (am 6 0), .ref (am 7 0), .ref (am 8 0), .ref (am 9 0), .ref (am 10 0), .ref (am 11 0), .ref (am 12 0), .ref (am 13 0), vI (((bM m cB v1 tB sB) 0 0) 14), .ref (am 15 0), .ref (am 16 0), .ref (am 17 0), .ref (am 18 0), .ref (am 19 0), .ref (am 20 0), .ref (am 21 0), .ref (am 22 0), .ref (am 23 0), .ref (am 24 0), .ref (am 25 0), .ref (am 26 0), .ref (am 27 0), .ref (am 28 0), .ref (am 29 0), vI (((((bM m cB v1 tB sB) 0 0) 30).toNat : Nat) : Int), vI cB, vI 0, vI ((tB : Nat) : Int), vI sB, .ref (am 35 0), .ref (am 36 0), .ref (am 37 0)]) rfl rfl (by simp) rfl dX8_moves_266 (x_hn (fun h245 e246 => ?_))
                        have f247 : h245 (am 0 0) = some (eO 8 [vI (((bM m cB v1 tB sB) 0 0) 0), .ref (am 1 0), vI (((bM m cB v1 tB sB) 0 0) 2), .ref (am 3 0), .ref (am 4 0), .ref (am 5 0), .ref (am 6 0), .ref (am 7 0), .ref (am 8 0), .ref (am 9 0), .ref (am 10 0), .ref (am 11 0), .ref (am 12 0), .ref (am 13 0), vI (((bM m cB v1 tB sB) 0 0) 14), .ref (am 15 0), .ref (am 16 0), .ref (am 17 0), .ref (am 18 0), .ref (am 19 0), .ref (am 20 0), .ref (am 21 0), .ref (am 22 0), .ref (am 23 0), .ref (am 24 0), .ref (am 25 0), .ref (am 26 0), .ref (am 27 0), .ref (am 28 0), .ref (am 29 0), vI (((((bM m cB v1 tB sB) 0 0) 30).toNat : Nat) : Int), vI cB, vI 0, vI ((tB : Nat) : Int), vI sB, .ref (am 35 0), .ref (am 36 0), .ref (am 37 0)]) := by rw [e246]; exact hu_s
                        refine x_vret C G dX8_moves_269 ?_ (by decide) (by decide)
                        have cp248 : MP D am h (cu (bM m cB v1 tB sB) 0 0 ((fu (fu (fu (fu ((bM m cB v1 tB sB) 0 0) 31 cB) 32 0) 33 ((tB : Nat) : Int)) 34 sB))) h245 := by rw [e246]; exact (MP.up hcp3 (lm0 (by decide)) ((fu (fu (fu (fu ((bM m cB v1 tB sB) 0 0) 31 cB) 32 0) 33 ((tB : Nat) : Int)) 34 sB)) rfl)
                        refine ⟨rfl, ?_⟩
                        have q9 := cp248
                        rw [bM_up] at q9
                        have hFv : F9 = (cB, 0, tB, sB) := by
                          rcases hI with ⟨i1, i2, i3⟩ | ⟨i1, i2, i3⟩ | ⟨i1, i2, i3, i4⟩
                          · obtain rfl : n = 0 := by omega
                            rw [i3]
                            first
                              | (exfalso; omega)
                              | (show (cB, (if v1 < 3 then v1 + 1 else 3), tB, sB) = _; first | rw [if_pos (by omega)] | rw [if_neg (by omega)])
                          · exfalso; omega
                          · rw [i4]
                            first
                              | (exfalso; omega)
                              | rw [if_pos (show 12 * by9 < 0 by omega)]
                              | (rw [if_neg (show ¬ 12 * by9 < 0 by omega)]
                                 have hb1 : by9 = 1 := by omega
                                 subst hb1
                                 have hsi := sol_in i3 (by omega)
                                 rw [hsi.2]
                                 unfold strK
                                 first
                                   | (rw [if_pos (by have q7 := hG (cB + 12 * 1).toNat; exact ⟨by assumption, by omega⟩)]; done)
                                   | (rw [if_neg (by intro q7; have q8 := q7.1; exact absurd q8 (by omega))]; rfl))
                        rw [hFv] at hF9
                        unfold mvM
                        rw [← hF9]
                        exact q9
                      · skip
                        have f249 : h1 (am 1 0) = some (eI D 3 (((bM m cB v1 tB sB) 1 0))) := hcp3.1.1 1 0 (lm0 (by decide))
                        have f250 : h1 (am 1 0) = some (eI D 3 (m 1 0)) := by have q9 := f249; exact q9
                        refine x_aload_n C dX8_moves_251 0 rfl ?_
                        refine x_get C (v := .ref (am 1 0)) f176 (T := TX8) rfl kX8_moves_1 1 (by decide) kX8_moves_5 rfl dX8_moves_252 ?_
                        refine x_iload C dX8_moves_255 6 rfl ?_
                        refine x_bipush C dX8_moves_257 6 (by decide) ?_
                        refine x_isub C dX8_moves_259 ?_
                        refine x_iald C f250 ⟨by omega, by omega⟩ (by decide) dX8_moves_260 ?_
                        have r251 := hSS (Int.toNat (((m 28 0) (Int.toNat (cB + 12))) - 6))
                        refine x_ineg C dX8_moves_261 ?_
                        refine x_goto (tgt := 266) C dX8_moves_262 (by decide) ?_
                        refine x_put C f176 (T := TX8) rfl tyX8_ok nmX8 kX8_moves_1 32 (by decide) kX8_moves_2 rfl (fs' := [vI (((bM m cB v1 tB sB) 0 0) 0), .ref (am 1 0), vI (((bM m cB v1 tB sB) 0 0) 2), .ref (am 3 0), .ref (am 4 0), .ref (am 5 0), .ref (am 6 0), .ref (am 7 0), .ref (am 8 0), .ref (am 9 0), .ref (am 10 0), .ref (am 11 0), .ref (am 12 0), .ref (am 13 0), vI (((bM m cB v1 tB sB) 0 0) 14), .ref (am 15 0), .ref (am 16 0), .ref (am 17 0), .ref (am 18 0), .ref (am 19 0), .ref (am 20 0), .ref (am 21 0), .ref (am 22 0), .ref (am 23 0), .ref (am 24 0), .ref (am 25 0), .ref (am 26 0), .ref (am 27 0), .ref (am 28 0), .ref (am 29 0), vI (((((bM m cB v1 tB sB) 0 0) 30).toNat : Nat) : Int), vI cB, vI (-((m 1 0) (Int.toNat (((m 28 0) (Int.toNat (cB + 12))) - 6)))), vI ((tB : Nat) : Int), vI sB, .ref (am 35 0), .ref (am 36 0), .ref (am 37 0)]) rfl rfl (by simp) rfl dX8_moves_266 (x_hn (fun h252 e253 => ?_))
                        have f254 : h252 (am 0 0) = some (eO 8 [vI (((bM m cB v1 tB sB) 0 0) 0), .ref (am 1 0), vI (((bM m cB v1 tB sB) 0 0) 2), .ref (am 3 0), .ref (am 4 0), .ref (am 5 0), .ref (am 6 0), .ref (am 7 0), .ref (am 8 0), .ref (am 9 0), .ref (am 10 0), .ref (am 11 0), .ref (am 12 0), .ref (am 13 0), vI (((bM m cB v1 tB sB) 0 0) 14), .ref (am 15 0), .ref (am 16 0), .ref (am 17 0), .ref (am 18 0), .ref (am 19 0), .ref (am 20 0), .ref (am 21 0), .ref (am 22 0), .ref (am 23 0), .ref (am 24 0), .ref (am 25 0), .ref (am 26 0), .ref (am 27 0), .ref (am 28 0), .ref (am 29 0), vI (((((bM m cB v1 tB sB) 0 0) 30).toNat : Nat) : Int), vI cB, vI (-((m 1 0) (Int.toNat (((m 28 0) (Int.toNat (cB + 12))) - 6)))), vI ((tB : Nat) : Int), vI sB, .ref (am 35 0), .ref (am 36 0), .ref (am 37 0)]) := by rw [e253]; exact hu_s
                        refine x_vret C G dX8_moves_269 ?_ (by decide) (by decide)
                        have cp255 : MP D am h (cu (bM m cB v1 tB sB) 0 0 ((fu (fu (fu (fu ((bM m cB v1 tB sB) 0 0) 31 cB) 32 (-((m 1 0) (Int.toNat (((m 28 0) (Int.toNat (cB + 12))) - 6))))) 33 ((tB : Nat) : Int)) 34 sB))) h252 := by rw [e253]; exact (MP.up hcp3 (lm0 (by decide)) ((fu (fu (fu (fu ((bM m cB v1 tB sB) 0 0) 31 cB) 32 (-((m 1 0) (Int.toNat (((m 28 0) (Int.toNat (cB + 12))) - 6))))) 33 ((tB : Nat) : Int)) 34 sB)) rfl)
                        refine ⟨rfl, ?_⟩
                        have q9 := cp255
                        rw [bM_up] at q9
                        have hFv : F9 = (cB, -((m 1 0) (Int.toNat (((m 28 0) (Int.toNat (cB + 12))) - 6))), tB, sB) := by
                          rcases hI with ⟨i1, i2, i3⟩ | ⟨i1, i2, i3⟩ | ⟨i1, i2, i3, i4⟩
                          · obtain rfl : n = 0 := by omega
                            rw [i3]
                            first
                              | (exfalso; omega)
                              | (show (cB, (if v1 < 3 then v1 + 1 else 3), tB, sB) = _; first | rw [if_pos (by omega)] | rw [if_neg (by omega)])
                          · exfalso; omega
                          · rw [i4]
                            first
                              | (exfalso; omega)
                              | rw [if_pos (show 12 * by9 < 0 by omega)]
                              | (rw [if_neg (show ¬ 12 * by9 < 0 by omega)]
                                 have hb1 : by9 = 1 := by omega
                                 subst hb1
                                 have hsi := sol_in i3 (by omega)
                                 rw [hsi.2]
                                 unfold strK
                                 first
                                   | (rw [if_pos (by have q7 := hG (cB + 12 * 1).toNat; exact ⟨by assumption, by omega⟩)]; done)
                                   | (rw [if_neg (by intro q7; have q8 := q7.1; exact absurd q8 (by omega))]; rfl))
                        rw [hFv] at hF9
                        unfold mvM
                        rw [← hF9]
                        exact q9
                    · skip
                      refine x_iload C dX8_moves_239 7 rfl ?_
                      refine x_goto (tgt := 266) C dX8_moves_241 (by decide) ?_
                      refine x_put C f176 (T := TX8) rfl tyX8_ok nmX8 kX8_moves_1 32 (by decide) kX8_moves_2 rfl (fs' := [vI (((bM m cB v1 tB sB) 0 0) 0), .ref (am 1 0), vI (((bM m cB v1 tB sB) 0 0) 2), .ref (am 3 0), .ref (am 4 0), .ref (am 5 0), .ref (am 6 0), .ref (am 7 0), .ref (am 8 0), .ref (am 9 0), .ref (am 10 0), .ref (am 11 0), .ref (am 12 0), .ref (am 13 0), vI (((bM m cB v1 tB sB) 0 0) 14), .ref (am 15 0), .ref (am 16 0), .ref (am 17 0), .ref (am 18 0), .ref (am 19 0), .ref (am 20 0), .ref (am 21 0), .ref (am 22 0), .ref (am 23 0), .ref (am 24 0), .ref (am 25 0), .ref (am 26 0), .ref (am 27 0), .ref (am 28 0), .ref (am 29 0), vI (((((bM m cB v1 tB sB) 0 0) 30).toNat : Nat) : Int), vI cB, vI (v1 + 1), vI ((tB : Nat) : Int), vI sB, .ref (am 35 0), .ref (am 36 0), .ref (am 37 0)]) rfl rfl (by simp) rfl dX8_moves_266 (x_hn (fun h256 e257 => ?_))
                      have f258 : h256 (am 0 0) = some (eO 8 [vI (((bM m cB v1 tB sB) 0 0) 0), .ref (am 1 0), vI (((bM m cB v1 tB sB) 0 0) 2), .ref (am 3 0), .ref (am 4 0), .ref (am 5 0), .ref (am 6 0), .ref (am 7 0), .ref (am 8 0), .ref (am 9 0), .ref (am 10 0), .ref (am 11 0), .ref (am 12 0), .ref (am 13 0), vI (((bM m cB v1 tB sB) 0 0) 14), .ref (am 15 0), .ref (am 16 0), .ref (am 17 0), .ref (am 18 0), .ref (am 19 0), .ref (am 20 0), .ref (am 21 0), .ref (am 22 0), .ref (am 23 0), .ref (am 24 0), .ref (am 25 0), .ref (am 26 0), .ref (am 27 0), .ref (am 28 0), .ref (am 29 0), vI (((((bM m cB v1 tB sB) 0 0) 30).toNat : Nat) : Int), vI cB, vI (v1 + 1), vI ((tB : Nat) : Int), vI sB, .ref (am 35 0), .ref (am 36 0), .ref (am 37 0)]) := by rw [e257]; exact hu_s
                      refine x_vret C G dX8_moves_269 ?_ (by decide) (by decide)
                      have cp259 : MP D am h (cu (bM m cB v1 tB sB) 0 0 ((fu (fu (fu (fu ((bM m cB v1 tB sB) 0 0) 31 cB) 32 (v1 + 1)) 33 ((tB : Nat) : Int)) 34 sB))) h256 := by rw [e257]; exact (MP.up hcp3 (lm0 (by decide)) ((fu (fu (fu (fu ((bM m cB v1 tB sB) 0 0) 31 cB) 32 (v1 + 1)) 33 ((tB : Nat) : Int)) 34 sB)) rfl)
                      refine ⟨rfl, ?_⟩
                      have q9 := cp259
                      rw [bM_up] at q9
                      have hFv : F9 = (cB, v1 + 1, tB, sB) := by
                        rcases hI with ⟨i1, i2, i3⟩ | ⟨i1, i2, i3⟩ | ⟨i1, i2, i3, i4⟩
                        · obtain rfl : n = 0 := by omega
                          rw [i3]
                          first
                            | (exfalso; omega)
                            | (show (cB, (if v1 < 3 then v1 + 1 else 3), tB, sB) = _; first | rw [if_pos (by omega)] | rw [if_neg (by omega)])
                        · exfalso; omega
                        · rw [i4]
                          first
                            | (exfalso; omega)
                            | rw [if_pos (show 12 * by9 < 0 by omega)]
                            | (rw [if_neg (show ¬ 12 * by9 < 0 by omega)]
                               have hb1 : by9 = 1 := by omega
                               subst hb1
                               have hsi := sol_in i3 (by omega)
                               rw [hsi.2]
                               unfold strK
                               first
                                 | (rw [if_pos (by have q7 := hG (cB + 12 * 1).toNat; exact ⟨by assumption, by omega⟩)]; done)
                                 | (rw [if_neg (by intro q7; have q8 := q7.1; exact absurd q8 (by omega))]; rfl))
                      rw [hFv] at hF9
                      unfold mvM
                      rw [← hF9]
                      exact q9
            · skip
              refine x_vret C G dX8_moves_184 ?_ (by decide) (by decide)
              refine ⟨rfl, ?_⟩
              rcases hI with ⟨i1, i2, i3⟩ | ⟨i1, i2, i3⟩ | ⟨i1, i2, i3, i4⟩
              · exfalso; omega
              · rw [i3] at hF9
                unfold mvM
                rw [← hF9]
                exact hcp3
              · exfalso; omega
          · skip
            refine x_aload_n C dX8_moves_133 0 rfl ?_
            refine x_iload_n C dX8_moves_134 2 rfl ?_
            refine x_aload_n C dX8_moves_135 0 rfl ?_
            refine x_get C (v := vI cB) f89 (T := TX8) rfl kX8_moves_1 31 (by decide) kX8_moves_4 rfl dX8_moves_136 ?_
            refine x_bipush C dX8_moves_139 12 (by decide) ?_
            refine x_idiv C dX8_moves_141 (by omega) (by omega) (by omega) (by omega) ?_
            refine x_iload C dX8_moves_142 4 rfl ?_
            refine x_iadd C dX8_moves_144 ?_
            refine x_callV C (n := 2) (qc := (RX8, TX8, 38)) (As := [vI (cB % 12), vI ((cB / 12) + by9)]) (rest := []) (c_X8_isSolid (hcp3.1) (by omega) (by omega) (hG) (hT8) (hal)) gX8_moves_X8_isSolid (by decide +kernel) f89 rfl rfl rfl rfl (Nat.le_of_ble_eq_true rfl) ⟨by decide, by decide⟩ ⟨(by decide), (by decide)⟩ dX8_moves_145 (fun rv260 h261 hp262 => ?_)
            obtain ⟨rfl, e263⟩ := hp262
            obtain rfl := e263.symm
            have hbr := bI_01 (¬ (0 ≤ (cB % 12) ∧ (cB % 12) ≤ 11) ∨ sol (((bM m cB v1 tB sB)) 28 0) (((bM m cB v1 tB sB)) 0 0 30).toNat (((bM m cB v1 tB sB)) 0 0 33).toNat (12 * ((cB / 12) + by9) + (cB % 12)))
            refine x_istore C (ls' := [(0, .ref (am 0 0)), (1, vI z), (2, vI (cB % 12)), (3, vI w9), (4, vI by9), (5, vI (bI (¬ (0 ≤ (cB % 12) ∧ (cB % 12) ≤ 11) ∨ sol (((bM m cB v1 tB sB)) 28 0) (((bM m cB v1 tB sB)) 0 0 30).toNat (((bM m cB v1 tB sB)) 0 0 33).toNat (12 * ((cB / 12) + by9) + (cB % 12))))), (6, vI ((n : Nat) : Int))]) dX8_moves_148 (by decide) rfl ?_
            refine x_iload C dX8_moves_150 5 rfl ?_
            refine x_if_ne (tgt := 170) C dX8_moves_152 (by decide) (by omega) (fun c264 => ?_) (fun c264 => ?_)
            · skip
              have hsoo : sol (m 28 0) (m 0 0 30).toNat tB (12 * (cB / 12 + by9) + cB % 12) := by
                  rcases bI_ne.mp c264 with q8 | q8
                  · exact absurd (show 0 ≤ cB % 12 ∧ cB % 12 ≤ 11 by omega) q8
                  · exact q8
              refine x_iinc C (x := ((n : Nat) : Int)) (ls' := [(0, .ref (am 0 0)), (1, vI z), (2, vI (cB % 12)), (3, vI w9), (4, vI by9), (5, vI (bI (¬ (0 ≤ (cB % 12) ∧ (cB % 12) ≤ 11) ∨ sol (((bM m cB v1 tB sB)) 28 0) (((bM m cB v1 tB sB)) 0 0 30).toNat (((bM m cB v1 tB sB)) 0 0 33).toNat (12 * ((cB / 12) + by9) + (cB % 12))))), (6, vI ((((n : Nat) : Int)) + (-1)))]) dX8_moves_170 6 rfl (by decide) rfl ?_
              refine x_goto (tgt := 115) C dX8_moves_173 (by decide) ?_
              rw [show ((n : Nat) : Int) + (-1) = ((n - 1 : Nat) : Int) by omega]
              rcases hI with ⟨i1, i2, i3⟩ | ⟨i1, i2, i3⟩ | ⟨i1, i2, i3, i4⟩
              · skip
                have hso : sol (m 28 0) (m 0 0 30).toNat tB (cB + 12 * by9) := by
                  rw [show cB + 12 * by9 = 12 * (cB / 12 + by9) + cB % 12 by omega]; exact hsoo
                have hst1 : bI (¬ (0 ≤ (cB % 12) ∧ (cB % 12) ≤ 11) ∨ sol (((bM m cB v1 tB sB)) 28 0) (((bM m cB v1 tB sB)) 0 0 30).toNat (((bM m cB v1 tB sB)) 0 0 33).toNat (12 * ((cB / 12) + by9) + (cB % 12))) = 1 := by omega
                rw [hst1]
                obtain ⟨n9, rfl⟩ : ∃ n9, n = n9 + 1 := ⟨n - 1, by omega⟩
                have hvt : vt (m 28 0) (KBm m) (m 0 0 30).toNat (m 1 0) (12 * by9) v1 (n9 + 1) (cB, tB, sB) = (cB, if 12 * by9 < 0 then 0 else - strK (m 1 0) (kAt (m 28 0) (cB + 12 * by9)), tB, sB) := if_pos hso
                refine x_widen (m1 := 0) (m2 := 0) (by first | omega | (dsimp only; omega)) (by first | omega | (dsimp only; omega)) ?_
                exact ihLV v1 w9 cB sB by9 1 tB (n9 + 1 - 1) F9 h1 (hvr) (hF9) (by omega) (hby) (hx2) (hb2) (Or.inr (Or.inr ⟨rfl, i2, hso, i3.trans hvt⟩)) (by omega) (hcp3)
              · exfalso; omega
              · exfalso; omega
            · skip
              have hnso : ¬ sol (m 28 0) (m 0 0 30).toNat tB (12 * (cB / 12 + by9) + cB % 12) := fun z9 => absurd c264 (bI_ne.mpr (Or.inr z9))
              refine x_aload_n C dX8_moves_155 0 rfl ?_
              refine x_iload_n C dX8_moves_156 2 rfl ?_
              refine x_aload_n C dX8_moves_157 0 rfl ?_
              refine x_get C (v := vI cB) f89 (T := TX8) rfl kX8_moves_1 31 (by decide) kX8_moves_4 rfl dX8_moves_158 ?_
              refine x_bipush C dX8_moves_161 12 (by decide) ?_
              refine x_idiv C dX8_moves_163 (by omega) (by omega) (by omega) (by omega) ?_
              refine x_iload C dX8_moves_164 4 rfl ?_
              refine x_iadd C dX8_moves_166 ?_
              refine x_callV C (n := 2) (qc := (RX8, TX8, 38)) (As := [vI (cB % 12), vI ((cB / 12) + by9)]) (rest := []) (c_X8_comes (hcp3.1) (by omega) (⟨by have q9 := sol_lo hnso; omega, by omega⟩) (hG) (hKB) (hT8)) gX8_moves_X8_comes (by decide +kernel) f89 rfl rfl rfl rfl (Nat.le_of_ble_eq_true rfl) ⟨by decide, by decide⟩ ⟨(by decide), (by decide)⟩ dX8_moves_167 (fun rv265 h266 hp267 => ?_)
              obtain ⟨rfl, cp269⟩ := hp267
              have cp270 : MP D am h (bdM ((bM m cB v1 tB sB)) (cm (((bM m cB v1 tB sB)) 28 0) (KBm ((bM m cB v1 tB sB))) (12 * ((cB / 12) + by9) + (cB % 12)) (((bM m cB v1 tB sB)) 0 0 31, (((bM m cB v1 tB sB)) 0 0 33).toNat, 1))) h266 := MP.trans hcp3 cp269
              refine x_iinc C (x := ((n : Nat) : Int)) (ls' := [(0, .ref (am 0 0)), (1, vI z), (2, vI (cB % 12)), (3, vI w9), (4, vI by9), (5, vI (bI (¬ (0 ≤ (cB % 12) ∧ (cB % 12) ≤ 11) ∨ sol (((bM m cB v1 tB sB)) 28 0) (((bM m cB v1 tB sB)) 0 0 30).toNat (((bM m cB v1 tB sB)) 0 0 33).toNat (12 * ((cB / 12) + by9) + (cB % 12))))), (6, vI ((((n : Nat) : Int)) + (-1)))]) dX8_moves_170 6 rfl (by decide) rfl ?_
              refine x_goto (tgt := 115) C dX8_moves_173 (by decide) ?_
              rw [show ((n : Nat) : Int) + (-1) = ((n - 1 : Nat) : Int) by omega]
              rcases hI with ⟨i1, i2, i3⟩ | ⟨i1, i2, i3⟩ | ⟨i1, i2, i3, i4⟩
              · skip
                have hns : ¬ sol (m 28 0) (m 0 0 30).toNat tB (cB + 12 * by9) := fun z9 => hnso (by rw [show 12 * (cB / 12 + by9) + cB % 12 = cB + 12 * by9 by omega]; exact z9)
                have hcm : (cm (m 28 0) (KBm m) (cB + 12 * by9) (cB, tB, 1)).1 % 12 = cB % 12 := by unfold cm; split <;> (dsimp only; omega)
                rw [← hcm]
                obtain ⟨n9, rfl⟩ : ∃ n9, n = n9 + 1 := ⟨n - 1, by omega⟩
                have hst0 : bI (¬ (0 ≤ (cB % 12) ∧ (cB % 12) ≤ 11) ∨ sol (((bM m cB v1 tB sB)) 28 0) (((bM m cB v1 tB sB)) 0 0 30).toNat (((bM m cB v1 tB sB)) 0 0 33).toNat (12 * ((cB / 12) + by9) + (cB % 12))) = 0 := by assumption
                rw [hst0]
                have hvt : vt (m 28 0) (KBm m) (m 0 0 30).toNat (m 1 0) (12 * by9) v1 (n9 + 1) (cB, tB, sB) = if (cm (m 28 0) (KBm m) (cB + 12 * by9) (cB, tB, 1)).2.2 = 1 then vt (m 28 0) (KBm m) (m 0 0 30).toNat (m 1 0) (12 * by9) v1 n9 (cm (m 28 0) (KBm m) (cB + 12 * by9) (cB, tB, 1)) else ((cm (m 28 0) (KBm m) (cB + 12 * by9) (cB, tB, 1)).1, v1, (cm (m 28 0) (KBm m) (cB + 12 * by9) (cB, tB, 1)).2.1, (cm (m 28 0) (KBm m) (cB + 12 * by9) (cB, tB, 1)).2.2) := by
                  rw [i2]
                  exact if_neg hns
                have hI9 : ((0 : Int) = 0 ∧ (cm (m 28 0) (KBm m) (cB + 12 * by9) (cB, tB, 1)).2.2 = 1 ∧ F9 = vt (m 28 0) (KBm m) (m 0 0 30).toNat (m 1 0) (12 * by9) v1 (n9 + 1 - 1) (cm (m 28 0) (KBm m) (cB + 12 * by9) (cB, tB, 1))) ∨ ((0 : Int) = 0 ∧ (cm (m 28 0) (KBm m) (cB + 12 * by9) (cB, tB, 1)).2.2 ≠ 1 ∧ F9 = ((cm (m 28 0) (KBm m) (cB + 12 * by9) (cB, tB, 1)).1, v1, (cm (m 28 0) (KBm m) (cB + 12 * by9) (cB, tB, 1)).2.1, (cm (m 28 0) (KBm m) (cB + 12 * by9) (cB, tB, 1)).2.2)) ∨ ((0 : Int) = 1 ∧ (cm (m 28 0) (KBm m) (cB + 12 * by9) (cB, tB, 1)).2.2 = 1 ∧ sol (m 28 0) (m 0 0 30).toNat (cm (m 28 0) (KBm m) (cB + 12 * by9) (cB, tB, 1)).2.1 ((cm (m 28 0) (KBm m) (cB + 12 * by9) (cB, tB, 1)).1 + 12 * by9) ∧ F9 = ((cm (m 28 0) (KBm m) (cB + 12 * by9) (cB, tB, 1)).1, if 12 * by9 < 0 then 0 else - strK (m 1 0) (kAt (m 28 0) ((cm (m 28 0) (KBm m) (cB + 12 * by9) (cB, tB, 1)).1 + 12 * by9)), (cm (m 28 0) (KBm m) (cB + 12 * by9) (cB, tB, 1)).2.1, (cm (m 28 0) (KBm m) (cB + 12 * by9) (cB, tB, 1)).2.2)) := by
                  by_cases q : (cm (m 28 0) (KBm m) (cB + 12 * by9) (cB, tB, 1)).2.2 = 1
                  · rw [if_pos q] at hvt; exact Or.inl ⟨rfl, q, i3.trans hvt⟩
                  · rw [if_neg q] at hvt; exact Or.inr (Or.inl ⟨rfl, q, i3.trans hvt⟩)
                refine x_widen (m1 := 0) (m2 := 0) (by first | omega | (dsimp only; omega)) (by first | omega | (dsimp only; omega)) ?_
                exact ihLV v1 w9 ((cm (m 28 0) (KBm m) (cB + 12 * by9) (cB, tB, 1)).1) ((cm (m 28 0) (KBm m) (cB + 12 * by9) (cB, tB, 1)).2.2) by9 0 ((cm (m 28 0) (KBm m) (cB + 12 * by9) (cB, tB, 1)).2.1) (n9 + 1 - 1) F9 h266 (hvr) (hF9) (by omega) (hby) (cm_r hBr (by rw [show sB = 1 from i2] at hx2; exact hx2)) (cm_b3 (x := (cB, tB, 1)) (Or.inl rfl)) (hI9) (by omega) (by have q9 := cp270; rw [bM_bd, show 12 * (cB / 12 + by9) + cB % 12 = cB + 12 * by9 by omega] at q9; exact q9)
              · exfalso; omega
              · exfalso; omega
  have SDD : ∀ (v1 cA sA w9 : Int) (tA : Nat) (h271 : vh)   (hv1 : v1 = (sv (m 28 0) (m 0 0 30).toNat z (m 0 0 31) (m 0 0 32) (m 0 0 33).toNat)) (hx : (cA, tA, sA) = (sd (m 28 0) (KBm m) (m 0 0 30).toNat (z % 3 - 1) ((m 0 0 31), (m 0 0 33).toNat, 1))) (hcp2 : MP D am h (bM m cA v1 tA sA) h271), X κ 0 0 h271 [(0, .ref (am 0 0)), (1, vI z), (2, vI (cA % 12)), (3, vI w9)] 89 [] := by
    intro v1 cA sA w9 tA h271 hv1 hx hcp2
    rw [← hv1] at hv9
    have hbX : bX (cA, tA, sA) := by rw [hx]; exact sd_r hBr ⟨hc.1, hc.2, show (m 0 0 33).toNat < 8 by omega, show (0 : Int) ≤ 1 by decide, show (1 : Int) ≤ 4 by decide⟩
    have hb3 : b3 (cA, tA, sA) := by rw [hx]; exact sd_b3 (Or.inl rfl)
    obtain ⟨x1, x2, x3, x4, x5⟩ := id hbX
    dsimp only at x1 x2 x3 x4 x5
    obtain ⟨F9, hF9⟩ : ∃ F, F = (mv (m 28 0) (KBm m) (m 0 0 30).toNat (m 1 0) z (m 0 0 31) (m 0 0 32) (m 0 0 33).toNat) := ⟨_, rfl⟩
    have hF8 : F9 = if sA = 1 then vt (m 28 0) (KBm m) (m 0 0 30).toNat (m 1 0) (if v1 < 0 then -12 else 12) v1 (vab v1) (cA, tA, sA) else (cA, v1, tA, sA) := by
      rw [hF9]; unfold mv; rw [← hx, ← hv1]
    have f272 : h271 (am 0 0) = some (eO 8 [vI (((bM m cA v1 tA sA) 0 0) 0), .ref (am 1 0), vI (((bM m cA v1 tA sA) 0 0) 2), .ref (am 3 0), .ref (am 4 0), .ref (am 5 0), .ref (am 6 0), .ref (am 7 0), .ref (am 8 0), .ref (am 9 0), .ref (am 10 0), .ref (am 11 0), .ref (am 12 0), .ref (am 13 0), vI (((bM m cA v1 tA sA) 0 0) 14), .ref (am 15 0), .ref (am 16 0), .ref (am 17 0), .ref (am 18 0), .ref (am 19 0), .ref (am 20 0), .ref (am 21 0), .ref (am 22 0), .ref (am 23 0), .ref (am 24 0), .ref (am 25 0), .ref (am 26 0), .ref (am 27 0), .ref (am 28 0), .ref (am 29 0), vI (((((bM m cA v1 tA sA) 0 0) 30).toNat : Nat) : Int), vI (((bM m cA v1 tA sA) 0 0) 31), vI (((bM m cA v1 tA sA) 0 0) 32), vI (((((bM m cA v1 tA sA) 0 0) 33).toNat : Nat) : Int), vI (((bM m cA v1 tA sA) 0 0) 34), .ref (am 35 0), .ref (am 36 0), .ref (am 37 0)]) := hcp2.1.1 0 0 (lm0 (by decide))
    have f273 : h271 (am 0 0) = some (eO 8 [vI (((bM m cA v1 tA sA) 0 0) 0), .ref (am 1 0), vI (((bM m cA v1 tA sA) 0 0) 2), .ref (am 3 0), .ref (am 4 0), .ref (am 5 0), .ref (am 6 0), .ref (am 7 0), .ref (am 8 0), .ref (am 9 0), .ref (am 10 0), .ref (am 11 0), .ref (am 12 0), .ref (am 13 0), vI (((bM m cA v1 tA sA) 0 0) 14), .ref (am 15 0), .ref (am 16 0), .ref (am 17 0), .ref (am 18 0), .ref (am 19 0), .ref (am 20 0), .ref (am 21 0), .ref (am 22 0), .ref (am 23 0), .ref (am 24 0), .ref (am 25 0), .ref (am 26 0), .ref (am 27 0), .ref (am 28 0), .ref (am 29 0), vI (((((bM m cA v1 tA sA) 0 0) 30).toNat : Nat) : Int), vI cA, vI v1, vI ((tA : Nat) : Int), vI sA, .ref (am 35 0), .ref (am 36 0), .ref (am 37 0)]) := by have q9 := f272; exact q9
    refine x_aload_n C dX8_moves_89 0 rfl ?_
    refine x_get C (v := vI v1) f273 (T := TX8) rfl kX8_moves_1 32 (by decide) kX8_moves_2 rfl dX8_moves_90 ?_
    refine x_if_ge (tgt := 100) C dX8_moves_93 (by decide) (by omega) (fun c274 => ?_) (fun c274 => ?_)
    · skip
      refine x_iconst C dX8_moves_100 1 (by decide) ?_
      refine x_istore C (ls' := [(0, .ref (am 0 0)), (1, vI z), (2, vI (cA % 12)), (3, vI w9), (4, vI 1)]) dX8_moves_101 (by decide) rfl ?_
      refine x_iconst C dX8_moves_103 0 (by decide) ?_
      refine x_istore C (ls' := [(0, .ref (am 0 0)), (1, vI z), (2, vI (cA % 12)), (3, vI w9), (4, vI 1), (5, vI 0)]) dX8_moves_104 (by decide) rfl ?_
      refine x_aload_n C dX8_moves_106 0 rfl ?_
      refine x_get C (v := vI v1) f273 (T := TX8) rfl kX8_moves_1 32 (by decide) kX8_moves_2 rfl dX8_moves_107 ?_
      refine x_iload C dX8_moves_110 4 rfl ?_
      refine x_imul C dX8_moves_112 ?_
      refine x_topv (show v1 * 1 = ((vab v1 : Nat) : Int) from by unfold vab; split <;> omega) ?_
      refine x_istore C (ls' := [(0, .ref (am 0 0)), (1, vI z), (2, vI (cA % 12)), (3, vI w9), (4, vI 1), (5, vI 0), (6, vI ((vab v1 : Nat) : Int))]) dX8_moves_113 (by decide) rfl ?_
      exact LV (vab v1 + 1) v1 w9 cA sA 1 0 tA (n9 + 1 - 1) F9 h271 (hv9) (hF9) (by unfold vab; split <;> omega) (by omega) (hbX) (hb3) (by
    by_cases q : sA = 1
    · rw [if_pos q] at hF8
      refine Or.inl ⟨rfl, q, ?_⟩
      rw [hF8]
      first
        | rw [if_pos (by omega)]
        | rw [if_neg (by omega)]
      try rfl
    · rw [if_neg q] at hF8
      exact Or.inr (Or.inl ⟨rfl, q, hF8⟩)) (by omega) (hcp2)
    · skip
      refine x_iconst C dX8_moves_96 (-1) (by decide) ?_
      refine x_goto (tgt := 101) C dX8_moves_97 (by decide) ?_
      refine x_istore C (ls' := [(0, .ref (am 0 0)), (1, vI z), (2, vI (cA % 12)), (3, vI w9), (4, vI (-1))]) dX8_moves_101 (by decide) rfl ?_
      refine x_iconst C dX8_moves_103 0 (by decide) ?_
      refine x_istore C (ls' := [(0, .ref (am 0 0)), (1, vI z), (2, vI (cA % 12)), (3, vI w9), (4, vI (-1)), (5, vI 0)]) dX8_moves_104 (by decide) rfl ?_
      refine x_aload_n C dX8_moves_106 0 rfl ?_
      refine x_get C (v := vI v1) f273 (T := TX8) rfl kX8_moves_1 32 (by decide) kX8_moves_2 rfl dX8_moves_107 ?_
      refine x_iload C dX8_moves_110 4 rfl ?_
      refine x_imul C dX8_moves_112 ?_
      refine x_topv (show v1 * ((-1)) = ((vab v1 : Nat) : Int) from by unfold vab; split <;> omega) ?_
      refine x_istore C (ls' := [(0, .ref (am 0 0)), (1, vI z), (2, vI (cA % 12)), (3, vI w9), (4, vI (-1)), (5, vI 0), (6, vI ((vab v1 : Nat) : Int))]) dX8_moves_113 (by decide) rfl ?_
      exact LV (vab v1 + 1) v1 w9 cA sA ((-1)) 0 tA (n9 + 1 - 1) F9 h271 (hv9) (hF9) (by unfold vab; split <;> omega) (by omega) (hbX) (hb3) (by
    by_cases q : sA = 1
    · rw [if_pos q] at hF8
      refine Or.inl ⟨rfl, q, ?_⟩
      rw [hF8]
      first
        | rw [if_pos (by omega)]
        | rw [if_neg (by omega)]
      try rfl
    · rw [if_neg q] at hF8
      exact Or.inr (Or.inl ⟨rfl, q, hF8⟩)) (by omega) (hcp2)
  have ST : ∀ (v1 : Int) (h275 : vh)   (hv1 : v1 = (sv (m 28 0) (m 0 0 30).toNat z (m 0 0 31) (m 0 0 32) (m 0 0 33).toNat)) (hcp : MP D am h (bM m (m 0 0 31) v1 (m 0 0 33).toNat 1) h275), X κ 0 0 h275 [(0, .ref (am 0 0)), (1, vI z), (2, vI ((m 0 0 31) % 12))] 47 [] := by
    intro v1 h275 hv1 hcp
    rw [← hv1] at hv9
    refine x_iload_n C dX8_moves_47 2 rfl ?_
    refine x_iload_n C dX8_moves_48 1 rfl ?_
    refine x_iconst C dX8_moves_49 3 (by decide) ?_
    refine x_irem C dX8_moves_50 (by omega) (by omega) (by omega) (by omega) ?_
    refine x_iadd C dX8_moves_51 ?_
    refine x_iconst C dX8_moves_52 1 (by decide) ?_
    refine x_isub C dX8_moves_53 ?_
    refine x_istore_n C (ls' := [(0, .ref (am 0 0)), (1, vI z), (2, vI ((m 0 0 31) % 12)), (3, vI ((((m 0 0 31) % 12) + (z % 3)) - 1))]) dX8_moves_54 (by decide) rfl ?_
    refine x_iload_n C dX8_moves_55 3 rfl ?_
    refine x_iload_n C dX8_moves_56 2 rfl ?_
    refine x_icmp_eq (tgt := 89) C dX8_moves_57 (by decide) (by omega) (by omega) (fun c276 => ?_) (fun c276 => ?_)
    · skip
      have hsd : ¬ (z % 3 - 1 ≠ 0 ∧ 0 ≤ m 0 0 31 % 12 + (z % 3 - 1) ∧ m 0 0 31 % 12 + (z % 3 - 1) < 12 ∧ ¬ sol (m 28 0) (m 0 0 30).toNat (m 0 0 33).toNat (m 0 0 31 + (z % 3 - 1))) := fun z9 => by omega
      exact SDD v1 ((m 0 0 31)) 1 _ ((m 0 0 33).toNat) h275 (hv1) (by unfold sd; rw [if_neg hsd]) (hcp)
    · skip
      have f277 : h275 (am 0 0) = some (eO 8 [vI (((bM m (m 0 0 31) v1 (m 0 0 33).toNat 1) 0 0) 0), .ref (am 1 0), vI (((bM m (m 0 0 31) v1 (m 0 0 33).toNat 1) 0 0) 2), .ref (am 3 0), .ref (am 4 0), .ref (am 5 0), .ref (am 6 0), .ref (am 7 0), .ref (am 8 0), .ref (am 9 0), .ref (am 10 0), .ref (am 11 0), .ref (am 12 0), .ref (am 13 0), vI (((bM m (m 0 0 31) v1 (m 0 0 33).toNat 1) 0 0) 14), .ref (am 15 0), .ref (am 16 0), .ref (am 17 0), .ref (am 18 0), .ref (am 19 0), .ref (am 20 0), .ref (am 21 0), .ref (am 22 0), .ref (am 23 0), .ref (am 24 0), .ref (am 25 0), .ref (am 26 0), .ref (am 27 0), .ref (am 28 0), .ref (am 29 0), vI (((((bM m (m 0 0 31) v1 (m 0 0 33).toNat 1) 0 0) 30).toNat : Nat) : Int), vI (((bM m (m 0 0 31) v1 (m 0 0 33).toNat 1) 0 0) 31), vI (((bM m (m 0 0 31) v1 (m 0 0 33).toNat 1) 0 0) 32), vI (((((bM m (m 0 0 31) v1 (m 0 0 33).toNat 1) 0 0) 33).toNat : Nat) : Int), vI (((bM m (m 0 0 31) v1 (m 0 0 33).toNat 1) 0 0) 34), .ref (am 35 0), .ref (am 36 0), .ref (am 37 0)]) := hcp.1.1 0 0 (lm0 (by decide))
      have f278 : h275 (am 0 0) = some (eO 8 [vI (((bM m (m 0 0 31) v1 (m 0 0 33).toNat 1) 0 0) 0), .ref (am 1 0), vI (((bM m (m 0 0 31) v1 (m 0 0 33).toNat 1) 0 0) 2), .ref (am 3 0), .ref (am 4 0), .ref (am 5 0), .ref (am 6 0), .ref (am 7 0), .ref (am 8 0), .ref (am 9 0), .ref (am 10 0), .ref (am 11 0), .ref (am 12 0), .ref (am 13 0), vI (((bM m (m 0 0 31) v1 (m 0 0 33).toNat 1) 0 0) 14), .ref (am 15 0), .ref (am 16 0), .ref (am 17 0), .ref (am 18 0), .ref (am 19 0), .ref (am 20 0), .ref (am 21 0), .ref (am 22 0), .ref (am 23 0), .ref (am 24 0), .ref (am 25 0), .ref (am 26 0), .ref (am 27 0), .ref (am 28 0), .ref (am 29 0), vI (((((bM m (m 0 0 31) v1 (m 0 0 33).toNat 1) 0 0) 30).toNat : Nat) : Int), vI (m 0 0 31), vI v1, vI (((m 0 0 33).toNat : Nat) : Int), vI 1, .ref (am 35 0), .ref (am 36 0), .ref (am 37 0)]) := by have q9 := f277; exact q9
      refine x_aload_n C dX8_moves_60 0 rfl ?_
      refine x_iload_n C dX8_moves_61 3 rfl ?_
      refine x_aload_n C dX8_moves_62 0 rfl ?_
      refine x_get C (v := vI (m 0 0 31)) f278 (T := TX8) rfl kX8_moves_1 31 (by decide) kX8_moves_4 rfl dX8_moves_63 ?_
      refine x_bipush C dX8_moves_66 12 (by decide) ?_
      refine x_idiv C dX8_moves_68 (by omega) (by omega) (by omega) (by omega) ?_
      refine x_callV C (n := 2) (qc := (RX8, TX8, 38)) (As := [vI ((((m 0 0 31) % 12) + (z % 3)) - 1), vI ((m 0 0 31) / 12)]) (rest := []) (c_X8_isSolid (hcp.1) (by omega) (by omega) (hG) (hT9) (hal)) gX8_moves_X8_isSolid (by decide +kernel) f278 rfl rfl rfl rfl (Nat.le_of_ble_eq_true rfl) ⟨by decide, by decide⟩ ⟨(by decide), (by decide)⟩ dX8_moves_69 (fun rv279 h280 hp281 => ?_)
      obtain ⟨rfl, e282⟩ := hp281
      obtain rfl := e282.symm
      have hbr := bI_01 (¬ (0 ≤ ((((m 0 0 31) % 12) + (z % 3)) - 1) ∧ ((((m 0 0 31) % 12) + (z % 3)) - 1) ≤ 11) ∨ sol (((bM m (m 0 0 31) v1 (m 0 0 33).toNat 1)) 28 0) (((bM m (m 0 0 31) v1 (m 0 0 33).toNat 1)) 0 0 30).toNat (((bM m (m 0 0 31) v1 (m 0 0 33).toNat 1)) 0 0 33).toNat (12 * ((m 0 0 31) / 12) + ((((m 0 0 31) % 12) + (z % 3)) - 1)))
      refine x_if_ne (tgt := 89) C dX8_moves_72 (by decide) (by omega) (fun c283 => ?_) (fun c283 => ?_)
      · skip
        have hsd : ¬ (z % 3 - 1 ≠ 0 ∧ 0 ≤ m 0 0 31 % 12 + (z % 3 - 1) ∧ m 0 0 31 % 12 + (z % 3 - 1) < 12 ∧ ¬ sol (m 28 0) (m 0 0 30).toNat (m 0 0 33).toNat (m 0 0 31 + (z % 3 - 1))) := fun z9 => by
            have q9 := bI_ne.mp c283
            rcases q9 with q8 | q8
            · exact q8 (by omega)
            · have q7 : sol (m 28 0) (m 0 0 30).toNat (m 0 0 33).toNat (m 0 0 31 + (z % 3 - 1)) := by rw [show m 0 0 31 + (z % 3 - 1) = 12 * (m 0 0 31 / 12) + (m 0 0 31 % 12 + z % 3 - 1) by omega]; exact q8
              exact z9.2.2.2 q7
        exact SDD v1 ((m 0 0 31)) 1 _ ((m 0 0 33).toNat) h275 (hv1) (by unfold sd; rw [if_neg hsd]) (hcp)
      · skip
        have hto : 0 ≤ m 0 0 31 % 12 + z % 3 - 1 ∧ m 0 0 31 % 12 + z % 3 - 1 ≤ 11 := Classical.byContradiction (fun z9 => by have q9 := bI_t (p := ¬ (0 ≤ m 0 0 31 % 12 + z % 3 - 1 ∧ m 0 0 31 % 12 + z % 3 - 1 ≤ 11) ∨ sol (bM m (m 0 0 31) v1 (m 0 0 33).toNat 1 28 0) (bM m (m 0 0 31) v1 (m 0 0 33).toNat 1 0 0 30).toNat (bM m (m 0 0 31) v1 (m 0 0 33).toNat 1 0 0 33).toNat (12 * (m 0 0 31 / 12) + (m 0 0 31 % 12 + z % 3 - 1))) (Or.inl z9); omega)
        have hns : ¬ sol (m 28 0) (m 0 0 30).toNat (m 0 0 33).toNat (m 0 0 31 + (z % 3 - 1)) := fun z9 => by have q9 := bI_t (p := ¬ (0 ≤ m 0 0 31 % 12 + z % 3 - 1 ∧ m 0 0 31 % 12 + z % 3 - 1 ≤ 11) ∨ sol (bM m (m 0 0 31) v1 (m 0 0 33).toNat 1 28 0) (bM m (m 0 0 31) v1 (m 0 0 33).toNat 1 0 0 30).toNat (bM m (m 0 0 31) v1 (m 0 0 33).toNat 1 0 0 33).toNat (12 * (m 0 0 31 / 12) + (m 0 0 31 % 12 + z % 3 - 1))) (Or.inr (by rw [show 12 * (m 0 0 31 / 12) + (m 0 0 31 % 12 + z % 3 - 1) = m 0 0 31 + (z % 3 - 1) by omega]; exact z9)); omega
        have hsd : z % 3 - 1 ≠ 0 ∧ 0 ≤ m 0 0 31 % 12 + (z % 3 - 1) ∧ m 0 0 31 % 12 + (z % 3 - 1) < 12 ∧ ¬ sol (m 28 0) (m 0 0 30).toNat (m 0 0 33).toNat (m 0 0 31 + (z % 3 - 1)) := ⟨by omega, by omega, by omega, hns⟩
        refine x_iload_n C dX8_moves_75 3 rfl ?_
        refine x_istore_n C (ls' := [(0, .ref (am 0 0)), (1, vI z), (2, vI ((((m 0 0 31) % 12) + (z % 3)) - 1)), (3, vI ((((m 0 0 31) % 12) + (z % 3)) - 1))]) dX8_moves_76 (by decide) rfl ?_
        refine x_aload_n C dX8_moves_77 0 rfl ?_
        refine x_iload_n C dX8_moves_78 2 rfl ?_
        refine x_aload_n C dX8_moves_79 0 rfl ?_
        refine x_get C (v := vI (m 0 0 31)) f278 (T := TX8) rfl kX8_moves_1 31 (by decide) kX8_moves_4 rfl dX8_moves_80 ?_
        refine x_bipush C dX8_moves_83 12 (by decide) ?_
        refine x_idiv C dX8_moves_85 (by omega) (by omega) (by omega) (by omega) ?_
        refine x_callV C (n := 2) (qc := (RX8, TX8, 38)) (As := [vI ((((m 0 0 31) % 12) + (z % 3)) - 1), vI ((m 0 0 31) / 12)]) (rest := []) (c_X8_comes (hcp.1) (by omega) (by omega) (hG) (hKB) (hT9)) gX8_moves_X8_comes (by decide +kernel) f278 rfl rfl rfl rfl (Nat.le_of_ble_eq_true rfl) ⟨by decide, by decide⟩ ⟨(by decide), (by decide)⟩ dX8_moves_86 (fun rv284 h285 hp286 => ?_)
        obtain ⟨rfl, cp288⟩ := hp286
        have cp289 : MP D am h (bdM ((bM m (m 0 0 31) v1 (m 0 0 33).toNat 1)) (cm (((bM m (m 0 0 31) v1 (m 0 0 33).toNat 1)) 28 0) (KBm ((bM m (m 0 0 31) v1 (m 0 0 33).toNat 1))) (12 * ((m 0 0 31) / 12) + ((((m 0 0 31) % 12) + (z % 3)) - 1)) (((bM m (m 0 0 31) v1 (m 0 0 33).toNat 1)) 0 0 31, (((bM m (m 0 0 31) v1 (m 0 0 33).toNat 1)) 0 0 33).toNat, 1))) h285 := MP.trans hcp cp288
        have hcm : (cm (m 28 0) (KBm m) ((m 0 0 31) + (z % 3 - 1)) ((m 0 0 31), (m 0 0 33).toNat, 1)).1 = m 0 0 31 + (z % 3 - 1) := by unfold cm; rw [if_pos (by omega)]
        rw [show m 0 0 31 % 12 + z % 3 - 1 = (cm (m 28 0) (KBm m) ((m 0 0 31) + (z % 3 - 1)) ((m 0 0 31), (m 0 0 33).toNat, 1)).1 % 12 by rw [hcm]; omega]
        exact SDD v1 ((cm (m 28 0) (KBm m) ((m 0 0 31) + (z % 3 - 1)) ((m 0 0 31), (m 0 0 33).toNat, 1)).1) ((cm (m 28 0) (KBm m) ((m 0 0 31) + (z % 3 - 1)) ((m 0 0 31), (m 0 0 33).toNat, 1)).2.2) _ ((cm (m 28 0) (KBm m) ((m 0 0 31) + (z % 3 - 1)) ((m 0 0 31), (m 0 0 33).toNat, 1)).2.1) h285 (hv1) (by unfold sd; rw [if_pos hsd]) (by have q9 := cp289; rw [bM_bd, show 12 * (m 0 0 31 / 12) + (m 0 0 31 % 12 + z % 3 - 1) = m 0 0 31 + (z % 3 - 1) by omega] at q9; exact q9)
  refine x_aload_n C dX8_moves_0 0 rfl ?_
  have f290 : h (am 0 0) = some (eO 8 [vI (m 0 0 0), .ref (am 1 0), vI (m 0 0 2), .ref (am 3 0), .ref (am 4 0), .ref (am 5 0), .ref (am 6 0), .ref (am 7 0), .ref (am 8 0), .ref (am 9 0), .ref (am 10 0), .ref (am 11 0), .ref (am 12 0), .ref (am 13 0), vI (m 0 0 14), .ref (am 15 0), .ref (am 16 0), .ref (am 17 0), .ref (am 18 0), .ref (am 19 0), .ref (am 20 0), .ref (am 21 0), .ref (am 22 0), .ref (am 23 0), .ref (am 24 0), .ref (am 25 0), .ref (am 26 0), .ref (am 27 0), .ref (am 28 0), .ref (am 29 0), vI (((m 0 0 30).toNat : Nat) : Int), vI (m 0 0 31), vI (m 0 0 32), vI (((m 0 0 33).toNat : Nat) : Int), vI (m 0 0 34), .ref (am 35 0), .ref (am 36 0), .ref (am 37 0)]) := hR.1 0 0 (lm0 (by decide))
  refine x_get C (v := vI (m 0 0 31)) f290 (T := TX8) rfl kX8_moves_1 31 (by decide) kX8_moves_4 rfl dX8_moves_1 ?_
  refine x_bipush C dX8_moves_4 12 (by decide) ?_
  refine x_irem C dX8_moves_6 (by omega) (by omega) (by omega) (by omega) ?_
  refine x_istore_n C (ls' := [(0, .ref (am 0 0)), (1, vI z), (2, vI ((m 0 0 31) % 12))]) dX8_moves_7 (by decide) rfl ?_
  refine x_aload_n C dX8_moves_8 0 rfl ?_
  refine x_get C (v := vI (m 0 0 32)) f290 (T := TX8) rfl kX8_moves_1 32 (by decide) kX8_moves_2 rfl dX8_moves_9 ?_
  refine x_if_lt (tgt := 47) C dX8_moves_12 (by decide) (by omega) (fun c291 => ?_) (fun c291 => ?_)
  · skip
    have hso : ¬ (0 ≤ m 0 0 32 ∧ sol (m 28 0) (m 0 0 30).toNat (m 0 0 33).toNat (m 0 0 31 + 12)) := fun z9 => by omega
    exact ST (m 0 0 32) h (by unfold sv; rw [if_neg hso]) (by have q9 := bM_0 ht.1 hs1 (m := m); rw [← q9]; exact MP.rf hR)
  · skip
    refine x_aload_n C dX8_moves_15 0 rfl ?_
    refine x_iload_n C dX8_moves_16 2 rfl ?_
    refine x_aload_n C dX8_moves_17 0 rfl ?_
    refine x_get C (v := vI (m 0 0 31)) f290 (T := TX8) rfl kX8_moves_1 31 (by decide) kX8_moves_4 rfl dX8_moves_18 ?_
    refine x_bipush C dX8_moves_21 12 (by decide) ?_
    refine x_idiv C dX8_moves_23 (by omega) (by omega) (by omega) (by omega) ?_
    refine x_iconst C dX8_moves_24 1 (by decide) ?_
    refine x_iadd C dX8_moves_25 ?_
    refine x_callV C (n := 2) (qc := (RX8, TX8, 38)) (As := [vI ((m 0 0 31) % 12), vI (((m 0 0 31) / 12) + 1)]) (rest := []) (c_X8_isSolid (hR) (by omega) (by omega) (by assumption) (by omega) (by omega)) gX8_moves_X8_isSolid (by decide +kernel) f290 rfl rfl rfl rfl (Nat.le_of_ble_eq_true rfl) ⟨by decide, by decide⟩ ⟨(by decide), (by decide)⟩ dX8_moves_26 (fun rv292 h293 hp294 => ?_)
    obtain ⟨rfl, e295⟩ := hp294
    obtain rfl := e295.symm
    have hbr := bI_01 (¬ (0 ≤ m 0 0 31 % 12 ∧ m 0 0 31 % 12 ≤ 11) ∨ sol (m 28 0) (m 0 0 30).toNat (m 0 0 33).toNat (12 * (m 0 0 31 / 12 + 1) + m 0 0 31 % 12))
    refine x_if_eq (tgt := 47) C dX8_moves_29 (by decide) (by omega) (fun c296 => ?_) (fun c296 => ?_)
    · skip
      have hso : ¬ (0 ≤ m 0 0 32 ∧ sol (m 28 0) (m 0 0 30).toNat (m 0 0 33).toNat (m 0 0 31 + 12)) := fun z9 => by
          have q9 := bI_t (p := ¬ (0 ≤ m 0 0 31 % 12 ∧ m 0 0 31 % 12 ≤ 11) ∨ sol (m 28 0) (m 0 0 30).toNat (m 0 0 33).toNat (12 * (m 0 0 31 / 12 + 1) + m 0 0 31 % 12)) (Or.inr (by rw [show 12 * (m 0 0 31 / 12 + 1) + m 0 0 31 % 12 = m 0 0 31 + 12 by omega]; exact z9.2))
          omega
      exact ST (m 0 0 32) h (by unfold sv; rw [if_neg hso]) (by have q9 := bM_0 ht.1 hs1 (m := m); rw [← q9]; exact MP.rf hR)
    · skip
      have hso : sol (m 28 0) (m 0 0 30).toNat (m 0 0 33).toNat (m 0 0 31 + 12) := by
          have q9 := bI_ne.mp c296
          rcases q9 with q8 | q8
          · exact absurd (show 0 ≤ m 0 0 31 % 12 ∧ m 0 0 31 % 12 ≤ 11 by omega) q8
          · rw [show 12 * (m 0 0 31 / 12 + 1) + m 0 0 31 % 12 = m 0 0 31 + 12 by omega] at q8; exact q8
      refine x_aload_n C dX8_moves_32 0 rfl ?_
      refine x_iload_n C dX8_moves_33 1 rfl ?_
      refine x_iconst C dX8_moves_34 2 (by decide) ?_
      refine x_icmp_le (tgt := 43) C dX8_moves_35 (by decide) (by omega) (by omega) (fun c297 => ?_) (fun c297 => ?_)
      · skip
        refine x_iconst C dX8_moves_43 0 (by decide) ?_
        refine x_put C f290 (T := TX8) rfl tyX8_ok nmX8 kX8_moves_1 32 (by decide) kX8_moves_2 rfl (fs' := [vI (m 0 0 0), .ref (am 1 0), vI (m 0 0 2), .ref (am 3 0), .ref (am 4 0), .ref (am 5 0), .ref (am 6 0), .ref (am 7 0), .ref (am 8 0), .ref (am 9 0), .ref (am 10 0), .ref (am 11 0), .ref (am 12 0), .ref (am 13 0), vI (m 0 0 14), .ref (am 15 0), .ref (am 16 0), .ref (am 17 0), .ref (am 18 0), .ref (am 19 0), .ref (am 20 0), .ref (am 21 0), .ref (am 22 0), .ref (am 23 0), .ref (am 24 0), .ref (am 25 0), .ref (am 26 0), .ref (am 27 0), .ref (am 28 0), .ref (am 29 0), vI (((m 0 0 30).toNat : Nat) : Int), vI (m 0 0 31), vI 0, vI (((m 0 0 33).toNat : Nat) : Int), vI (m 0 0 34), .ref (am 35 0), .ref (am 36 0), .ref (am 37 0)]) rfl rfl (by simp) rfl dX8_moves_44 (x_hn (fun h298 e299 => ?_))
        have f300 : h298 (am 0 0) = some (eO 8 [vI (m 0 0 0), .ref (am 1 0), vI (m 0 0 2), .ref (am 3 0), .ref (am 4 0), .ref (am 5 0), .ref (am 6 0), .ref (am 7 0), .ref (am 8 0), .ref (am 9 0), .ref (am 10 0), .ref (am 11 0), .ref (am 12 0), .ref (am 13 0), vI (m 0 0 14), .ref (am 15 0), .ref (am 16 0), .ref (am 17 0), .ref (am 18 0), .ref (am 19 0), .ref (am 20 0), .ref (am 21 0), .ref (am 22 0), .ref (am 23 0), .ref (am 24 0), .ref (am 25 0), .ref (am 26 0), .ref (am 27 0), .ref (am 28 0), .ref (am 29 0), vI (((m 0 0 30).toNat : Nat) : Int), vI (m 0 0 31), vI 0, vI (((m 0 0 33).toNat : Nat) : Int), vI (m 0 0 34), .ref (am 35 0), .ref (am 36 0), .ref (am 37 0)]) := by rw [e299]; exact hu_s
        have cp301 : MP D am h (cu m 0 0 ((fu (m 0 0) 32 0))) h298 := by rw [e299]; exact (MP.up (MP.rf hR) (lm0 (by decide)) ((fu (m 0 0) 32 0)) rfl)
        exact ST 0 h298 (by unfold sv; rw [if_pos ⟨by omega, hso⟩]; first | rw [if_pos (by omega)] | rw [if_neg (by omega)]) (by have q9 := cp301; rw [bM_32 ht.1 hs1] at q9; exact q9)
      · skip
        refine x_bipush C dX8_moves_38 (-2) (by decide) ?_
        refine x_goto (tgt := 44) C dX8_moves_40 (by decide) ?_
        refine x_put C f290 (T := TX8) rfl tyX8_ok nmX8 kX8_moves_1 32 (by decide) kX8_moves_2 rfl (fs' := [vI (m 0 0 0), .ref (am 1 0), vI (m 0 0 2), .ref (am 3 0), .ref (am 4 0), .ref (am 5 0), .ref (am 6 0), .ref (am 7 0), .ref (am 8 0), .ref (am 9 0), .ref (am 10 0), .ref (am 11 0), .ref (am 12 0), .ref (am 13 0), vI (m 0 0 14), .ref (am 15 0), .ref (am 16 0), .ref (am 17 0), .ref (am 18 0), .ref (am 19 0), .ref (am 20 0), .ref (am 21 0), .ref (am 22 0), .ref (am 23 0), .ref (am 24 0), .ref (am 25 0), .ref (am 26 0), .ref (am 27 0), .ref (am 28 0), .ref (am 29 0), vI (((m 0 0 30).toNat : Nat) : Int), vI (m 0 0 31), vI (-2), vI (((m 0 0 33).toNat : Nat) : Int), vI (m 0 0 34), .ref (am 35 0), .ref (am 36 0), .ref (am 37 0)]) rfl rfl (by simp) rfl dX8_moves_44 (x_hn (fun h302 e303 => ?_))
        have f304 : h302 (am 0 0) = some (eO 8 [vI (m 0 0 0), .ref (am 1 0), vI (m 0 0 2), .ref (am 3 0), .ref (am 4 0), .ref (am 5 0), .ref (am 6 0), .ref (am 7 0), .ref (am 8 0), .ref (am 9 0), .ref (am 10 0), .ref (am 11 0), .ref (am 12 0), .ref (am 13 0), vI (m 0 0 14), .ref (am 15 0), .ref (am 16 0), .ref (am 17 0), .ref (am 18 0), .ref (am 19 0), .ref (am 20 0), .ref (am 21 0), .ref (am 22 0), .ref (am 23 0), .ref (am 24 0), .ref (am 25 0), .ref (am 26 0), .ref (am 27 0), .ref (am 28 0), .ref (am 29 0), vI (((m 0 0 30).toNat : Nat) : Int), vI (m 0 0 31), vI (-2), vI (((m 0 0 33).toNat : Nat) : Int), vI (m 0 0 34), .ref (am 35 0), .ref (am 36 0), .ref (am 37 0)]) := by rw [e303]; exact hu_s
        have cp305 : MP D am h (cu m 0 0 ((fu (m 0 0) 32 ((-2))))) h302 := by rw [e303]; exact (MP.up (MP.rf hR) (lm0 (by decide)) ((fu (m 0 0) 32 ((-2)))) rfl)
        exact ST ((-2)) h302 (by unfold sv; rw [if_pos ⟨by omega, hso⟩]; first | rw [if_pos (by omega)] | rw [if_neg (by omega)]) (by have q9 := cp305; rw [bM_32 ht.1 hs1] at q9; exact q9)


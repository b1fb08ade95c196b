def erF (m : CS) (u w : Int) (n : Nat) : Nat → Int := fun p => if p < n ∧ w = -1 ∧ m 22 0 p = 1 ∧ m 23 0 p = u then 4 else m 22 0 p
theorem erF_0 {m : CS} {u w : Int} : erF m u w 0 = m 22 0 := by funext p; exact if_neg (by omega)
theorem erF_v {m : CS} {u w : Int} {n : Nat} : erF m u w n n = m 22 0 n := if_neg (by omega)
theorem erF_s {m : CS} {u w : Int} {n : Nat} {v : Int} (hv : v = if w = -1 ∧ m 22 0 n = 1 ∧ m 23 0 n = u then 4 else m 22 0 n) : fu (erF m u w n) n v = erF m u w (n + 1) := by
  funext p
  unfold fu erF
  by_cases q : p = n
  · rw [if_pos q, q, hv]
    by_cases z : w = -1 ∧ m 22 0 n = 1 ∧ m 23 0 n = u
    · rw [if_pos z, if_pos ⟨by omega, z⟩]
    · rw [if_neg z, if_neg (fun y => z y.2)]
  · rw [if_neg q]
    by_cases z : p < n ∧ w = -1 ∧ m 22 0 p = 1 ∧ m 23 0 p = u
    · rw [if_pos z, if_pos ⟨by omega, z.2⟩]
    · rw [if_neg z, if_neg (fun y => z ⟨by omega, y.2⟩)]
/-- a work is tried again -/
def trN (m : CS) (u : Nat) (w : Int) : CS := cu (cu m 18 0 (fu (m 18 0) u w)) 22 0 (erF m u w 6)
theorem erF_c {a b : CS} {u w : Int} {n : Nat} (h1 : b 22 0 = a 22 0) (h2 : b 23 0 = a 23 0) : erF a u w n = erF b u w n := by unfold erF; rw [h1, h2]
theorem SM.tn {a b : CS} {u : Nat} {w : Int} (h : SM a b) : SM (trN a u w) (trN b u w) := by
  unfold trN
  refine SM.up9 (by decide) (erF_c (h.1 22 0 (by decide) (by decide)) (h.1 23 0 (by decide) (by decide))) (SM.up9 (by decide) ?_ h)
  rw [h.1 18 0 (by decide) (by decide)]

theorem kX8_tries_0 : Cond.fieldLink "LedgeLevelsModel" 55 "LedgeLevelsModel" "best" "[I" ∈ wsX8_tries := by decide +kernel
theorem kX8_tries_1 : ∀ w ∈ wsX80, w ∈ wsX8_tries := by decide +kernel
theorem kX8_tries_2 : Cond.fieldLink "LedgeLevelsModel" 52 "LedgeLevelsModel" "from" "[I" ∈ wsX8_tries := by decide +kernel
theorem kX8_tries_3 : Cond.fieldLink "LedgeLevelsModel" 67 "LedgeLevelsModel" "runState" "[I" ∈ wsX8_tries := by decide +kernel
theorem kX8_tries_4 : Cond.fieldLink "LedgeLevelsModel" 70 "LedgeLevelsModel" "runWork" "[I" ∈ wsX8_tries := by decide +kernel
set_option maxRecDepth 100000 in
set_option maxHeartbeats 4000000 in
theorem c_X8_tries {l : Launch} {D : va_G} {A : Nat → Prop} {h : vh} {am : AD} {m : CS} {u : Int}  (hR : RepM D am m h) (hM1 : Mk1 m) (hu : 0 ≤ u ∧ u < m 0 0 14) (hG16 : ∀ i j : Nat, (i : Int) < m 0 0 14 → j < 96 → 0 ≤ m 16 0 (96 * i + j) ∧ m 16 0 (96 * i + j) ≤ 8) (hKW : ∀ i : Nat, (i : Int) < m 0 0 14 → lyA (rwM (m 16 0) (96 * i)) 96 ≤ 7) (hGK : GK m) (hSS : ∀ j, 0 ≤ m 1 0 j ∧ m 1 0 j ≤ 4) (hfrm : ∀ i : Nat, (i : Int) < m 0 0 14 → 0 ≤ m 17 0 i ∧ m 17 0 i ≤ 95) (hrb : ∀ p : Nat, p < 6 → (0 ≤ m 22 0 p ∧ m 22 0 p ≤ 4) ∧ (-2147483648 ≤ m 23 0 p ∧ m 23 0 p ≤ 2147483647)) : MX l D A yX8_tries wsX8_tries { frames := 4, cells := 0, slots := 0, locals := 97 } [.ref (am 0 0), vI u] h (fun rv h' => ∃ (w1 : Int) (m1 : CS), rv = none ∧ MP D am h (m1) h' ∧ (FdR m (rwM (m 16 0) (96 * u.toNat)) (m 17 0 u.toNat) w1) ∧ (-1 ≤ w1 ∧ w1 ≤ 6145) ∧ (SM (trN m u.toNat w1) m1) ∧ (m1 0 0 0 = m 0 0 0)) := by
  refine MX.of (cc := cX8_tries) (maxL := 4) (ret := none) [(0, .ref (am 0 0)), (1, vI u)] (by decide +kernel) rfl rfl (Nat.le_of_ble_eq_true rfl) ?_
  intro κ C hkl G
  subst hkl
  have C : CX κ "LedgeLevelsModel" "tries" cX8_tries wsX8_tries { frames := 4, cells := 0, slots := 0, locals := 97 } D A 4 := C
  have hiz : nq (D.1 20) (D.1 21) := cx_iz C
  obtain ⟨hM1a, hM1b⟩ := id hM1
  have hu20 : 0 ≤ u ∧ u < 20 := by omega
  obtain ⟨sr9, hsr0⟩ : ∃ sr9, sr9 = rwM (m 16 0) (96 * (u).toNat) := ⟨_, rfl⟩
  have hs9 : ∀ j : Nat, j < 96 → sr9 j = (if (1 : Int) = 0 then m 4 0 (Int.toNat (96 * (u) + j)) else m 16 0 (Int.toNat (96 * (u) + j))) := fun j hj => by
    rw [hsr0, if_neg (by decide), show Int.toNat (96 * (u) + (j : Int)) = 96 * (u).toNat + j by omega]; exact if_pos hj
  have hsr9 : ∀ j : Nat, 0 ≤ sr9 j ∧ sr9 j ≤ 8 := by rw [hsr0]; exact rwM_r (fun j hj => hG16 (u).toNat j (by omega) hj)
  have hA9 : lyA sr9 96 ≤ 7 := by rw [hsr0]; exact hKW (u).toNat (by omega)
  have hg28 : ∀ j, 0 ≤ lyG sr9 (m 28 0) 96 j ∧ lyG sr9 (m 28 0) 96 j ≤ 8 := lyG_r hsr9 hGK.1 96
  have hb29 : ∀ j, 0 ≤ lyB sr9 (m 29 0) 96 j ∧ lyB sr9 (m 29 0) 96 j ≤ 7 := lyB_r hA9 hGK.2
  have hal9 : 0 ≤ ((lyA sr9 96 : Nat) : Int) ∧ ((lyA sr9 96 : Nat) : Int) < 8 := by omega
  refine x_aload_n C dX8_tries_0 0 rfl ?_
  refine x_iconst C dX8_tries_1 1 (by decide) ?_
  refine x_iload_n C dX8_tries_2 1 rfl ?_
  have f1 : h (am 0 0) = some (eO 8 [vI (m 0 0 0), .ref (am 1 0), vI (m 0 0 2), .ref (am 3 0), .ref (am 4 0), .ref (am 5 0), .ref (am 6 0), .ref (am 7 0), .ref (am 8 0), .ref (am 9 0), .ref (am 10 0), .ref (am 11 0), .ref (am 12 0), .ref (am 13 0), vI (m 0 0 14), .ref (am 15 0), .ref (am 16 0), .ref (am 17 0), .ref (am 18 0), .ref (am 19 0), .ref (am 20 0), .ref (am 21 0), .ref (am 22 0), .ref (am 23 0), .ref (am 24 0), .ref (am 25 0), .ref (am 26 0), .ref (am 27 0), .ref (am 28 0), .ref (am 29 0), vI (((m 0 0 30).toNat : Nat) : Int), vI (m 0 0 31), vI (m 0 0 32), vI (((m 0 0 33).toNat : Nat) : Int), vI (m 0 0 34), .ref (am 35 0), .ref (am 36 0), .ref (am 37 0)]) := hR.1 0 0 (lm0 (by decide))
  refine x_callV C (n := 2) (qc := (RX8, TX8, 38)) (As := [vI 1, vI u]) (rest := []) (c_X8_lays (src := sr9) (hR) (by omega) (by omega) (hs9) (hsr9) (hA9)) gX8_tries_X8_lays (by decide +kernel) f1 rfl rfl rfl rfl (Nat.le_of_ble_eq_true rfl) ⟨by decide, by decide⟩ ⟨(by decide), (by decide)⟩ dX8_tries_3 (fun rv2 h3 hp4 => ?_)
  obtain ⟨rfl, cp6⟩ := hp4
  have cp7 : MP D am h (layN m sr9 96) h3 := MP.trans (MP.rf hR) cp6
  have hz9 : 0 ≤ m 17 0 u.toNat ∧ m 17 0 u.toNat ≤ 95 := hfrm u.toNat (by omega)
  refine x_aload_n C dX8_tries_6 0 rfl ?_
  have f8 : h3 (am 0 0) = some (eO 8 [vI (((layN m sr9 96) 0 0) 0), .ref (am 1 0), vI (((layN m sr9 96) 0 0) 2), .ref (am 3 0), .ref (am 4 0), .ref (am 5 0), .ref (am 6 0), .ref (am 7 0), .ref (am 8 0), .ref (am 9 0), .ref (am 10 0), .ref (am 11 0), .ref (am 12 0), .ref (am 13 0), vI (((layN m sr9 96) 0 0) 14), .ref (am 15 0), .ref (am 16 0), .ref (am 17 0), .ref (am 18 0), .ref (am 19 0), .ref (am 20 0), .ref (am 21 0), .ref (am 22 0), .ref (am 23 0), .ref (am 24 0), .ref (am 25 0), .ref (am 26 0), .ref (am 27 0), .ref (am 28 0), .ref (am 29 0), vI (((((layN m sr9 96) 0 0) 30).toNat : Nat) : Int), vI (((layN m sr9 96) 0 0) 31), vI (((layN m sr9 96) 0 0) 32), vI (((((layN m sr9 96) 0 0) 33).toNat : Nat) : Int), vI (((layN m sr9 96) 0 0) 34), .ref (am 35 0), .ref (am 36 0), .ref (am 37 0)]) := cp7.1.1 0 0 (lm0 (by decide))
  refine x_get C (v := .ref (am 18 0)) f8 (T := TX8) rfl kX8_tries_1 18 (by decide) kX8_tries_0 rfl dX8_tries_7 ?_
  refine x_iload_n C dX8_tries_10 1 rfl ?_
  refine x_aload_n C dX8_tries_11 0 rfl ?_
  refine x_aload_n C dX8_tries_12 0 rfl ?_
  refine x_get C (v := .ref (am 17 0)) f8 (T := TX8) rfl kX8_tries_1 17 (by decide) kX8_tries_2 rfl dX8_tries_13 ?_
  refine x_iload_n C dX8_tries_16 1 rfl ?_
  have f9 : h3 (am 17 0) = some (eI D 20 (((layN m sr9 96) 17 0))) := cp7.1.1 17 0 (lm0 (by decide))
  refine x_iald C f9 ⟨by omega, by omega⟩ (by decide) dX8_tries_17 ?_
  refine x_topv (show (((layN m sr9 96) 17 0)) (Int.toNat u) = m 17 0 u.toNat from by rfl) ?_
  refine x_callV C (n := 1) (qc := (RX8, TX8, 38)) (As := [vI (m 17 0 u.toNat)]) (rest := [vI u, .ref (am 18 0)]) (c_X8_searches (cp7.1) (hz9) (hg28) (hb29) (hal9) (hSS)) gX8_tries_X8_searches (by decide +kernel) f8 rfl rfl rfl rfl (Nat.le_of_ble_eq_true rfl) ⟨by decide, by decide⟩ ⟨(by decide), (by decide)⟩ dX8_tries_18 (fun rv10 h11 hp12 => ?_)
  obtain ⟨c_14, v_15, s_16, w_17, t_18, Q_19, F_20, R_21, rfl, cp22, hF_18, hS9_18, hR9_18, hw9_18, hb9_18⟩ := hp12
  have cp23 : MP D am h (srM ((layN m sr9 96)) c_14 v_15 t_18 s_16 Q_19 F_20 R_21) h11 := MP.trans cp7 cp22
  have f24 : h11 (am 18 0) = some (eI D 20 (((srM ((layN m sr9 96)) c_14 v_15 t_18 s_16 Q_19 F_20 R_21) 18 0))) := cp23.1.1 18 0 (lm0 (by decide))
  refine x_iast C f24 ⟨by omega, by omega⟩ (by decide) dX8_tries_21 (x_hn (fun h25 e26 => ?_))
  have f27 : h25 (am 18 0) = some (eI D 20 (fu (((srM ((layN m sr9 96)) c_14 v_15 t_18 s_16 Q_19 F_20 R_21) 18 0)) (Int.toNat u) w_17)) := by rw [e26]; exact hu_s
  refine x_iconst C dX8_tries_22 0 (by decide) ?_
  refine x_istore_n C (ls' := [(0, .ref (am 0 0)), (1, vI u), (2, vI 0)]) dX8_tries_23 (by decide) rfl ?_
  have cp28 : MP D am h (cu (srM ((layN m sr9 96)) c_14 v_15 t_18 s_16 Q_19 F_20 R_21) 18 0 (fu (((srM ((layN m sr9 96)) c_14 v_15 t_18 s_16 Q_19 F_20 R_21) 18 0)) (Int.toNat u) w_17)) h25 := by rw [e26]; exact (MP.up cp23 (lm0 (by decide)) (fu (((srM ((layN m sr9 96)) c_14 v_15 t_18 s_16 Q_19 F_20 R_21) 18 0)) (Int.toNat u) w_17) rfl)
  have LP : ∀ (N : Nat) (n : Nat) (h29 : vh)   (hn : n ≤ 6) (hN : 6 - n < N) (hcp : MP D am h (cu (cu (srM ((layN m sr9 96)) c_14 v_15 t_18 s_16 Q_19 F_20 R_21) 18 0 (fu (((srM ((layN m sr9 96)) c_14 v_15 t_18 s_16 Q_19 F_20 R_21) 18 0)) (Int.toNat u) w_17)) 22 0 (erF m u w_17 n)) h29), X κ 0 0 h29 [(0, .ref (am 0 0)), (1, vI u), (2, vI ((n : Nat) : Int))] 24 [] := by
    intro N
    induction N with
    | zero => intro n h29 hn hN hcp; exfalso; omega
    | succ N ihLP =>
      intro n h29 hn hN hcp
      have hw9 := hw9_18
      refine x_iload_n C dX8_tries_24 2 rfl ?_
      refine x_bipush C dX8_tries_25 6 (by decide) ?_
      refine x_icmp_ge (tgt := 92) C dX8_tries_27 (by decide) (by omega) (by omega) (fun c30 => ?_) (fun c30 => ?_)
      · skip
        refine x_vret C G dX8_tries_92 ?_ (by decide) (by decide)
        have hn6 : n = 6 := by omega
        refine ⟨w_17, _, rfl, hcp, ?_, hw9_18, ?_, rfl⟩
        · rw [← hsr0]
          exact hF_18
        · rw [hn6]
          exact SM.up9 (by decide) (by rw [show ((u.toNat : Nat) : Int) = u by omega]) (SM.up9 (by decide) rfl (SM.sr (SM.ly hsr9 hA9 SM.rf)))
      · skip
        have f31 : h29 (am 22 0) = some (eI D 6 (((cu (cu (srM ((layN m sr9 96)) c_14 v_15 t_18 s_16 Q_19 F_20 R_21) 18 0 (fu (((srM ((layN m sr9 96)) c_14 v_15 t_18 s_16 Q_19 F_20 R_21) 18 0)) (Int.toNat u) w_17)) 22 0 (erF m u w_17 n)) 22 0))) := hcp.1.1 22 0 (lm0 (by decide))
        have f32 : h29 (am 22 0) = some (eI D 6 ((erF m u w_17 n))) := by have q9 := f31; exact q9
        have hr9 := hrb n (by omega)
        refine x_aload_n C dX8_tries_30 0 rfl ?_
        have f33 : h29 (am 0 0) = some (eO 8 [vI (((cu (cu (srM ((layN m sr9 96)) c_14 v_15 t_18 s_16 Q_19 F_20 R_21) 18 0 (fu (((srM ((layN m sr9 96)) c_14 v_15 t_18 s_16 Q_19 F_20 R_21) 18 0)) (Int.toNat u) w_17)) 22 0 (erF m u w_17 n)) 0 0) 0), .ref (am 1 0), vI (((cu (cu (srM ((layN m sr9 96)) c_14 v_15 t_18 s_16 Q_19 F_20 R_21) 18 0 (fu (((srM ((layN m sr9 96)) c_14 v_15 t_18 s_16 Q_19 F_20 R_21) 18 0)) (Int.toNat u) w_17)) 22 0 (erF m u w_17 n)) 0 0) 2), .ref (am 3 0), .ref (am 4 0), .ref (am 5 0), .ref (am 6 0), .ref (am 7 0), .ref (am 8 0), .ref (am 9 0), .ref (am 10 0), .ref (am 11 0), .ref (am 12 0), .ref (am 13 0), vI (((cu (cu (srM ((layN m sr9 96)) c_14 v_15 t_18 s_16 Q_19 F_20 R_21) 18 0 (fu (((srM ((layN m sr9 96)) c_14 v_15 t_18 s_16 Q_19 F_20 R_21) 18 0)) (Int.toNat u) w_17)) 22 0 (erF m u w_17 n)) 0 0) 14), .ref (am 15 0), .ref (am 16 0), .ref (am 17 0), .ref (am 18 0), .ref (am 19 0), .ref (am 20 0), .ref (am 21 0), .ref (am 22 0), .ref (am 23 0), .ref (am 24 0), .ref (am 25 0), .ref (am 26 0), .ref (am 27 0), .ref (am 28 0), .ref (am 29 0), vI (((((cu (cu (srM ((layN m sr9 96)) c_14 v_15 t_18 s_16 Q_19 F_20 R_21) 18 0 (fu (((srM ((layN m sr9 96)) c_14 v_15 t_18 s_16 Q_19 F_20 R_21) 18 0)) (Int.toNat u) w_17)) 22 0 (erF m u w_17 n)) 0 0) 30).toNat : Nat) : Int), vI (((cu (cu (srM ((layN m sr9 96)) c_14 v_15 t_18 s_16 Q_19 F_20 R_21) 18 0 (fu (((srM ((layN m sr9 96)) c_14 v_15 t_18 s_16 Q_19 F_20 R_21) 18 0)) (Int.toNat u) w_17)) 22 0 (erF m u w_17 n)) 0 0) 31), vI (((cu (cu (srM ((layN m sr9 96)) c_14 v_15 t_18 s_16 Q_19 F_20 R_21) 18 0 (fu (((srM ((layN m sr9 96)) c_14 v_15 t_18 s_16 Q_19 F_20 R_21) 18 0)) (Int.toNat u) w_17)) 22 0 (erF m u w_17 n)) 0 0) 32), vI (((((cu (cu (srM ((layN m sr9 96)) c_14 v_15 t_18 s_16 Q_19 F_20 R_21) 18 0 (fu (((srM ((layN m sr9 96)) c_14 v_15 t_18 s_16 Q_19 F_20 R_21) 18 0)) (Int.toNat u) w_17)) 22 0 (erF m u w_17 n)) 0 0) 33).toNat : Nat) : Int), vI (((cu (cu (srM ((layN m sr9 96)) c_14 v_15 t_18 s_16 Q_19 F_20 R_21) 18 0 (fu (((srM ((layN m sr9 96)) c_14 v_15 t_18 s_16 Q_19 F_20 R_21) 18 0)) (Int.toNat u) w_17)) 22 0 (erF m u w_17 n)) 0 0) 34), .ref (am 35 0), .ref (am 36 0), .ref (am 37 0)]) := hcp.1.1 0 0 (lm0 (by decide))
        refine x_get C (v := .ref (am 18 0)) f33 (T := TX8) rfl kX8_tries_1 18 (by decide) kX8_tries_0 rfl dX8_tries_31 ?_
        refine x_iload_n C dX8_tries_34 1 rfl ?_
        have f34 : h29 (am 18 0) = some (eI D 20 (((cu (cu (srM ((layN m sr9 96)) c_14 v_15 t_18 s_16 Q_19 F_20 R_21) 18 0 (fu (((srM ((layN m sr9 96)) c_14 v_15 t_18 s_16 Q_19 F_20 R_21) 18 0)) (Int.toNat u) w_17)) 22 0 (erF m u w_17 n)) 18 0))) := hcp.1.1 18 0 (lm0 (by decide))
        refine x_iald C f34 ⟨by omega, by omega⟩ (by decide) dX8_tries_35 ?_
        refine x_topv (show (((cu (cu (srM ((layN m sr9 96)) c_14 v_15 t_18 s_16 Q_19 F_20 R_21) 18 0 (fu (((srM ((layN m sr9 96)) c_14 v_15 t_18 s_16 Q_19 F_20 R_21) 18 0)) (Int.toNat u) w_17)) 22 0 (erF m u w_17 n)) 18 0)) (Int.toNat u) = w_17 from by exact fu_s) ?_
        refine x_iconst C dX8_tries_36 (-1) (by decide) ?_
        refine x_icmp_ne (tgt := 64) C dX8_tries_37 (by decide) (by omega) (by omega) (fun c35 => ?_) (fun c35 => ?_)
        · skip
          refine x_iconst C dX8_tries_64 0 (by decide) ?_
          refine x_istore_n C (ls' := [(0, .ref (am 0 0)), (1, vI u), (2, vI ((n : Nat) : Int)), (3, vI 0)]) dX8_tries_65 (by decide) rfl ?_
          refine x_aload_n C dX8_tries_66 0 rfl ?_
          refine x_get C (v := .ref (am 22 0)) f33 (T := TX8) rfl kX8_tries_1 22 (by decide) kX8_tries_3 rfl dX8_tries_67 ?_
          refine x_iload_n C dX8_tries_70 2 rfl ?_
          refine x_iload_n C dX8_tries_71 3 rfl ?_
          refine x_if_eq (tgt := 79) C dX8_tries_72 (by decide) (by omega) (fun c36 => ?_) (fun c36 => ?_)
          · skip
            refine x_aload_n C dX8_tries_79 0 rfl ?_
            refine x_get C (v := .ref (am 22 0)) f33 (T := TX8) rfl kX8_tries_1 22 (by decide) kX8_tries_3 rfl dX8_tries_80 ?_
            refine x_iload_n C dX8_tries_83 2 rfl ?_
            refine x_iald C f32 ⟨by omega, by omega⟩ (by decide) dX8_tries_84 ?_
            refine x_topv (show ((erF m u w_17 n)) (Int.toNat (((n : Nat) : Int))) = m 22 0 n from by exact erF_v) ?_
            refine x_iast C f32 ⟨by omega, by omega⟩ (by decide) dX8_tries_85 (x_hn (fun h37 e38 => ?_))
            have f39 : h37 (am 22 0) = some (eI D 6 (fu ((erF m u w_17 n)) (Int.toNat (((n : Nat) : Int))) (m 22 0 n))) := by rw [e38]; exact hu_s
            refine x_iinc C (x := ((n : Nat) : Int)) (ls' := [(0, .ref (am 0 0)), (1, vI u), (2, vI ((((n : Nat) : Int)) + 1)), (3, vI 0)]) dX8_tries_86 2 rfl (by decide) rfl ?_
            refine x_goto (tgt := 24) C dX8_tries_89 (by decide) ?_
            refine x_sub [0, 1, 2] (ls' := [(0, .ref (am 0 0)), (1, vI u), (2, vI ((((n : Nat) : Int)) + 1))]) rfl ?_
            have cp40 : MP D am h (cu (cu (cu (srM ((layN m sr9 96)) c_14 v_15 t_18 s_16 Q_19 F_20 R_21) 18 0 (fu (((srM ((layN m sr9 96)) c_14 v_15 t_18 s_16 Q_19 F_20 R_21) 18 0)) (Int.toNat u) w_17)) 22 0 (erF m u w_17 n)) 22 0 (fu ((erF m u w_17 n)) (Int.toNat (((n : Nat) : Int))) (m 22 0 n))) h37 := by rw [e38]; exact (MP.up hcp (lm0 (by decide)) (fu ((erF m u w_17 n)) (Int.toNat (((n : Nat) : Int))) (m 22 0 n)) rfl)
            exact ihLP (n + 1) h37 (by omega) (by omega) (by have q9 := cp40; rw [cu_u, show Int.toNat ((n : Nat) : Int) = n from rfl, erF_s (by first | exact (if_pos (by omega)).symm | exact (if_neg (by omega)).symm)] at q9; exact q9)
          · exfalso; omega
        · skip
          refine x_aload_n C dX8_tries_40 0 rfl ?_
          refine x_get C (v := .ref (am 22 0)) f33 (T := TX8) rfl kX8_tries_1 22 (by decide) kX8_tries_3 rfl dX8_tries_41 ?_
          refine x_iload_n C dX8_tries_44 2 rfl ?_
          refine x_iald C f32 ⟨by omega, by omega⟩ (by decide) dX8_tries_45 ?_
          refine x_topv (show ((erF m u w_17 n)) (Int.toNat (((n : Nat) : Int))) = m 22 0 n from by exact erF_v) ?_
          refine x_iconst C dX8_tries_46 1 (by decide) ?_
          refine x_icmp_ne (tgt := 64) C dX8_tries_47 (by decide) (by omega) (by omega) (fun c41 => ?_) (fun c41 => ?_)
          · skip
            refine x_iconst C dX8_tries_64 0 (by decide) ?_
            refine x_istore_n C (ls' := [(0, .ref (am 0 0)), (1, vI u), (2, vI ((n : Nat) : Int)), (3, vI 0)]) dX8_tries_65 (by decide) rfl ?_
            refine x_aload_n C dX8_tries_66 0 rfl ?_
            refine x_get C (v := .ref (am 22 0)) f33 (T := TX8) rfl kX8_tries_1 22 (by decide) kX8_tries_3 rfl dX8_tries_67 ?_
            refine x_iload_n C dX8_tries_70 2 rfl ?_
            refine x_iload_n C dX8_tries_71 3 rfl ?_
            refine x_if_eq (tgt := 79) C dX8_tries_72 (by decide) (by omega) (fun c42 => ?_) (fun c42 => ?_)
            · skip
              refine x_aload_n C dX8_tries_79 0 rfl ?_
              refine x_get C (v := .ref (am 22 0)) f33 (T := TX8) rfl kX8_tries_1 22 (by decide) kX8_tries_3 rfl dX8_tries_80 ?_
              refine x_iload_n C dX8_tries_83 2 rfl ?_
              refine x_iald C f32 ⟨by omega, by omega⟩ (by decide) dX8_tries_84 ?_
              refine x_topv (show ((erF m u w_17 n)) (Int.toNat (((n : Nat) : Int))) = m 22 0 n from by exact erF_v) ?_
              refine x_iast C f32 ⟨by omega, by omega⟩ (by decide) dX8_tries_85 (x_hn (fun h43 e44 => ?_))
              have f45 : h43 (am 22 0) = some (eI D 6 (fu ((erF m u w_17 n)) (Int.toNat (((n : Nat) : Int))) (m 22 0 n))) := by rw [e44]; exact hu_s
              refine x_iinc C (x := ((n : Nat) : Int)) (ls' := [(0, .ref (am 0 0)), (1, vI u), (2, vI ((((n : Nat) : Int)) + 1)), (3, vI 0)]) dX8_tries_86 2 rfl (by decide) rfl ?_
              refine x_goto (tgt := 24) C dX8_tries_89 (by decide) ?_
              refine x_sub [0, 1, 2] (ls' := [(0, .ref (am 0 0)), (1, vI u), (2, vI ((((n : Nat) : Int)) + 1))]) rfl ?_
              have cp46 : MP D am h (cu (cu (cu (srM ((layN m sr9 96)) c_14 v_15 t_18 s_16 Q_19 F_20 R_21) 18 0 (fu (((srM ((layN m sr9 96)) c_14 v_15 t_18 s_16 Q_19 F_20 R_21) 18 0)) (Int.toNat u) w_17)) 22 0 (erF m u w_17 n)) 22 0 (fu ((erF m u w_17 n)) (Int.toNat (((n : Nat) : Int))) (m 22 0 n))) h43 := by rw [e44]; exact (MP.up hcp (lm0 (by decide)) (fu ((erF m u w_17 n)) (Int.toNat (((n : Nat) : Int))) (m 22 0 n)) rfl)
              exact ihLP (n + 1) h43 (by omega) (by omega) (by have q9 := cp46; rw [cu_u, show Int.toNat ((n : Nat) : Int) = n from rfl, erF_s (by first | exact (if_pos (by omega)).symm | exact (if_neg (by omega)).symm)] at q9; exact q9)
            · exfalso; omega
          · skip
            refine x_aload_n C dX8_tries_50 0 rfl ?_
            refine x_get C (v := .ref (am 23 0)) f33 (T := TX8) rfl kX8_tries_1 23 (by decide) kX8_tries_4 rfl dX8_tries_51 ?_
            refine x_iload_n C dX8_tries_54 2 rfl ?_
            have f47 : h29 (am 23 0) = some (eI D 6 (((cu (cu (srM ((layN m sr9 96)) c_14 v_15 t_18 s_16 Q_19 F_20 R_21) 18 0 (fu (((srM ((layN m sr9 96)) c_14 v_15 t_18 s_16 Q_19 F_20 R_21) 18 0)) (Int.toNat u) w_17)) 22 0 (erF m u w_17 n)) 23 0))) := hcp.1.1 23 0 (lm0 (by decide))
            refine x_iald C f47 ⟨by omega, by omega⟩ (by decide) dX8_tries_55 ?_
            refine x_topv (show (((cu (cu (srM ((layN m sr9 96)) c_14 v_15 t_18 s_16 Q_19 F_20 R_21) 18 0 (fu (((srM ((layN m sr9 96)) c_14 v_15 t_18 s_16 Q_19 F_20 R_21) 18 0)) (Int.toNat u) w_17)) 22 0 (erF m u w_17 n)) 23 0)) (Int.toNat (((n : Nat) : Int))) = m 23 0 n from by rfl) ?_
            refine x_iload_n C dX8_tries_56 1 rfl ?_
            refine x_icmp_ne (tgt := 64) C dX8_tries_57 (by decide) (by omega) (by omega) (fun c48 => ?_) (fun c48 => ?_)
            · skip
              refine x_iconst C dX8_tries_64 0 (by decide) ?_
              refine x_istore_n C (ls' := [(0, .ref (am 0 0)), (1, vI u), (2, vI ((n : Nat) : Int)), (3, vI 0)]) dX8_tries_65 (by decide) rfl ?_
              refine x_aload_n C dX8_tries_66 0 rfl ?_
              refine x_get C (v := .ref (am 22 0)) f33 (T := TX8) rfl kX8_tries_1 22 (by decide) kX8_tries_3 rfl dX8_tries_67 ?_
              refine x_iload_n C dX8_tries_70 2 rfl ?_
              refine x_iload_n C dX8_tries_71 3 rfl ?_
              refine x_if_eq (tgt := 79) C dX8_tries_72 (by decide) (by omega) (fun c49 => ?_) (fun c49 => ?_)
              · skip
                refine x_aload_n C dX8_tries_79 0 rfl ?_
                refine x_get C (v := .ref (am 22 0)) f33 (T := TX8) rfl kX8_tries_1 22 (by decide) kX8_tries_3 rfl dX8_tries_80 ?_
                refine x_iload_n C dX8_tries_83 2 rfl ?_
                refine x_iald C f32 ⟨by omega, by omega⟩ (by decide) dX8_tries_84 ?_
                refine x_topv (show ((erF m u w_17 n)) (Int.toNat (((n : Nat) : Int))) = m 22 0 n from by exact erF_v) ?_
                refine x_iast C f32 ⟨by omega, by omega⟩ (by decide) dX8_tries_85 (x_hn (fun h50 e51 => ?_))
                have f52 : h50 (am 22 0) = some (eI D 6 (fu ((erF m u w_17 n)) (Int.toNat (((n : Nat) : Int))) (m 22 0 n))) := by rw [e51]; exact hu_s
                refine x_iinc C (x := ((n : Nat) : Int)) (ls' := [(0, .ref (am 0 0)), (1, vI u), (2, vI ((((n : Nat) : Int)) + 1)), (3, vI 0)]) dX8_tries_86 2 rfl (by decide) rfl ?_
                refine x_goto (tgt := 24) C dX8_tries_89 (by decide) ?_
                refine x_sub [0, 1, 2] (ls' := [(0, .ref (am 0 0)), (1, vI u), (2, vI ((((n : Nat) : Int)) + 1))]) rfl ?_
                have cp53 : MP D am h (cu (cu (cu (srM ((layN m sr9 96)) c_14 v_15 t_18 s_16 Q_19 F_20 R_21) 18 0 (fu (((srM ((layN m sr9 96)) c_14 v_15 t_18 s_16 Q_19 F_20 R_21) 18 0)) (Int.toNat u) w_17)) 22 0 (erF m u w_17 n)) 22 0 (fu ((erF m u w_17 n)) (Int.toNat (((n : Nat) : Int))) (m 22 0 n))) h50 := by rw [e51]; exact (MP.up hcp (lm0 (by decide)) (fu ((erF m u w_17 n)) (Int.toNat (((n : Nat) : Int))) (m 22 0 n)) rfl)
                exact ihLP (n + 1) h50 (by omega) (by omega) (by have q9 := cp53; rw [cu_u, show Int.toNat ((n : Nat) : Int) = n from rfl, erF_s (by first | exact (if_pos (by omega)).symm | exact (if_neg (by omega)).symm)] at q9; exact q9)
              · exfalso; omega
            · skip
              refine x_iconst C dX8_tries_60 1 (by decide) ?_
              refine x_goto (tgt := 65) C dX8_tries_61 (by decide) ?_
              refine x_istore_n C (ls' := [(0, .ref (am 0 0)), (1, vI u), (2, vI ((n : Nat) : Int)), (3, vI 1)]) dX8_tries_65 (by decide) rfl ?_
              refine x_aload_n C dX8_tries_66 0 rfl ?_
              refine x_get C (v := .ref (am 22 0)) f33 (T := TX8) rfl kX8_tries_1 22 (by decide) kX8_tries_3 rfl dX8_tries_67 ?_
              refine x_iload_n C dX8_tries_70 2 rfl ?_
              refine x_iload_n C dX8_tries_71 3 rfl ?_
              refine x_if_eq (tgt := 79) C dX8_tries_72 (by decide) (by omega) (fun c54 => ?_) (fun c54 => ?_)
              · exfalso; omega
              · skip
                refine x_iconst C dX8_tries_75 4 (by decide) ?_
                refine x_goto (tgt := 85) C dX8_tries_76 (by decide) ?_
                refine x_iast C f32 ⟨by omega, by omega⟩ (by decide) dX8_tries_85 (x_hn (fun h55 e56 => ?_))
                have f57 : h55 (am 22 0) = some (eI D 6 (fu ((erF m u w_17 n)) (Int.toNat (((n : Nat) : Int))) 4)) := by rw [e56]; exact hu_s
                refine x_iinc C (x := ((n : Nat) : Int)) (ls' := [(0, .ref (am 0 0)), (1, vI u), (2, vI ((((n : Nat) : Int)) + 1)), (3, vI 1)]) dX8_tries_86 2 rfl (by decide) rfl ?_
                refine x_goto (tgt := 24) C dX8_tries_89 (by decide) ?_
                refine x_sub [0, 1, 2] (ls' := [(0, .ref (am 0 0)), (1, vI u), (2, vI ((((n : Nat) : Int)) + 1))]) rfl ?_
                have cp58 : MP D am h (cu (cu (cu (srM ((layN m sr9 96)) c_14 v_15 t_18 s_16 Q_19 F_20 R_21) 18 0 (fu (((srM ((layN m sr9 96)) c_14 v_15 t_18 s_16 Q_19 F_20 R_21) 18 0)) (Int.toNat u) w_17)) 22 0 (erF m u w_17 n)) 22 0 (fu ((erF m u w_17 n)) (Int.toNat (((n : Nat) : Int))) 4)) h55 := by rw [e56]; exact (MP.up hcp (lm0 (by decide)) (fu ((erF m u w_17 n)) (Int.toNat (((n : Nat) : Int))) 4) rfl)
                exact ihLP (n + 1) h55 (by omega) (by omega) (by have q9 := cp58; rw [cu_u, show Int.toNat ((n : Nat) : Int) = n from rfl, erF_s (by first | exact (if_pos (by omega)).symm | exact (if_neg (by omega)).symm)] at q9; exact q9)
  exact LP (7) 0 h25 (by omega) (by omega) (by rw [erF_0]; exact MPid rfl cp28)

noncomputable def vdB (m : CS) (kd : Int) (j : Nat) : Int := if m 6 0 j = -2 then 0 else bI (∃ x, x < 96 ∧ m 4 0 (96 * j + x) = kd)
theorem vdB_e (m : CS) (kd : Int) (j : Nat) : (m 6 0 j = -2 ∧ vdB m kd j = 0) ∨ (m 6 0 j ≠ -2 ∧ vdB m kd j = bI (∃ x, x < 96 ∧ m 4 0 (96 * j + x) = kd)) := by
  by_cases q : m 6 0 j = -2
  · exact Or.inl ⟨q, if_pos q⟩
  · exact Or.inr ⟨q, if_neg q⟩
noncomputable def vdF (m : CS) (kd : Int) (n : Nat) : Nat → Int := fun j => if j < n ∧ vdB m kd j ≠ 0 then -2 else m 6 0 j
theorem vdF_0 {m : CS} {kd : Int} : vdF m kd 0 = m 6 0 := by funext p; exact if_neg (by omega)
theorem vdF_v {m : CS} {kd : Int} {n : Nat} : vdF m kd n n = m 6 0 n := if_neg (by omega)
theorem vdF_s {m : CS} {kd : Int} {n : Nat} {v : Int} (hv : v = if vdB m kd n ≠ 0 then -2 else m 6 0 n) : fu (vdF m kd n) n v = vdF m kd (n + 1) := by
  funext p
  unfold fu vdF
  by_cases q : p = n
  · rw [if_pos q, q, hv]
    by_cases z : vdB m kd n ≠ 0
    · rw [if_pos z, if_pos ⟨by omega, z⟩]
    · rw [if_neg z, if_neg (fun y => z y.2)]
  · rw [if_neg q]
    by_cases z : p < n ∧ vdB m kd p ≠ 0
    · rw [if_pos z, if_pos ⟨by omega, z.2⟩]
    · rw [if_neg z, if_neg (fun y => z ⟨by omega, y.2⟩)]
def StepR (kd : Int) (j : Nat) (m1 m4 : CS) : Prop := (bI (∃ x, x < 96 ∧ m1 16 0 (96 * j + x) = kd) = 0 ∧ m4 = m1) ∨ (¬ bI (∃ x, x < 96 ∧ m1 16 0 (96 * j + x) = kd) = 0 ∧ ∃ w, FdR m1 (rwM (m1 16 0) (96 * j)) (m1 17 0 j) w ∧ (-1 ≤ w ∧ w ≤ 6145) ∧ SM (trN m1 j w) m4)
def SPR (kd : Int) (m0 : CS) : Nat → CS → Prop
  | 0, m => SM m0 m
  | n + 1, m => ∃ m1, SPR kd m0 n m1 ∧ StepR kd n m1 m
/-- what the trying of works leaves -/
def KR (m0 m : CS) : Prop := (∀ k i, 1 ≤ k → k < 28 → k ≠ 18 → k ≠ 22 → m k i = m0 k i) ∧ m 0 0 2 = m0 0 0 2 ∧ m 0 0 14 = m0 0 0 14 ∧ (GK m0 → GK m) ∧ ((∀ p : Nat, p < 6 → 0 ≤ m0 22 0 p ∧ m0 22 0 p ≤ 4) → ∀ p : Nat, p < 6 → 0 ≤ m 22 0 p ∧ m 22 0 p ≤ 4)
theorem KR.sm {a b c : CS} (h : KR a b) (g : SM b c) : KR a c := ⟨fun k i h1 h2 h3 h4 => (g.1 k i h1 h2).trans (h.1 k i h1 h2 h3 h4), g.2.1.trans h.2.1, g.2.2.1.trans h.2.2.1, fun z => g.2.2.2 (h.2.2.2.1 z), fun z p hp => by rw [g.1 22 0 (by decide) (by decide)]; exact h.2.2.2.2 z p hp⟩
theorem KR.rf {a : CS} : KR a a := ⟨fun _ _ _ _ _ _ => rfl, rfl, rfl, id, id⟩
theorem KR.tn {a b : CS} {u : Nat} {w : Int} (h : KR a b) : KR a (trN b u w) := by
  obtain ⟨h1, h2, h3, h4, h5⟩ := h
  refine ⟨fun k i a1 a2 a3 a4 => ?_, h2, h3, fun z => ?_, fun z p hp => ?_⟩
  · unfold trN
    rw [cu_n (fun z => a4 z.1), cu_n (fun z => a3 z.1)]; exact h1 k i a1 a2 a3 a4
  · unfold trN
    exact (GK.cu (by omega) (by omega)).mpr ((GK.cu (by omega) (by omega)).mpr (h4 z))
  · have e : trN b u w 22 0 = erF b u w 6 := cu_s
    rw [e]
    unfold erF
    split
    · decide
    · exact h5 z p hp
theorem SPR.kr {kd : Int} {m0 : CS} : ∀ {n : Nat} {m : CS}, SPR kd m0 n m → KR m0 m
  | 0, m, h => KR.rf.sm h
  | n + 1, m, h => by
    obtain ⟨m1, h1, h2⟩ := h
    have h3 := SPR.kr h1
    rcases h2 with ⟨_, rfl⟩ | ⟨_, w, _, _, h4⟩
    · exact h3
    · exact h3.tn.sm h4

theorem kX8_setSpring_0 : Cond.fieldLink "LedgeLevelsModel" 101 "LedgeLevelsModel" "thrown" "I" ∈ wsX8_setSpring := by decide +kernel
theorem kX8_setSpring_1 : ∀ w ∈ wsX80, w ∈ wsX8_setSpring := by decide +kernel
theorem kX8_setSpring_2 : Cond.fieldLink "LedgeLevelsModel" 7 "LedgeLevelsModel" "strength" "[I" ∈ wsX8_setSpring := by decide +kernel
theorem kX8_setSpring_3 : Cond.fieldLink "LedgeLevelsModel" 109 "LedgeLevelsModel" "levels" "I" ∈ wsX8_setSpring := by decide +kernel
theorem kX8_setSpring_4 : Cond.fieldLink "LedgeLevelsModel" 112 "LedgeLevelsModel" "works" "I" ∈ wsX8_setSpring := by decide +kernel
theorem kX8_setSpring_5 : Cond.fieldLink "LedgeLevelsModel" 22 "LedgeLevelsModel" "proofs" "[I" ∈ wsX8_setSpring := by decide +kernel
set_option maxRecDepth 100000 in
set_option maxHeartbeats 4000000 in
theorem c_X8_setSpring {l : Launch} {D : va_G} {A : Nat → Prop} {h : vh} {am : AD} {m : CS} {u z : Int}  (hR : RepM D am m h) (hM1 : Mk1 m) (hi_u : -2147483648 ≤ u ∧ u ≤ 2147483647) (hi_z : -2147483648 ≤ z ∧ z ≤ 2147483647) (hG4 : ∀ i j : Nat, (i : Int) < m 0 0 2 → j < 96 → 0 ≤ m 4 0 (96 * i + j) ∧ m 4 0 (96 * i + j) ≤ 8) (hpf : ∀ i : Nat, (i : Int) < m 0 0 2 → -2 ≤ m 6 0 i ∧ m 6 0 i ≤ 7000) (hG16 : ∀ i j : Nat, (i : Int) < m 0 0 14 → j < 96 → 0 ≤ m 16 0 (96 * i + j) ∧ m 16 0 (96 * i + j) ≤ 8) (hKW : ∀ i : Nat, (i : Int) < m 0 0 14 → lyA (rwM (m 16 0) (96 * i)) 96 ≤ 7) (hGK : GK m) (hSS : ∀ j, 0 ≤ m 1 0 j ∧ m 1 0 j ≤ 4) (hfrm : ∀ i : Nat, (i : Int) < m 0 0 14 → 0 ≤ m 17 0 i ∧ m 17 0 i ≤ 95) (hrb : ∀ p : Nat, p < 6 → (0 ≤ m 22 0 p ∧ m 22 0 p ≤ 4) ∧ (-2147483648 ≤ m 23 0 p ∧ m 23 0 p ≤ 2147483647)) : MX l D A yX8_setSpring wsX8_setSpring { frames := 5, cells := 0, slots := 0, locals := 120 } [.ref (am 0 0), vI u, vI z] h (fun rv h' => ∃ (r : Int) (m1 : CS), rv = some (vI r) ∧ MP D am h (m1) h' ∧ ((m1 0 0 0 = 1 ∧ (¬ (0 ≤ u ∧ u < 3)) ∧ SM m m1) ∨ (m1 0 0 0 = 2 ∧ ((0 ≤ u ∧ u < 3) ∧ ¬ (1 ≤ z ∧ z ≤ 4)) ∧ SM m m1) ∨ (m1 0 0 0 = 0 ∧ ((0 ≤ u ∧ u < 3) ∧ (1 ≤ z ∧ z ≤ 4) ∧ m 1 0 u.toNat = z) ∧ r = 0 ∧ SM m m1) ∨ (m1 0 0 0 = 0 ∧ ((0 ≤ u ∧ u < 3) ∧ (1 ≤ z ∧ z ≤ 4) ∧ m 1 0 u.toNat ≠ z) ∧ r = sumN (vdB m (6 + u)) (m 0 0 2).toNat ∧ SPR (6 + u) (cu (cu m 1 0 (fu (m 1 0) u.toNat z)) 6 0 (vdF m (6 + u) (m 0 0 2).toNat)) (m 0 0 14).toNat m1))) := by
  refine MX.of (cc := cX8_setSpring) (maxL := 6) (ret := (some .int)) [(0, .ref (am 0 0)), (1, vI u), (2, vI z)] (by decide +kernel) rfl rfl (Nat.le_of_ble_eq_true rfl) ?_
  intro κ C hkl G
  subst hkl
  have C : CX κ "LedgeLevelsModel" "setSpring" cX8_setSpring wsX8_setSpring { frames := 5, cells := 0, slots := 0, locals := 120 } D A 6 := C
  have hiz : nq (D.1 20) (D.1 21) := cx_iz C
  obtain ⟨hM1a, hM1b⟩ := id hM1
  refine x_aload_n C dX8_setSpring_0 0 rfl ?_
  refine x_iconst C dX8_setSpring_1 0 (by decide) ?_
  have f1 : h (am 0 0) = some (eO 8 [vI (m 0 0 0), .ref (am 1 0), vI (m 0 0 2), .ref (am 3 0), .ref (am 4 0), .ref (am 5 0), .ref (am 6 0), .ref (am 7 0), .ref (am 8 0), .ref (am 9 0), .ref (am 10 0), .ref (am 11 0), .ref (am 12 0), .ref (am 13 0), vI (m 0 0 14), .ref (am 15 0), .ref (am 16 0), .ref (am 17 0), .ref (am 18 0), .ref (am 19 0), .ref (am 20 0), .ref (am 21 0), .ref (am 22 0), .ref (am 23 0), .ref (am 24 0), .ref (am 25 0), .ref (am 26 0), .ref (am 27 0), .ref (am 28 0), .ref (am 29 0), vI (((m 0 0 30).toNat : Nat) : Int), vI (m 0 0 31), vI (m 0 0 32), vI (((m 0 0 33).toNat : Nat) : Int), vI (m 0 0 34), .ref (am 35 0), .ref (am 36 0), .ref (am 37 0)]) := hR.1 0 0 (lm0 (by decide))
  refine x_put C f1 (T := TX8) rfl tyX8_ok nmX8 kX8_setSpring_1 0 (by decide) kX8_setSpring_0 rfl (fs' := [vI 0, .ref (am 1 0), vI (m 0 0 2), .ref (am 3 0), .ref (am 4 0), .ref (am 5 0), .ref (am 6 0), .ref (am 7 0), .ref (am 8 0), .ref (am 9 0), .ref (am 10 0), .ref (am 11 0), .ref (am 12 0), .ref (am 13 0), vI (m 0 0 14), .ref (am 15 0), .ref (am 16 0), .ref (am 17 0), .ref (am 18 0), .ref (am 19 0), .ref (am 20 0), .ref (am 21 0), .ref (am 22 0), .ref (am 23 0), .ref (am 24 0), .ref (am 25 0), .ref (am 26 0), .ref (am 27 0), .ref (am 28 0), .ref (am 29 0), vI (((m 0 0 30).toNat : Nat) : Int), vI (m 0 0 31), vI (m 0 0 32), vI (((m 0 0 33).toNat : Nat) : Int), vI (m 0 0 34), .ref (am 35 0), .ref (am 36 0), .ref (am 37 0)]) rfl rfl (by simp) rfl dX8_setSpring_2 (x_hn (fun h2 e3 => ?_))
  have f4 : h2 (am 0 0) = some (eO 8 [vI 0, .ref (am 1 0), vI (m 0 0 2), .ref (am 3 0), .ref (am 4 0), .ref (am 5 0), .ref (am 6 0), .ref (am 7 0), .ref (am 8 0), .ref (am 9 0), .ref (am 10 0), .ref (am 11 0), .ref (am 12 0), .ref (am 13 0), vI (m 0 0 14), .ref (am 15 0), .ref (am 16 0), .ref (am 17 0), .ref (am 18 0), .ref (am 19 0), .ref (am 20 0), .ref (am 21 0), .ref (am 22 0), .ref (am 23 0), .ref (am 24 0), .ref (am 25 0), .ref (am 26 0), .ref (am 27 0), .ref (am 28 0), .ref (am 29 0), vI (((m 0 0 30).toNat : Nat) : Int), vI (m 0 0 31), vI (m 0 0 32), vI (((m 0 0 33).toNat : Nat) : Int), vI (m 0 0 34), .ref (am 35 0), .ref (am 36 0), .ref (am 37 0)]) := by rw [e3]; exact hu_s
  refine x_iload_n C dX8_setSpring_5 1 rfl ?_
  refine x_iconst C dX8_setSpring_6 0 (by decide) ?_
  refine x_iconst C dX8_setSpring_7 2 (by decide) ?_
  refine x_callS C (n := 3) (As := [vI u, vI 0, vI 2]) (rest := []) (c_X8_in (by omega) (by omega) (by omega)) gX8_setSpring_X8_in (by decide +kernel) rfl rfl rfl (Nat.le_of_ble_eq_true rfl) ⟨by decide, by decide⟩ ⟨(by decide), (by decide)⟩ dX8_setSpring_8 (fun rv6 h7 hp8 => ?_)
  obtain ⟨rfl, e9⟩ := hp8
  obtain rfl := e9.symm
  have hbr5 := bI_cs ((0 ≤ u ∧ u ≤ 2))
  refine x_if_ne (tgt := 20) C dX8_setSpring_11 (by decide) (by omega) (fun c10 => ?_) (fun c10 => ?_)
  · skip
    refine x_iload_n C dX8_setSpring_20 2 rfl ?_
    refine x_iconst C dX8_setSpring_21 1 (by decide) ?_
    refine x_iconst C dX8_setSpring_22 4 (by decide) ?_
    refine x_callS C (n := 3) (As := [vI z, vI 1, vI 4]) (rest := []) (c_X8_in (by omega) (by omega) (by omega)) gX8_setSpring_X8_in (by decide +kernel) rfl rfl rfl (Nat.le_of_ble_eq_true rfl) ⟨by decide, by decide⟩ ⟨(by decide), (by decide)⟩ dX8_setSpring_23 (fun rv12 h13 hp14 => ?_)
    obtain ⟨rfl, e15⟩ := hp14
    obtain rfl := e15.symm
    have hbr11 := bI_cs ((1 ≤ z ∧ z ≤ 4))
    refine x_if_ne (tgt := 35) C dX8_setSpring_26 (by decide) (by omega) (fun c16 => ?_) (fun c16 => ?_)
    · skip
      refine x_iconst C dX8_setSpring_35 0 (by decide) ?_
      refine x_istore_n C (ls' := [(0, .ref (am 0 0)), (1, vI u), (2, vI z), (3, vI 0)]) dX8_setSpring_36 (by decide) rfl ?_
      have hs9 := hSS u.toNat
      refine x_aload_n C dX8_setSpring_37 0 rfl ?_
      refine x_get C (v := .ref (am 1 0)) f4 (T := TX8) rfl kX8_setSpring_1 1 (by decide) kX8_setSpring_2 rfl dX8_setSpring_38 ?_
      refine x_iload_n C dX8_setSpring_41 1 rfl ?_
      have f17 : h (am 1 0) = some (eI D 3 (m 1 0)) := hR.1 1 0 (lm0 (by decide))
      have f18 : h2 (am 1 0) = some (eI D 3 (m 1 0)) := by rw [e3, hu_n (hR.ne (lm0 (by decide)) (lm0 (by decide)) (fun zz9 => absurd zz9.1 (by decide)))]; exact f17
      refine x_iald C f18 ⟨by omega, by omega⟩ (by decide) dX8_setSpring_42 ?_
      refine x_topv (show (m 1 0) (Int.toNat u) = m 1 0 u.toNat from by rfl) ?_
      refine x_iload_n C dX8_setSpring_43 2 rfl ?_
      refine x_icmp_eq (tgt := 178) C dX8_setSpring_44 (by decide) (by omega) (by omega) (fun c19 => ?_) (fun c19 => ?_)
      · skip
        refine x_iload_n C dX8_setSpring_178 3 rfl ?_
        refine x_iret C G dX8_setSpring_179 ?_ (by decide) (by decide)
        have cp20 : MP D am h (cu m 0 0 ((fu (m 0 0) 0 0))) h2 := by rw [e3]; exact (MP.up (MP.rf hR) (lm0 (by decide)) ((fu (m 0 0) 0 0)) rfl)
        exact ⟨_, _, rfl, cp20, Or.inr (Or.inr (Or.inl ⟨rfl, by omega, rfl, (by repeat (first | exact SM.rf | refine SM.th ?_ | refine SM.o2 ?_ | refine SM.o14 ?_ | refine SM.sr ?_ | refine SM.ly (by assumption) (by assumption) ?_ | refine SM.bm ?_ | refine SM.st ?_ | refine SM.mv ?_ | refine SM.up (by decide) ?_))⟩))⟩
      · skip
        refine x_aload_n C dX8_setSpring_47 0 rfl ?_
        refine x_get C (v := .ref (am 1 0)) f4 (T := TX8) rfl kX8_setSpring_1 1 (by decide) kX8_setSpring_2 rfl dX8_setSpring_48 ?_
        refine x_iload_n C dX8_setSpring_51 1 rfl ?_
        refine x_iload_n C dX8_setSpring_52 2 rfl ?_
        refine x_iast C f18 ⟨by omega, by omega⟩ (by decide) dX8_setSpring_53 (x_hn (fun h21 e22 => ?_))
        have f23 : h21 (am 1 0) = some (eI D 3 (fu (m 1 0) (Int.toNat u) z)) := by rw [e22]; exact hu_s
        refine x_iconst C dX8_setSpring_54 0 (by decide) ?_
        refine x_istore C (ls' := [(0, .ref (am 0 0)), (1, vI u), (2, vI z), (3, vI 0), (4, vI 0)]) dX8_setSpring_55 (by decide) rfl ?_
        have LL : ∀ (N : Nat) (n : Nat) (h24 : vh)   (hnL : (n : Int) ≤ m 0 0 2) (hN : 12 - n < N) (hne : m 1 0 u.toNat ≠ z) (hus : (0 ≤ u ∧ u < 3) ∧ 1 ≤ z ∧ z ≤ 4) (hcp : MP D am h (cu (cu (cu m 0 0 (fu (m 0 0) 0 0)) 1 0 (fu (m 1 0) u.toNat z)) 6 0 (vdF m (6 + u) n)) h24), X κ 0 0 h24 [(0, .ref (am 0 0)), (1, vI u), (2, vI z), (3, vI (sumN (vdB m (6 + u)) n)), (4, vI ((n : Nat) : Int))] 57 [] := by
          intro N
          induction N with
          | zero => intro n h24 hnL hN hne hus hcp; exfalso; omega
          | succ N ihLL =>
            intro n h24 hnL hN hne hus hcp
            refine x_iload C dX8_setSpring_57 4 rfl ?_
            refine x_aload_n C dX8_setSpring_59 0 rfl ?_
            have f25 : h24 (am 0 0) = some (eO 8 [vI (((cu (cu (cu m 0 0 (fu (m 0 0) 0 0)) 1 0 (fu (m 1 0) u.toNat z)) 6 0 (vdF m (6 + u) n)) 0 0) 0), .ref (am 1 0), vI (((cu (cu (cu m 0 0 (fu (m 0 0) 0 0)) 1 0 (fu (m 1 0) u.toNat z)) 6 0 (vdF m (6 + u) n)) 0 0) 2), .ref (am 3 0), .ref (am 4 0), .ref (am 5 0), .ref (am 6 0), .ref (am 7 0), .ref (am 8 0), .ref (am 9 0), .ref (am 10 0), .ref (am 11 0), .ref (am 12 0), .ref (am 13 0), vI (((cu (cu (cu m 0 0 (fu (m 0 0) 0 0)) 1 0 (fu (m 1 0) u.toNat z)) 6 0 (vdF m (6 + u) n)) 0 0) 14), .ref (am 15 0), .ref (am 16 0), .ref (am 17 0), .ref (am 18 0), .ref (am 19 0), .ref (am 20 0), .ref (am 21 0), .ref (am 22 0), .ref (am 23 0), .ref (am 24 0), .ref (am 25 0), .ref (am 26 0), .ref (am 27 0), .ref (am 28 0), .ref (am 29 0), vI (((((cu (cu (cu m 0 0 (fu (m 0 0) 0 0)) 1 0 (fu (m 1 0) u.toNat z)) 6 0 (vdF m (6 + u) n)) 0 0) 30).toNat : Nat) : Int), vI (((cu (cu (cu m 0 0 (fu (m 0 0) 0 0)) 1 0 (fu (m 1 0) u.toNat z)) 6 0 (vdF m (6 + u) n)) 0 0) 31), vI (((cu (cu (cu m 0 0 (fu (m 0 0) 0 0)) 1 0 (fu (m 1 0) u.toNat z)) 6 0 (vdF m (6 + u) n)) 0 0) 32), vI (((((cu (cu (cu m 0 0 (fu (m 0 0) 0 0)) 1 0 (fu (m 1 0) u.toNat z)) 6 0 (vdF m (6 + u) n)) 0 0) 33).toNat : Nat) : Int), vI (((cu (cu (cu m 0 0 (fu (m 0 0) 0 0)) 1 0 (fu (m 1 0) u.toNat z)) 6 0 (vdF m (6 + u) n)) 0 0) 34), .ref (am 35 0), .ref (am 36 0), .ref (am 37 0)]) := hcp.1.1 0 0 (lm0 (by decide))
            refine x_get C (v := vI (((cu (cu (cu m 0 0 (fu (m 0 0) 0 0)) 1 0 (fu (m 1 0) u.toNat z)) 6 0 (vdF m (6 + u) n)) 0 0) 2)) f25 (T := TX8) rfl kX8_setSpring_1 2 (by decide) kX8_setSpring_3 rfl dX8_setSpring_60 ?_
            refine x_topv (show ((cu (cu (cu m 0 0 (fu (m 0 0) 0 0)) 1 0 (fu (m 1 0) u.toNat z)) 6 0 (vdF m (6 + u) n)) 0 0) 2 = m 0 0 2 from by rfl) ?_
            refine x_icmp_ge (tgt := 141) C dX8_setSpring_63 (by decide) (by omega) (by omega) (fun c26 => ?_) (fun c26 => ?_)
            · skip
              have hnn : (m 0 0 2).toNat = n := by omega
              refine x_iconst C dX8_setSpring_141 0 (by decide) ?_
              refine x_istore C (ls' := [(0, .ref (am 0 0)), (1, vI u), (2, vI z), (3, vI (sumN (vdB m (6 + u)) n)), (4, vI 0)]) dX8_setSpring_142 (by decide) rfl ?_
              have LW : ∀ (M : Nat) (k : Nat) (q9 : Int) (m3 : CS) (h27 : vh)   (hq9 : q9 = sumN (vdB m (6 + u)) (m 0 0 2).toNat) (hkW : (k : Int) ≤ m 0 0 14) (hM : 20 - k < M) (hne : m 1 0 u.toNat ≠ z) (hus : (0 ≤ u ∧ u < 3) ∧ 1 ≤ z ∧ z ≤ 4) (hSP : SPR (6 + u) (cu (cu m 1 0 (fu (m 1 0) u.toNat z)) 6 0 (vdF m (6 + u) (m 0 0 2).toNat)) k m3) (ht3 : m3 0 0 0 = 0) (hcp : MP D am h m3 h27), X κ 0 0 h27 [(0, .ref (am 0 0)), (1, vI u), (2, vI z), (3, vI q9), (4, vI ((k : Nat) : Int))] 144 [] := by
                intro M
                induction M with
                | zero => intro k q9 m3 h27 hq9 hkW hM hne hus hSP ht3 hcp; exfalso; omega
                | succ M ihLW =>
                  intro k q9 m3 h27 hq9 hkW hM hne hus hSP ht3 hcp
                  obtain ⟨r1, r2, r3, r4, r5⟩ := hSP.kr
                  have e14 : m3 0 0 14 = m 0 0 14 := r3
                  have e2 : m3 0 0 2 = m 0 0 2 := r2
                  refine x_iload C dX8_setSpring_144 4 rfl ?_
                  refine x_aload_n C dX8_setSpring_146 0 rfl ?_
                  have f28 : h27 (am 0 0) = some (eO 8 [vI (m3 0 0 0), .ref (am 1 0), vI (m3 0 0 2), .ref (am 3 0), .ref (am 4 0), .ref (am 5 0), .ref (am 6 0), .ref (am 7 0), .ref (am 8 0), .ref (am 9 0), .ref (am 10 0), .ref (am 11 0), .ref (am 12 0), .ref (am 13 0), vI (m3 0 0 14), .ref (am 15 0), .ref (am 16 0), .ref (am 17 0), .ref (am 18 0), .ref (am 19 0), .ref (am 20 0), .ref (am 21 0), .ref (am 22 0), .ref (am 23 0), .ref (am 24 0), .ref (am 25 0), .ref (am 26 0), .ref (am 27 0), .ref (am 28 0), .ref (am 29 0), vI (((m3 0 0 30).toNat : Nat) : Int), vI (m3 0 0 31), vI (m3 0 0 32), vI (((m3 0 0 33).toNat : Nat) : Int), vI (m3 0 0 34), .ref (am 35 0), .ref (am 36 0), .ref (am 37 0)]) := hcp.1.1 0 0 (lm0 (by decide))
                  refine x_get C (v := vI (m3 0 0 14)) f28 (T := TX8) rfl kX8_setSpring_1 14 (by decide) kX8_setSpring_4 rfl dX8_setSpring_147 ?_
                  refine x_topv (show m3 0 0 14 = m 0 0 14 from by exact e14) ?_
                  refine x_icmp_ge (tgt := 178) C dX8_setSpring_150 (by decide) (by omega) (by omega) (fun c29 => ?_) (fun c29 => ?_)
                  · skip
                    refine x_iload_n C dX8_setSpring_178 3 rfl ?_
                    refine x_iret C G dX8_setSpring_179 ?_ (by decide) (by decide)
                    have hk14 : k = (m 0 0 14).toNat := by omega
                    exact ⟨_, m3, rfl, hcp, Or.inr (Or.inr (Or.inr ⟨ht3, by omega, hq9, by rw [← hk14]; exact hSP⟩))⟩
                  · skip
                    have e16 : m3 16 0 = m 16 0 := r1 16 0 (by decide) (by decide) (by decide) (by decide)
                    have e17 : m3 17 0 = m 17 0 := r1 17 0 (by decide) (by decide) (by decide) (by decide)
                    have e23 : m3 23 0 = m 23 0 := r1 23 0 (by decide) (by decide) (by decide) (by decide)
                    have e1 : m3 1 0 = fu (m 1 0) u.toNat z := r1 1 0 (by decide) (by decide) (by decide) (by decide)
                    have hg9 : ∀ j : Nat, j < 96 → 0 ≤ m3 16 0 (96 * k + j) ∧ m3 16 0 (96 * k + j) ≤ 8 := fun j hj => by rw [e16]; exact hG16 k j (by omega) hj
                    have hk20 : 0 ≤ ((k : Nat) : Int) ∧ ((k : Nat) : Int) < 20 := by omega
                    have hk32 : -2147483648 ≤ 6 + u ∧ 6 + u ≤ 2147483647 := by omega
                    have b9 := bI_01 (∃ x, x < 96 ∧ m3 16 0 (96 * k + x) = 6 + u)
                    have a1 : Mk1 m3 := by unfold Mk1; rw [e2, e14]; exact hM1
                    have a2 : 0 ≤ ((k : Nat) : Int) ∧ ((k : Nat) : Int) < m3 0 0 14 := by omega
                    have a3 : ∀ i j : Nat, (i : Int) < m3 0 0 14 → j < 96 → 0 ≤ m3 16 0 (96 * i + j) ∧ m3 16 0 (96 * i + j) ≤ 8 := by rw [e14, e16]; exact hG16
                    have a4 : ∀ i : Nat, (i : Int) < m3 0 0 14 → lyA (rwM (m3 16 0) (96 * i)) 96 ≤ 7 := by rw [e14, e16]; exact hKW
                    have a5 : GK m3 := r4 hGK
                    have a6 : ∀ j, 0 ≤ m3 1 0 j ∧ m3 1 0 j ≤ 4 := fun j => by rw [e1]; unfold fu; split; omega; exact hSS j
                    have a7 : ∀ i : Nat, (i : Int) < m3 0 0 14 → 0 ≤ m3 17 0 i ∧ m3 17 0 i ≤ 95 := by rw [e14, e17]; exact hfrm
                    have a8 : ∀ p : Nat, p < 6 → (0 ≤ m3 22 0 p ∧ m3 22 0 p ≤ 4) ∧ (-2147483648 ≤ m3 23 0 p ∧ m3 23 0 p ≤ 2147483647) := fun p hp => ⟨r5 (fun p hp => (hrb p hp).1) p hp, by rw [e23]; exact (hrb p hp).2⟩
                    refine x_aload_n C dX8_setSpring_153 0 rfl ?_
                    refine x_iload C dX8_setSpring_154 4 rfl ?_
                    refine x_bipush C dX8_setSpring_156 6 (by decide) ?_
                    refine x_iload_n C dX8_setSpring_158 1 rfl ?_
                    refine x_iadd C dX8_setSpring_159 ?_
                    refine x_callV C (n := 2) (qc := (RX8, TX8, 38)) (As := [vI ((k : Nat) : Int), vI (6 + u)]) (rest := []) (c_X8_isInWork (hcp.1) (hk20) (hk32) (hg9)) gX8_setSpring_X8_isInWork (by decide +kernel) f28 rfl rfl rfl rfl (Nat.le_of_ble_eq_true rfl) ⟨by decide, by decide⟩ ⟨(by decide), (by decide)⟩ dX8_setSpring_160 (fun rv30 h31 hp32 => ?_)
                    obtain ⟨rfl, e33⟩ := hp32
                    obtain rfl := e33.symm
                    refine x_topv (show bI (∃ x, x < 96 ∧ m3 16 0 (96 * k + x) = (6 + u)) = bI (∃ x, x < 96 ∧ m3 16 0 (96 * k + x) = 6 + u) from by rfl) ?_
                    refine x_if_eq (tgt := 172) C dX8_setSpring_163 (by decide) (by omega) (fun c34 => ?_) (fun c34 => ?_)
                    · skip
                      refine x_iinc C (x := ((k : Nat) : Int)) (ls' := [(0, .ref (am 0 0)), (1, vI u), (2, vI z), (3, vI q9), (4, vI ((((k : Nat) : Int)) + 1))]) dX8_setSpring_172 4 rfl (by decide) rfl ?_
                      refine x_goto (tgt := 144) C dX8_setSpring_175 (by decide) ?_
                      exact ihLW (k + 1) q9 m3 h27 (hq9) (by omega) (by omega) (by omega) (by omega) (⟨m3, hSP, Or.inl ⟨by omega, rfl⟩⟩) (ht3) (hcp)
                    · skip
                      refine x_aload_n C dX8_setSpring_166 0 rfl ?_
                      refine x_iload C dX8_setSpring_167 4 rfl ?_
                      refine x_callV C (n := 1) (qc := (RX8, TX8, 38)) (As := [vI ((k : Nat) : Int)]) (rest := []) (c_X8_tries (hcp.1) (a1) (a2) (a3) (a4) (a5) (a6) (a7) (a8)) gX8_setSpring_X8_tries (by decide +kernel) f28 rfl rfl rfl rfl (Nat.le_of_ble_eq_true rfl) ⟨by decide, by decide⟩ ⟨(by decide), (by decide)⟩ dX8_setSpring_169 (fun rv35 h36 hp37 => ?_)
                      obtain ⟨w_39, m_40, rfl, cp41, hF_169, hw_169, hS_169, ht0_169⟩ := hp37
                      have cp42 : MP D am h (m_40) h36 := MP.trans hcp cp41
                      refine x_iinc C (x := ((k : Nat) : Int)) (ls' := [(0, .ref (am 0 0)), (1, vI u), (2, vI z), (3, vI q9), (4, vI ((((k : Nat) : Int)) + 1))]) dX8_setSpring_172 4 rfl (by decide) rfl ?_
                      refine x_goto (tgt := 144) C dX8_setSpring_175 (by decide) ?_
                      exact ihLW (k + 1) q9 m_40 h36 (hq9) (by omega) (by omega) (by omega) (by omega) (⟨m3, hSP, Or.inr ⟨by omega, w_39, hF_169, hw_169, hS_169⟩⟩) (ht0_169.trans ht3) (cp42)
              exact LW (21) 0 (sumN (vdB m (6 + u)) n) ((cu (cu (cu m 0 0 (fu (m 0 0) 0 0)) 1 0 (fu (m 1 0) u.toNat z)) 6 0 (vdF m (6 + u) n))) h24 (by rw [hnn]) (by omega) (by omega) (by omega) (by omega) (by show SM (cu (cu m 1 0 (fu (m 1 0) u.toNat z)) 6 0 (vdF m (6 + u) (m 0 0 2).toNat)) (cu (cu (cu m 0 0 (fu (m 0 0) 0 0)) 1 0 (fu (m 1 0) u.toNat z)) 6 0 (vdF m (6 + u) n)); rw [show (m 0 0 2).toNat = n by omega]; exact SM.up9 (by decide) rfl (SM.up9 (by decide) rfl (SM.th SM.rf))) (rfl) (hcp)
            · skip
              have f43 : h24 (am 6 0) = some (eI D 12 (((cu (cu (cu m 0 0 (fu (m 0 0) 0 0)) 1 0 (fu (m 1 0) u.toNat z)) 6 0 (vdF m (6 + u) n)) 6 0))) := hcp.1.1 6 0 (lm0 (by decide))
              have f44 : h24 (am 6 0) = some (eI D 12 ((vdF m (6 + u) n))) := by have q9 := f43; exact q9
              have hp9 := hpf n (by omega)
              have e9 := vdB_e m (6 + u) n
              have b9 := bI_01 (∃ x, x < 96 ∧ m 4 0 (96 * n + x) = 6 + u)
              have hg9 : ∀ j : Nat, j < 96 → 0 ≤ m 4 0 (96 * n + j) ∧ m 4 0 (96 * n + j) ≤ 8 := fun j hj => hG4 n j (by omega) hj
              have hn12 : 0 ≤ ((n : Nat) : Int) ∧ ((n : Nat) : Int) < 12 := by omega
              have hk32 : -2147483648 ≤ 6 + u ∧ 6 + u ≤ 2147483647 := by omega
              refine x_aload_n C dX8_setSpring_66 0 rfl ?_
              refine x_get C (v := .ref (am 6 0)) f25 (T := TX8) rfl kX8_setSpring_1 6 (by decide) kX8_setSpring_5 rfl dX8_setSpring_67 ?_
              refine x_iload C dX8_setSpring_70 4 rfl ?_
              refine x_iald C f44 ⟨by omega, by omega⟩ (by decide) dX8_setSpring_72 ?_
              refine x_topv (show ((vdF m (6 + u) n)) (Int.toNat (((n : Nat) : Int))) = m 6 0 n from by exact vdF_v) ?_
              refine x_bipush C dX8_setSpring_73 (-2) (by decide) ?_
              refine x_icmp_eq (tgt := 95) C dX8_setSpring_75 (by decide) (by omega) (by omega) (fun c45 => ?_) (fun c45 => ?_)
              · skip
                refine x_iconst C dX8_setSpring_95 0 (by decide) ?_
                refine x_istore C (ls' := [(0, .ref (am 0 0)), (1, vI u), (2, vI z), (3, vI (sumN (vdB m (6 + u)) n)), (4, vI ((n : Nat) : Int)), (5, vI 0)]) dX8_setSpring_96 (by decide) rfl ?_
                refine x_aload_n C dX8_setSpring_98 0 rfl ?_
                refine x_get C (v := .ref (am 6 0)) f25 (T := TX8) rfl kX8_setSpring_1 6 (by decide) kX8_setSpring_5 rfl dX8_setSpring_99 ?_
                refine x_iload C dX8_setSpring_102 4 rfl ?_
                refine x_iload C dX8_setSpring_104 5 rfl ?_
                refine x_if_eq (tgt := 114) C dX8_setSpring_106 (by decide) (by omega) (fun c46 => ?_) (fun c46 => ?_)
                · skip
                  refine x_aload_n C dX8_setSpring_114 0 rfl ?_
                  refine x_get C (v := .ref (am 6 0)) f25 (T := TX8) rfl kX8_setSpring_1 6 (by decide) kX8_setSpring_5 rfl dX8_setSpring_115 ?_
                  refine x_iload C dX8_setSpring_118 4 rfl ?_
                  refine x_iald C f44 ⟨by omega, by omega⟩ (by decide) dX8_setSpring_120 ?_
                  refine x_topv (show ((vdF m (6 + u) n)) (Int.toNat (((n : Nat) : Int))) = m 6 0 n from by exact vdF_v) ?_
                  refine x_iast C f44 ⟨by omega, by omega⟩ (by decide) dX8_setSpring_121 (x_hn (fun h47 e48 => ?_))
                  have f49 : h47 (am 6 0) = some (eI D 12 (fu ((vdF m (6 + u) n)) (Int.toNat (((n : Nat) : Int))) (m 6 0 n))) := by rw [e48]; exact hu_s
                  refine x_iload_n C dX8_setSpring_122 3 rfl ?_
                  refine x_iload C dX8_setSpring_123 5 rfl ?_
                  refine x_if_eq (tgt := 132) C dX8_setSpring_125 (by decide) (by omega) (fun c50 => ?_) (fun c50 => ?_)
                  · skip
                    refine x_iconst C dX8_setSpring_132 0 (by decide) ?_
                    refine x_iadd C dX8_setSpring_133 ?_
                    refine x_topv (show (sumN (vdB m (6 + u)) n) + 0 = sumN (vdB m (6 + u)) (n + 1) from by show _ = sumN (vdB m (6 + u)) n + vdB m (6 + u) n; omega) ?_
                    refine x_istore_n C (ls' := [(0, .ref (am 0 0)), (1, vI u), (2, vI z), (3, vI (sumN (vdB m (6 + u)) (n + 1))), (4, vI ((n : Nat) : Int)), (5, vI 0)]) dX8_setSpring_134 (by decide) rfl ?_
                    refine x_iinc C (x := ((n : Nat) : Int)) (ls' := [(0, .ref (am 0 0)), (1, vI u), (2, vI z), (3, vI (sumN (vdB m (6 + u)) (n + 1))), (4, vI ((((n : Nat) : Int)) + 1)), (5, vI 0)]) dX8_setSpring_135 4 rfl (by decide) rfl ?_
                    refine x_goto (tgt := 57) C dX8_setSpring_138 (by decide) ?_
                    refine x_sub [0, 1, 2, 3, 4] (ls' := [(0, .ref (am 0 0)), (1, vI u), (2, vI z), (3, vI (sumN (vdB m (6 + u)) (n + 1))), (4, vI ((((n : Nat) : Int)) + 1))]) rfl ?_
                    have cp51 : MP D am h (cu (cu (cu (cu m 0 0 (fu (m 0 0) 0 0)) 1 0 (fu (m 1 0) u.toNat z)) 6 0 (vdF m (6 + u) n)) 6 0 (fu ((vdF m (6 + u) n)) (Int.toNat (((n : Nat) : Int))) (m 6 0 n))) h47 := by rw [e48]; exact (MP.up hcp (lm0 (by decide)) (fu ((vdF m (6 + u) n)) (Int.toNat (((n : Nat) : Int))) (m 6 0 n)) rfl)
                    exact ihLL (n + 1) h47 (by omega) (by omega) (by omega) (by omega) (by have q9 := cp51; rw [cu_u, show Int.toNat ((n : Nat) : Int) = n from rfl, vdF_s (by first | exact (if_pos (by omega)).symm | exact (if_neg (by omega)).symm)] at q9; exact q9)
                  · exfalso; omega
                · exfalso; omega
              · skip
                refine x_aload_n C dX8_setSpring_78 0 rfl ?_
                refine x_iload C dX8_setSpring_79 4 rfl ?_
                refine x_bipush C dX8_setSpring_81 6 (by decide) ?_
                refine x_iload_n C dX8_setSpring_83 1 rfl ?_
                refine x_iadd C dX8_setSpring_84 ?_
                refine x_callV C (n := 2) (qc := (RX8, TX8, 38)) (As := [vI ((n : Nat) : Int), vI (6 + u)]) (rest := []) (c_X8_isInLevel (hcp.1) (hn12) (hk32) (hg9)) gX8_setSpring_X8_isInLevel (by decide +kernel) f25 rfl rfl rfl rfl (Nat.le_of_ble_eq_true rfl) ⟨by decide, by decide⟩ ⟨(by decide), (by decide)⟩ dX8_setSpring_85 (fun rv52 h53 hp54 => ?_)
                obtain ⟨rfl, e55⟩ := hp54
                obtain rfl := e55.symm
                refine x_topv (show bI (∃ x, x < 96 ∧ ((cu (cu (cu m 0 0 (fu (m 0 0) 0 0)) 1 0 (fu (m 1 0) u.toNat z)) 6 0 (vdF m (6 + u) n))) 4 0 (96 * n + x) = (6 + u)) = bI (∃ x, x < 96 ∧ m 4 0 (96 * n + x) = 6 + u) from by rfl) ?_
                refine x_if_eq (tgt := 95) C dX8_setSpring_88 (by decide) (by omega) (fun c56 => ?_) (fun c56 => ?_)
                · skip
                  refine x_iconst C dX8_setSpring_95 0 (by decide) ?_
                  refine x_istore C (ls' := [(0, .ref (am 0 0)), (1, vI u), (2, vI z), (3, vI (sumN (vdB m (6 + u)) n)), (4, vI ((n : Nat) : Int)), (5, vI 0)]) dX8_setSpring_96 (by decide) rfl ?_
                  refine x_aload_n C dX8_setSpring_98 0 rfl ?_
                  refine x_get C (v := .ref (am 6 0)) f25 (T := TX8) rfl kX8_setSpring_1 6 (by decide) kX8_setSpring_5 rfl dX8_setSpring_99 ?_
                  refine x_iload C dX8_setSpring_102 4 rfl ?_
                  refine x_iload C dX8_setSpring_104 5 rfl ?_
                  refine x_if_eq (tgt := 114) C dX8_setSpring_106 (by decide) (by omega) (fun c57 => ?_) (fun c57 => ?_)
                  · skip
                    refine x_aload_n C dX8_setSpring_114 0 rfl ?_
                    refine x_get C (v := .ref (am 6 0)) f25 (T := TX8) rfl kX8_setSpring_1 6 (by decide) kX8_setSpring_5 rfl dX8_setSpring_115 ?_
                    refine x_iload C dX8_setSpring_118 4 rfl ?_
                    refine x_iald C f44 ⟨by omega, by omega⟩ (by decide) dX8_setSpring_120 ?_
                    refine x_topv (show ((vdF m (6 + u) n)) (Int.toNat (((n : Nat) : Int))) = m 6 0 n from by exact vdF_v) ?_
                    refine x_iast C f44 ⟨by omega, by omega⟩ (by decide) dX8_setSpring_121 (x_hn (fun h58 e59 => ?_))
                    have f60 : h58 (am 6 0) = some (eI D 12 (fu ((vdF m (6 + u) n)) (Int.toNat (((n : Nat) : Int))) (m 6 0 n))) := by rw [e59]; exact hu_s
                    refine x_iload_n C dX8_setSpring_122 3 rfl ?_
                    refine x_iload C dX8_setSpring_123 5 rfl ?_
                    refine x_if_eq (tgt := 132) C dX8_setSpring_125 (by decide) (by omega) (fun c61 => ?_) (fun c61 => ?_)
                    · skip
                      refine x_iconst C dX8_setSpring_132 0 (by decide) ?_
                      refine x_iadd C dX8_setSpring_133 ?_
                      refine x_topv (show (sumN (vdB m (6 + u)) n) + 0 = sumN (vdB m (6 + u)) (n + 1) from by show _ = sumN (vdB m (6 + u)) n + vdB m (6 + u) n; omega) ?_
                      refine x_istore_n C (ls' := [(0, .ref (am 0 0)), (1, vI u), (2, vI z), (3, vI (sumN (vdB m (6 + u)) (n + 1))), (4, vI ((n : Nat) : Int)), (5, vI 0)]) dX8_setSpring_134 (by decide) rfl ?_
                      refine x_iinc C (x := ((n : Nat) : Int)) (ls' := [(0, .ref (am 0 0)), (1, vI u), (2, vI z), (3, vI (sumN (vdB m (6 + u)) (n + 1))), (4, vI ((((n : Nat) : Int)) + 1)), (5, vI 0)]) dX8_setSpring_135 4 rfl (by decide) rfl ?_
                      refine x_goto (tgt := 57) C dX8_setSpring_138 (by decide) ?_
                      refine x_sub [0, 1, 2, 3, 4] (ls' := [(0, .ref (am 0 0)), (1, vI u), (2, vI z), (3, vI (sumN (vdB m (6 + u)) (n + 1))), (4, vI ((((n : Nat) : Int)) + 1))]) rfl ?_
                      have cp62 : MP D am h (cu (cu (cu (cu m 0 0 (fu (m 0 0) 0 0)) 1 0 (fu (m 1 0) u.toNat z)) 6 0 (vdF m (6 + u) n)) 6 0 (fu ((vdF m (6 + u) n)) (Int.toNat (((n : Nat) : Int))) (m 6 0 n))) h58 := by rw [e59]; exact (MP.up hcp (lm0 (by decide)) (fu ((vdF m (6 + u) n)) (Int.toNat (((n : Nat) : Int))) (m 6 0 n)) rfl)
                      exact ihLL (n + 1) h58 (by omega) (by omega) (by omega) (by omega) (by have q9 := cp62; rw [cu_u, show Int.toNat ((n : Nat) : Int) = n from rfl, vdF_s (by first | exact (if_pos (by omega)).symm | exact (if_neg (by omega)).symm)] at q9; exact q9)
                    · exfalso; omega
                  · exfalso; omega
                · skip
                  refine x_iconst C dX8_setSpring_91 1 (by decide) ?_
                  refine x_goto (tgt := 96) C dX8_setSpring_92 (by decide) ?_
                  refine x_istore C (ls' := [(0, .ref (am 0 0)), (1, vI u), (2, vI z), (3, vI (sumN (vdB m (6 + u)) n)), (4, vI ((n : Nat) : Int)), (5, vI 1)]) dX8_setSpring_96 (by decide) rfl ?_
                  refine x_aload_n C dX8_setSpring_98 0 rfl ?_
                  refine x_get C (v := .ref (am 6 0)) f25 (T := TX8) rfl kX8_setSpring_1 6 (by decide) kX8_setSpring_5 rfl dX8_setSpring_99 ?_
                  refine x_iload C dX8_setSpring_102 4 rfl ?_
                  refine x_iload C dX8_setSpring_104 5 rfl ?_
                  refine x_if_eq (tgt := 114) C dX8_setSpring_106 (by decide) (by omega) (fun c63 => ?_) (fun c63 => ?_)
                  · exfalso; omega
                  · skip
                    refine x_bipush C dX8_setSpring_109 (-2) (by decide) ?_
                    refine x_goto (tgt := 121) C dX8_setSpring_111 (by decide) ?_
                    refine x_iast C f44 ⟨by omega, by omega⟩ (by decide) dX8_setSpring_121 (x_hn (fun h64 e65 => ?_))
                    have f66 : h64 (am 6 0) = some (eI D 12 (fu ((vdF m (6 + u) n)) (Int.toNat (((n : Nat) : Int))) ((-2)))) := by rw [e65]; exact hu_s
                    refine x_iload_n C dX8_setSpring_122 3 rfl ?_
                    refine x_iload C dX8_setSpring_123 5 rfl ?_
                    refine x_if_eq (tgt := 132) C dX8_setSpring_125 (by decide) (by omega) (fun c67 => ?_) (fun c67 => ?_)
                    · exfalso; omega
                    · skip
                      refine x_iconst C dX8_setSpring_128 1 (by decide) ?_
                      refine x_goto (tgt := 133) C dX8_setSpring_129 (by decide) ?_
                      refine x_iadd C dX8_setSpring_133 ?_
                      refine x_topv (show (sumN (vdB m (6 + u)) n) + 1 = sumN (vdB m (6 + u)) (n + 1) from by show _ = sumN (vdB m (6 + u)) n + vdB m (6 + u) n; omega) ?_
                      refine x_istore_n C (ls' := [(0, .ref (am 0 0)), (1, vI u), (2, vI z), (3, vI (sumN (vdB m (6 + u)) (n + 1))), (4, vI ((n : Nat) : Int)), (5, vI 1)]) dX8_setSpring_134 (by decide) rfl ?_
                      refine x_iinc C (x := ((n : Nat) : Int)) (ls' := [(0, .ref (am 0 0)), (1, vI u), (2, vI z), (3, vI (sumN (vdB m (6 + u)) (n + 1))), (4, vI ((((n : Nat) : Int)) + 1)), (5, vI 1)]) dX8_setSpring_135 4 rfl (by decide) rfl ?_
                      refine x_goto (tgt := 57) C dX8_setSpring_138 (by decide) ?_
                      refine x_sub [0, 1, 2, 3, 4] (ls' := [(0, .ref (am 0 0)), (1, vI u), (2, vI z), (3, vI (sumN (vdB m (6 + u)) (n + 1))), (4, vI ((((n : Nat) : Int)) + 1))]) rfl ?_
                      have cp68 : MP D am h (cu (cu (cu (cu m 0 0 (fu (m 0 0) 0 0)) 1 0 (fu (m 1 0) u.toNat z)) 6 0 (vdF m (6 + u) n)) 6 0 (fu ((vdF m (6 + u) n)) (Int.toNat (((n : Nat) : Int))) ((-2)))) h64 := by rw [e65]; exact (MP.up hcp (lm0 (by decide)) (fu ((vdF m (6 + u) n)) (Int.toNat (((n : Nat) : Int))) ((-2))) rfl)
                      exact ihLL (n + 1) h64 (by omega) (by omega) (by omega) (by omega) (by have q9 := cp68; rw [cu_u, show Int.toNat ((n : Nat) : Int) = n from rfl, vdF_s (by first | exact (if_pos (by omega)).symm | exact (if_neg (by omega)).symm)] at q9; exact q9)
        have cp69 : MP D am h (cu (cu m 0 0 ((fu (m 0 0) 0 0))) 1 0 (fu (m 1 0) (Int.toNat u) z)) h21 := by rw [e22, e3]; exact (MP.up (MP.up (MP.rf hR) (lm0 (by decide)) ((fu (m 0 0) 0 0)) rfl) (lm0 (by decide)) (fu (m 1 0) (Int.toNat u) z) rfl)
        exact LL (13) 0 h21 (by omega) (by omega) (by omega) (by omega) (by rw [vdF_0]; exact MPid rfl cp69)
    · skip
      refine x_aload_n C dX8_setSpring_29 0 rfl ?_
      refine x_iconst C dX8_setSpring_30 2 (by decide) ?_
      have cp70 : MP D am h (cu m 0 0 ((fu (m 0 0) 0 0))) h2 := by rw [e3]; exact (MP.up (MP.rf hR) (lm0 (by decide)) ((fu (m 0 0) 0 0)) rfl)
      refine x_callV C (n := 1) (qc := (RX8, TX8, 38)) (As := [vI 2]) (rest := []) (c_X8_fails (cp70.1)) gX8_setSpring_X8_fails (by decide +kernel) f4 rfl rfl rfl rfl (Nat.le_of_ble_eq_true rfl) ⟨by decide, by decide⟩ ⟨(by decide), (by decide)⟩ dX8_setSpring_31 (fun rv71 h72 hp73 => ?_)
      obtain ⟨rfl, cp75⟩ := hp73
      have cp76 : MP D am h ((cu ((cu m 0 0 ((fu (m 0 0) 0 0)))) 0 0 ((fu (((cu m 0 0 ((fu (m 0 0) 0 0)))) 0 0) 0 2)))) h72 := MP.trans cp70 cp75
      refine x_iret C G dX8_setSpring_34 ?_ (by decide) (by decide)
      exact ⟨_, _, rfl, cp76, Or.inr (Or.inl ⟨rfl, by omega, (by repeat (first | exact SM.rf | refine SM.th ?_ | refine SM.rem ?_ | refine SM.o2 ?_ | refine SM.o14 ?_ | refine SM.sr ?_ | refine SM.ly (by assumption) (by assumption) ?_ | refine SM.bm ?_ | refine SM.st ?_ | refine SM.mv ?_ | refine SM.up (by decide) ?_))⟩)⟩
  · skip
    refine x_aload_n C dX8_setSpring_14 0 rfl ?_
    refine x_iconst C dX8_setSpring_15 1 (by decide) ?_
    have cp77 : MP D am h (cu m 0 0 ((fu (m 0 0) 0 0))) h2 := by rw [e3]; exact (MP.up (MP.rf hR) (lm0 (by decide)) ((fu (m 0 0) 0 0)) rfl)
    refine x_callV C (n := 1) (qc := (RX8, TX8, 38)) (As := [vI 1]) (rest := []) (c_X8_fails (cp77.1)) gX8_setSpring_X8_fails (by decide +kernel) f4 rfl rfl rfl rfl (Nat.le_of_ble_eq_true rfl) ⟨by decide, by decide⟩ ⟨(by decide), (by decide)⟩ dX8_setSpring_16 (fun rv78 h79 hp80 => ?_)
    obtain ⟨rfl, cp82⟩ := hp80
    have cp83 : MP D am h ((cu ((cu m 0 0 ((fu (m 0 0) 0 0)))) 0 0 ((fu (((cu m 0 0 ((fu (m 0 0) 0 0)))) 0 0) 0 1)))) h79 := MP.trans cp77 cp82
    refine x_iret C G dX8_setSpring_19 ?_ (by decide) (by decide)
    exact ⟨_, _, rfl, cp83, Or.inl ⟨rfl, by omega, (by repeat (first | exact SM.rf | refine SM.th ?_ | refine SM.rem ?_ | refine SM.o2 ?_ | refine SM.o14 ?_ | refine SM.sr ?_ | refine SM.ly (by assumption) (by assumption) ?_ | refine SM.bm ?_ | refine SM.st ?_ | refine SM.mv ?_ | refine SM.up (by decide) ?_))⟩⟩


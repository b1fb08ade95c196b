def rwM (f : Nat → Int) (b : Nat) : Nat → Int := fun j => if j < 96 then f (b + j) else 0
def kbr (src b : Nat → Int) : Int → Nat := fun p => (lyB src b 96 p.toNat).toNat
def FdR (m : CS) (src : Nat → Int) (z r : Int) : Prop := Found (TTr (lyG src (m 28 0) 96) (kbr src (m 29 0)) (lyA src 96) (m 1 0)) (X0r (lyG src (m 28 0) 96) (kbr src (m 29 0)) z) r
def SnR (m : CS) (src : Nat → Int) (z : Int) (x : Int) : Prop := Seen (TTr (lyG src (m 28 0) 96) (kbr src (m 29 0)) (lyA src 96) (m 1 0)) (X0r (lyG src (m 28 0) 96) (kbr src (m 29 0)) z) x
theorem rwM_r {f : Nat → Int} {b : Nat} (h : ∀ j, j < 96 → 0 ≤ f (b + j) ∧ f (b + j) ≤ 8) : ∀ j, 0 ≤ rwM f b j ∧ rwM f b j ≤ 8 := fun j => by
  unfold rwM; split
  · exact h j (by assumption)
  · decide
def frN (R : Nat → Int) (n : Nat) (r : Int) : Prop := (r = -1 ∧ ∀ c : Nat, c < n → R c = 0) ∨ ∃ c : Nat, c < n ∧ r = c ∧ R c ≠ 0 ∧ ∀ c' : Nat, c' < n → R c' ≠ 0 → c' % 12 < c % 12 ∨ (c' % 12 = c % 12 ∧ c ≤ c')
theorem frN_r {R : Nat → Int} {n : Nat} {y : Int} (h : frN R n y) : -1 ≤ y ∧ y < n := by
  rcases h with ⟨h1, _⟩ | ⟨c, h1, h2, _⟩ <;> omega
theorem frN_set {R : Nat → Int} {n : Nat} {y : Int} (h : frN R n y) (hn : ¬ R n = 0) (hc : y = -1 ∨ (n : Int) % 12 > y % 12) : frN R (n + 1) n := by
  refine Or.inr ⟨n, by omega, rfl, hn, fun c' h1 h2 => ?_⟩
  by_cases q : c' = n
  · subst q; exact Or.inr ⟨rfl, Nat.le_refl _⟩
  · rcases h with ⟨_, g⟩ | ⟨c, g1, g2, g3, g4⟩
    · exact absurd (g c' (by omega)) h2
    · have := g4 c' (by omega) h2
      omega
theorem frN_keep {R : Nat → Int} {n : Nat} {y : Int} (h : frN R n y) (hc : R n = 0 ∨ (¬ y = -1 ∧ (n : Int) % 12 ≤ y % 12)) : frN R (n + 1) y := by
  rcases h with ⟨g1, g⟩ | ⟨c, g1, g2, g3, g4⟩
  · refine Or.inl ⟨g1, fun c h1 => ?_⟩
    by_cases q : c = n
    · subst q; rcases hc with z | z
      · exact z
      · exact absurd g1 z.1
    · exact g c (by omega)
  · refine Or.inr ⟨c, by omega, g2, g3, fun c' h1 h2 => ?_⟩
    by_cases q : c' = n
    · subst q
      rcases hc with z | z
      · exact absurd z h2
      · omega
    · exact g4 c' (by omega) h2
/-- the run of a person is laid down -/
def kpX (m : CS) (p w : Nat) (x : Int × Int × Nat × Int) : CS := cu (cu (cu (cu (cu m 24 0 (fu (m 24 0) p x.1)) 25 0 (fu (m 25 0) p x.2.1)) 26 0 (fu (m 26 0) p ((x.2.2.1 : Nat) : Int))) 22 0 (fu (m 22 0) p x.2.2.2)) 20 0 (if x.2.2.2 = 2 ∧ (m 20 0 w = -1 ∨ m 27 0 p < m 20 0 w) then fu (m 20 0) w (m 27 0 p) else m 20 0)
def kpR (x : Int × Int × Nat × Int) : Int := if x.2.2.2 = 3 then -1 else if x.2.2.2 = 2 then -2 else x.1
theorem SM.kp {a b : CS} {p w : Nat} {x : Int × Int × Nat × Int} (h : SM a b) : SM (kpX a p w x) (kpX b p w x) := by
  obtain ⟨h1, h2, h3, _⟩ := id h
  unfold kpX
  refine SM.up9 (by decide) ?_ (SM.up9 (by decide) ?_ (SM.up9 (by decide) ?_ (SM.up9 (by decide) ?_ (SM.up9 (by decide) ?_ h))))
  · rw [h1 20 0 (by decide) (by decide), h1 27 0 (by decide) (by decide)]
  · rw [h1 22 0 (by decide) (by decide)]
  · rw [h1 26 0 (by decide) (by decide)]
  · rw [h1 25 0 (by decide) (by decide)]
  · rw [h1 24 0 (by decide) (by decide)]
theorem kp_id {m : CS} {k : Nat} {f : Nat → Int} {P : Prop} [Decidable P] (hP : ¬ P) : cu m k 0 (if P then f else m k 0) = m := by
  rw [if_neg hP]; exact cu_id rfl

theorem kX8_prove_0 : Cond.fieldLink "LedgeLevelsModel" 101 "LedgeLevelsModel" "thrown" "I" ∈ wsX8_prove := by decide +kernel
theorem kX8_prove_1 : ∀ w ∈ wsX80, w ∈ wsX8_prove := by decide +kernel
theorem kX8_prove_2 : Cond.fieldLink "LedgeLevelsModel" 22 "LedgeLevelsModel" "proofs" "[I" ∈ wsX8_prove := by decide +kernel
theorem kX8_prove_3 : Cond.fieldLink "LedgeLevelsModel" 19 "LedgeLevelsModel" "begins" "[I" ∈ wsX8_prove := by decide +kernel
set_option maxRecDepth 100000 in
set_option maxHeartbeats 4000000 in
theorem c_X8_prove {l : Launch} {D : va_G} {A : Nat → Prop} {h : vh} {am : AD} {m : CS} {u : Int}  (hR : RepM D am m h) (hM1 : Mk1 m) (hi_u : -2147483648 ≤ u ∧ u ≤ 2147483647) (hG4 : ∀ i j : Nat, (i : Int) < m 0 0 2 → j < 96 → 0 ≤ m 4 0 (96 * i + j) ∧ m 4 0 (96 * i + j) ≤ 8) (hKE : ∀ i : Nat, (i : Int) < m 0 0 2 → lyA (rwM (m 4 0) (96 * i)) 96 ≤ 7) (hGK : GK m) (hSS : ∀ j, 0 ≤ m 1 0 j ∧ m 1 0 j ≤ 4) (hbg : ∀ i : Nat, (i : Int) < m 0 0 2 → 0 ≤ m 5 0 i ∧ m 5 0 i ≤ 95) : MX l D A yX8_prove wsX8_prove { frames := 4, cells := 0, slots := 0, locals := 97 } [.ref (am 0 0), vI u] h (fun rv h' => ∃ (r : Int) (m1 : CS), rv = some (vI r) ∧ MP D am h (m1) h' ∧ ((m1 0 0 0 = 1 ∧ (¬ (0 ≤ u ∧ u < m 0 0 2)) ∧ SM m m1) ∨ (m1 0 0 0 = 0 ∧ (0 ≤ u ∧ u < m 0 0 2) ∧ FdR m (rwM (m 4 0) (96 * u.toNat)) (m 5 0 u.toNat) r ∧ (-1 ≤ r ∧ r ≤ 6145) ∧ SM (cu m 6 0 (fu (m 6 0) u.toNat r)) m1))) := by
  refine MX.of (cc := cX8_prove) (maxL := 2) (ret := (some .int)) [(0, .ref (am 0 0)), (1, vI u)] (by decide +kernel) rfl rfl (Nat.le_of_ble_eq_true rfl) ?_
  intro κ C hkl G
  subst hkl
  have C : CX κ "LedgeLevelsModel" "prove" cX8_prove wsX8_prove { frames := 4, cells := 0, slots := 0, locals := 97 } D A 2 := C
  have hiz : nq (D.1 20) (D.1 21) := cx_iz C
  obtain ⟨hM1a, hM1b⟩ := id hM1
  refine x_aload_n C dX8_prove_0 0 rfl ?_
  refine x_iconst C dX8_prove_1 0 (by decide) ?_
  have f1 : h (am 0 0) = some (eO 8 [vI (m 0 0 0), .ref (am 1 0), vI (m 0 0 2), .ref (am 3 0), .ref (am 4 0), .ref (am 5 0), .ref (am 6 0), .ref (am 7 0), .ref (am 8 0), .ref (am 9 0), .ref (am 10 0), .ref (am 11 0), .ref (am 12 0), .ref (am 13 0), vI (m 0 0 14), .ref (am 15 0), .ref (am 16 0), .ref (am 17 0), .ref (am 18 0), .ref (am 19 0), .ref (am 20 0), .ref (am 21 0), .ref (am 22 0), .ref (am 23 0), .ref (am 24 0), .ref (am 25 0), .ref (am 26 0), .ref (am 27 0), .ref (am 28 0), .ref (am 29 0), vI (((m 0 0 30).toNat : Nat) : Int), vI (m 0 0 31), vI (m 0 0 32), vI (((m 0 0 33).toNat : Nat) : Int), vI (m 0 0 34), .ref (am 35 0), .ref (am 36 0), .ref (am 37 0)]) := hR.1 0 0 (lm0 (by decide))
  refine x_put C f1 (T := TX8) rfl tyX8_ok nmX8 kX8_prove_1 0 (by decide) kX8_prove_0 rfl (fs' := [vI 0, .ref (am 1 0), vI (m 0 0 2), .ref (am 3 0), .ref (am 4 0), .ref (am 5 0), .ref (am 6 0), .ref (am 7 0), .ref (am 8 0), .ref (am 9 0), .ref (am 10 0), .ref (am 11 0), .ref (am 12 0), .ref (am 13 0), vI (m 0 0 14), .ref (am 15 0), .ref (am 16 0), .ref (am 17 0), .ref (am 18 0), .ref (am 19 0), .ref (am 20 0), .ref (am 21 0), .ref (am 22 0), .ref (am 23 0), .ref (am 24 0), .ref (am 25 0), .ref (am 26 0), .ref (am 27 0), .ref (am 28 0), .ref (am 29 0), vI (((m 0 0 30).toNat : Nat) : Int), vI (m 0 0 31), vI (m 0 0 32), vI (((m 0 0 33).toNat : Nat) : Int), vI (m 0 0 34), .ref (am 35 0), .ref (am 36 0), .ref (am 37 0)]) rfl rfl (by simp) rfl dX8_prove_2 (x_hn (fun h2 e3 => ?_))
  have f4 : h2 (am 0 0) = some (eO 8 [vI 0, .ref (am 1 0), vI (m 0 0 2), .ref (am 3 0), .ref (am 4 0), .ref (am 5 0), .ref (am 6 0), .ref (am 7 0), .ref (am 8 0), .ref (am 9 0), .ref (am 10 0), .ref (am 11 0), .ref (am 12 0), .ref (am 13 0), vI (m 0 0 14), .ref (am 15 0), .ref (am 16 0), .ref (am 17 0), .ref (am 18 0), .ref (am 19 0), .ref (am 20 0), .ref (am 21 0), .ref (am 22 0), .ref (am 23 0), .ref (am 24 0), .ref (am 25 0), .ref (am 26 0), .ref (am 27 0), .ref (am 28 0), .ref (am 29 0), vI (((m 0 0 30).toNat : Nat) : Int), vI (m 0 0 31), vI (m 0 0 32), vI (((m 0 0 33).toNat : Nat) : Int), vI (m 0 0 34), .ref (am 35 0), .ref (am 36 0), .ref (am 37 0)]) := by rw [e3]; exact hu_s
  refine x_aload_n C dX8_prove_5 0 rfl ?_
  refine x_iload_n C dX8_prove_6 1 rfl ?_
  have cp6 : MP D am h (cu m 0 0 ((fu (m 0 0) 0 0))) h2 := by rw [e3]; exact (MP.up (MP.rf hR) (lm0 (by decide)) ((fu (m 0 0) 0 0)) rfl)
  refine x_callV C (n := 1) (qc := (RX8, TX8, 38)) (As := [vI u]) (rest := []) (c_X8_isLevel (cp6.1) (hM1) (by omega)) gX8_prove_X8_isLevel (by decide +kernel) f4 rfl rfl rfl rfl (Nat.le_of_ble_eq_true rfl) ⟨by decide, by decide⟩ ⟨(by decide), (by decide)⟩ dX8_prove_7 (fun rv7 h8 hp9 => ?_)
  obtain ⟨rfl, e10⟩ := hp9
  obtain rfl := e10.symm
  refine x_topv (show bI (0 ≤ u ∧ u ≤ ((cu m 0 0 ((fu (m 0 0) 0 0)))) 0 0 2 - 1) = bI (0 ≤ u ∧ u ≤ m 0 0 2 - 1) from by rfl) ?_
  have hbr5 := bI_cs ((0 ≤ u ∧ u ≤ m 0 0 2 - 1))
  refine x_if_ne (tgt := 19) C dX8_prove_10 (by decide) (by omega) (fun c11 => ?_) (fun c11 => ?_)
  · skip
    obtain ⟨sr9, hsr0⟩ : ∃ sr9, sr9 = rwM (m 4 0) (96 * (u).toNat) := ⟨_, rfl⟩
    have hs9 : ∀ j : Nat, j < 96 → sr9 j = (if (0 : Int) = 0 then m 4 0 (Int.toNat (96 * (u) + j)) else m 16 0 (Int.toNat (96 * (u) + j))) := fun j hj => by
      rw [hsr0, if_pos rfl, show Int.toNat (96 * (u) + (j : Int)) = 96 * (u).toNat + j by omega]; exact if_pos hj
    have hsr9 : ∀ j : Nat, 0 ≤ sr9 j ∧ sr9 j ≤ 8 := by rw [hsr0]; exact rwM_r (fun j hj => hG4 (u).toNat j (by omega) hj)
    have hA9 : lyA sr9 96 ≤ 7 := by rw [hsr0]; exact hKE (u).toNat (by omega)
    have hg28 : ∀ j, 0 ≤ lyG sr9 (m 28 0) 96 j ∧ lyG sr9 (m 28 0) 96 j ≤ 8 := lyG_r hsr9 hGK.1 96
    have hb29 : ∀ j, 0 ≤ lyB sr9 (m 29 0) 96 j ∧ lyB sr9 (m 29 0) 96 j ≤ 7 := lyB_r hA9 hGK.2
    have hal9 : 0 ≤ ((lyA sr9 96 : Nat) : Int) ∧ ((lyA sr9 96 : Nat) : Int) < 8 := by omega
    refine x_aload_n C dX8_prove_19 0 rfl ?_
    refine x_iconst C dX8_prove_20 0 (by decide) ?_
    refine x_iload_n C dX8_prove_21 1 rfl ?_
    have cp12 : MP D am h (cu m 0 0 ((fu (m 0 0) 0 0))) h2 := by rw [e3]; exact (MP.up (MP.rf hR) (lm0 (by decide)) ((fu (m 0 0) 0 0)) rfl)
    refine x_callV C (n := 2) (qc := (RX8, TX8, 38)) (As := [vI 0, vI u]) (rest := []) (c_X8_lays (src := sr9) (cp12.1) (by omega) (by omega) (hs9) (hsr9) (hA9)) gX8_prove_X8_lays (by decide +kernel) f4 rfl rfl rfl rfl (Nat.le_of_ble_eq_true rfl) ⟨by decide, by decide⟩ ⟨(by decide), (by decide)⟩ dX8_prove_22 (fun rv13 h14 hp15 => ?_)
    obtain ⟨rfl, cp17⟩ := hp15
    have cp18 : MP D am h (layN ((cu m 0 0 ((fu (m 0 0) 0 0)))) sr9 96) h14 := MP.trans cp12 cp17
    have hz9 : 0 ≤ m 5 0 u.toNat ∧ m 5 0 u.toNat ≤ 95 := hbg u.toNat (by omega)
    refine x_aload_n C dX8_prove_25 0 rfl ?_
    have f19 : h14 (am 0 0) = some (eO 8 [vI (((layN ((cu m 0 0 ((fu (m 0 0) 0 0)))) sr9 96) 0 0) 0), .ref (am 1 0), vI (((layN ((cu m 0 0 ((fu (m 0 0) 0 0)))) sr9 96) 0 0) 2), .ref (am 3 0), .ref (am 4 0), .ref (am 5 0), .ref (am 6 0), .ref (am 7 0), .ref (am 8 0), .ref (am 9 0), .ref (am 10 0), .ref (am 11 0), .ref (am 12 0), .ref (am 13 0), vI (((layN ((cu m 0 0 ((fu (m 0 0) 0 0)))) sr9 96) 0 0) 14), .ref (am 15 0), .ref (am 16 0), .ref (am 17 0), .ref (am 18 0), .ref (am 19 0), .ref (am 20 0), .ref (am 21 0), .ref (am 22 0), .ref (am 23 0), .ref (am 24 0), .ref (am 25 0), .ref (am 26 0), .ref (am 27 0), .ref (am 28 0), .ref (am 29 0), vI (((((layN ((cu m 0 0 ((fu (m 0 0) 0 0)))) sr9 96) 0 0) 30).toNat : Nat) : Int), vI (((layN ((cu m 0 0 ((fu (m 0 0) 0 0)))) sr9 96) 0 0) 31), vI (((layN ((cu m 0 0 ((fu (m 0 0) 0 0)))) sr9 96) 0 0) 32), vI (((((layN ((cu m 0 0 ((fu (m 0 0) 0 0)))) sr9 96) 0 0) 33).toNat : Nat) : Int), vI (((layN ((cu m 0 0 ((fu (m 0 0) 0 0)))) sr9 96) 0 0) 34), .ref (am 35 0), .ref (am 36 0), .ref (am 37 0)]) := cp18.1.1 0 0 (lm0 (by decide))
    refine x_get C (v := .ref (am 6 0)) f19 (T := TX8) rfl kX8_prove_1 6 (by decide) kX8_prove_2 rfl dX8_prove_26 ?_
    refine x_iload_n C dX8_prove_29 1 rfl ?_
    refine x_aload_n C dX8_prove_30 0 rfl ?_
    refine x_aload_n C dX8_prove_31 0 rfl ?_
    refine x_get C (v := .ref (am 5 0)) f19 (T := TX8) rfl kX8_prove_1 5 (by decide) kX8_prove_3 rfl dX8_prove_32 ?_
    refine x_iload_n C dX8_prove_35 1 rfl ?_
    have f20 : h14 (am 5 0) = some (eI D 12 (((layN ((cu m 0 0 ((fu (m 0 0) 0 0)))) sr9 96) 5 0))) := cp18.1.1 5 0 (lm0 (by decide))
    refine x_iald C f20 ⟨by omega, by omega⟩ (by decide) dX8_prove_36 ?_
    refine x_topv (show (((layN ((cu m 0 0 ((fu (m 0 0) 0 0)))) sr9 96) 5 0)) (Int.toNat u) = m 5 0 u.toNat from by rfl) ?_
    refine x_callV C (n := 1) (qc := (RX8, TX8, 38)) (As := [vI (m 5 0 u.toNat)]) (rest := [vI u, .ref (am 6 0)]) (c_X8_searches (cp18.1) (hz9) (hg28) (hb29) (hal9) (hSS)) gX8_prove_X8_searches (by decide +kernel) f19 rfl rfl rfl rfl (Nat.le_of_ble_eq_true rfl) ⟨by decide, by decide⟩ ⟨(by decide), (by decide)⟩ dX8_prove_37 (fun rv21 h22 hp23 => ?_)
    obtain ⟨c_25, v_26, s_27, w_28, t_29, Q_30, F_31, R_32, rfl, cp33, hF_37, hS9_37, hR9_37, hw9_37, hb9_37⟩ := hp23
    have cp34 : MP D am h (srM ((layN ((cu m 0 0 ((fu (m 0 0) 0 0)))) sr9 96)) c_25 v_26 t_29 s_27 Q_30 F_31 R_32) h22 := MP.trans cp18 cp33
    have f35 : h22 (am 6 0) = some (eI D 12 (((srM ((layN ((cu m 0 0 ((fu (m 0 0) 0 0)))) sr9 96)) c_25 v_26 t_29 s_27 Q_30 F_31 R_32) 6 0))) := cp34.1.1 6 0 (lm0 (by decide))
    refine x_iast C f35 ⟨by omega, by omega⟩ (by decide) dX8_prove_40 (x_hn (fun h36 e37 => ?_))
    have f38 : h36 (am 6 0) = some (eI D 12 (fu (((srM ((layN ((cu m 0 0 ((fu (m 0 0) 0 0)))) sr9 96)) c_25 v_26 t_29 s_27 Q_30 F_31 R_32) 6 0)) (Int.toNat u) w_28)) := by rw [e37]; exact hu_s
    refine x_aload_n C dX8_prove_41 0 rfl ?_
    have f39 : h22 (am 0 0) = some (eO 8 [vI (((srM ((layN ((cu m 0 0 ((fu (m 0 0) 0 0)))) sr9 96)) c_25 v_26 t_29 s_27 Q_30 F_31 R_32) 0 0) 0), .ref (am 1 0), vI (((srM ((layN ((cu m 0 0 ((fu (m 0 0) 0 0)))) sr9 96)) c_25 v_26 t_29 s_27 Q_30 F_31 R_32) 0 0) 2), .ref (am 3 0), .ref (am 4 0), .ref (am 5 0), .ref (am 6 0), .ref (am 7 0), .ref (am 8 0), .ref (am 9 0), .ref (am 10 0), .ref (am 11 0), .ref (am 12 0), .ref (am 13 0), vI (((srM ((layN ((cu m 0 0 ((fu (m 0 0) 0 0)))) sr9 96)) c_25 v_26 t_29 s_27 Q_30 F_31 R_32) 0 0) 14), .ref (am 15 0), .ref (am 16 0), .ref (am 17 0), .ref (am 18 0), .ref (am 19 0), .ref (am 20 0), .ref (am 21 0), .ref (am 22 0), .ref (am 23 0), .ref (am 24 0), .ref (am 25 0), .ref (am 26 0), .ref (am 27 0), .ref (am 28 0), .ref (am 29 0), vI (((((srM ((layN ((cu m 0 0 ((fu (m 0 0) 0 0)))) sr9 96)) c_25 v_26 t_29 s_27 Q_30 F_31 R_32) 0 0) 30).toNat : Nat) : Int), vI (((srM ((layN ((cu m 0 0 ((fu (m 0 0) 0 0)))) sr9 96)) c_25 v_26 t_29 s_27 Q_30 F_31 R_32) 0 0) 31), vI (((srM ((layN ((cu m 0 0 ((fu (m 0 0) 0 0)))) sr9 96)) c_25 v_26 t_29 s_27 Q_30 F_31 R_32) 0 0) 32), vI (((((srM ((layN ((cu m 0 0 ((fu (m 0 0) 0 0)))) sr9 96)) c_25 v_26 t_29 s_27 Q_30 F_31 R_32) 0 0) 33).toNat : Nat) : Int), vI (((srM ((layN ((cu m 0 0 ((fu (m 0 0) 0 0)))) sr9 96)) c_25 v_26 t_29 s_27 Q_30 F_31 R_32) 0 0) 34), .ref (am 35 0), .ref (am 36 0), .ref (am 37 0)]) := cp34.1.1 0 0 (lm0 (by decide))
    have f40 : h36 (am 0 0) = some (eO 8 [vI (((srM ((layN ((cu m 0 0 ((fu (m 0 0) 0 0)))) sr9 96)) c_25 v_26 t_29 s_27 Q_30 F_31 R_32) 0 0) 0), .ref (am 1 0), vI (((srM ((layN ((cu m 0 0 ((fu (m 0 0) 0 0)))) sr9 96)) c_25 v_26 t_29 s_27 Q_30 F_31 R_32) 0 0) 2), .ref (am 3 0), .ref (am 4 0), .ref (am 5 0), .ref (am 6 0), .ref (am 7 0), .ref (am 8 0), .ref (am 9 0), .ref (am 10 0), .ref (am 11 0), .ref (am 12 0), .ref (am 13 0), vI (((srM ((layN ((cu m 0 0 ((fu (m 0 0) 0 0)))) sr9 96)) c_25 v_26 t_29 s_27 Q_30 F_31 R_32) 0 0) 14), .ref (am 15 0), .ref (am 16 0), .ref (am 17 0), .ref (am 18 0), .ref (am 19 0), .ref (am 20 0), .ref (am 21 0), .ref (am 22 0), .ref (am 23 0), .ref (am 24 0), .ref (am 25 0), .ref (am 26 0), .ref (am 27 0), .ref (am 28 0), .ref (am 29 0), vI (((((srM ((layN ((cu m 0 0 ((fu (m 0 0) 0 0)))) sr9 96)) c_25 v_26 t_29 s_27 Q_30 F_31 R_32) 0 0) 30).toNat : Nat) : Int), vI (((srM ((layN ((cu m 0 0 ((fu (m 0 0) 0 0)))) sr9 96)) c_25 v_26 t_29 s_27 Q_30 F_31 R_32) 0 0) 31), vI (((srM ((layN ((cu m 0 0 ((fu (m 0 0) 0 0)))) sr9 96)) c_25 v_26 t_29 s_27 Q_30 F_31 R_32) 0 0) 32), vI (((((srM ((layN ((cu m 0 0 ((fu (m 0 0) 0 0)))) sr9 96)) c_25 v_26 t_29 s_27 Q_30 F_31 R_32) 0 0) 33).toNat : Nat) : Int), vI (((srM ((layN ((cu m 0 0 ((fu (m 0 0) 0 0)))) sr9 96)) c_25 v_26 t_29 s_27 Q_30 F_31 R_32) 0 0) 34), .ref (am 35 0), .ref (am 36 0), .ref (am 37 0)]) := by rw [e37, hu_n (cp34.1.ne (lm0 (by decide)) (lm0 (by decide)) (fun zz9 => absurd zz9.1 (by decide)))]; exact f39
    refine x_get C (v := .ref (am 6 0)) f40 (T := TX8) rfl kX8_prove_1 6 (by decide) kX8_prove_2 rfl dX8_prove_42 ?_
    refine x_iload_n C dX8_prove_45 1 rfl ?_
    refine x_iald C f38 ⟨by omega, by omega⟩ (by decide) dX8_prove_46 ?_
    refine x_iret C G dX8_prove_47 ?_ (by decide) (by decide)
    have cp41 : MP D am h (cu (srM ((layN ((cu m 0 0 ((fu (m 0 0) 0 0)))) sr9 96)) c_25 v_26 t_29 s_27 Q_30 F_31 R_32) 6 0 (fu (((srM ((layN ((cu m 0 0 ((fu (m 0 0) 0 0)))) sr9 96)) c_25 v_26 t_29 s_27 Q_30 F_31 R_32) 6 0)) (Int.toNat u) w_28)) h36 := by rw [e37]; exact (MP.up cp34 (lm0 (by decide)) (fu (((srM ((layN ((cu m 0 0 ((fu (m 0 0) 0 0)))) sr9 96)) c_25 v_26 t_29 s_27 Q_30 F_31 R_32) 6 0)) (Int.toNat u) w_28) rfl)
    refine ⟨w_28, _, congrArg (fun x => some (vI x)) fu_s, cp41, Or.inr ⟨rfl, by omega, ?_, hw9_37, SM.up9 (by decide) rfl (SM.sr (SM.ly hsr9 hA9 (SM.th SM.rf)))⟩⟩
    rw [← hsr0]
    exact hF_37
  · skip
    refine x_aload_n C dX8_prove_13 0 rfl ?_
    refine x_iconst C dX8_prove_14 1 (by decide) ?_
    have cp42 : MP D am h (cu m 0 0 ((fu (m 0 0) 0 0))) h2 := by rw [e3]; exact (MP.up (MP.rf hR) (lm0 (by decide)) ((fu (m 0 0) 0 0)) rfl)
    refine x_callV C (n := 1) (qc := (RX8, TX8, 38)) (As := [vI 1]) (rest := []) (c_X8_fails (cp42.1)) gX8_prove_X8_fails (by decide +kernel) f4 rfl rfl rfl rfl (Nat.le_of_ble_eq_true rfl) ⟨by decide, by decide⟩ ⟨(by decide), (by decide)⟩ dX8_prove_15 (fun rv43 h44 hp45 => ?_)
    obtain ⟨rfl, cp47⟩ := hp45
    have cp48 : MP D am h ((cu ((cu m 0 0 ((fu (m 0 0) 0 0)))) 0 0 ((fu (((cu m 0 0 ((fu (m 0 0) 0 0)))) 0 0) 0 1)))) h44 := MP.trans cp42 cp47
    refine x_iret C G dX8_prove_18 ?_ (by decide) (by decide)
    exact ⟨_, _, rfl, cp48, Or.inl ⟨rfl, by omega, (by repeat (first | exact SM.rf | refine SM.th ?_ | refine SM.o2 ?_ | refine SM.o14 ?_ | refine SM.sr ?_ | refine SM.ly (by assumption) (by assumption) ?_ | refine SM.bm ?_ | refine SM.st ?_ | refine SM.mv ?_ | refine SM.up (by decide) ?_))⟩⟩

theorem kX8_shortest_0 : Cond.fieldLink "LedgeLevelsModel" 101 "LedgeLevelsModel" "thrown" "I" ∈ wsX8_shortest := by decide +kernel
theorem kX8_shortest_1 : ∀ w ∈ wsX80, w ∈ wsX8_shortest := by decide +kernel
theorem kX8_shortest_2 : Cond.fieldLink "LedgeLevelsModel" 19 "LedgeLevelsModel" "begins" "[I" ∈ wsX8_shortest := by decide +kernel
set_option maxRecDepth 100000 in
set_option maxHeartbeats 4000000 in
theorem c_X8_shortest {l : Launch} {D : va_G} {A : Nat → Prop} {h : vh} {am : AD} {m : CS} {u n : Int}  (hR : RepM D am m h) (hM1 : Mk1 m) (hi_u : -2147483648 ≤ u ∧ u ≤ 2147483647) (hi_n : -2147483648 ≤ n ∧ n ≤ 2147483647) (hG4 : ∀ i j : Nat, (i : Int) < m 0 0 2 → j < 96 → 0 ≤ m 4 0 (96 * i + j) ∧ m 4 0 (96 * i + j) ≤ 8) (hKE : ∀ i : Nat, (i : Int) < m 0 0 2 → lyA (rwM (m 4 0) (96 * i)) 96 ≤ 7) (hGK : GK m) (hSS : ∀ j, 0 ≤ m 1 0 j ∧ m 1 0 j ≤ 4) (hbg : ∀ i : Nat, (i : Int) < m 0 0 2 → 0 ≤ m 5 0 i ∧ m 5 0 i ≤ 95) : MX l D A yX8_shortest wsX8_shortest { frames := 4, cells := 0, slots := 0, locals := 97 } [.ref (am 0 0), vI u, vI n] h (fun rv h' => ∃ (r : Int) (m1 : CS), rv = some (vI r) ∧ MP D am h (m1) h' ∧ ((m1 0 0 0 = 1 ∧ (¬ (0 ≤ u ∧ u < m 0 0 2)) ∧ SM m m1) ∨ (m1 0 0 0 = 2 ∧ ((0 ≤ u ∧ u < m 0 0 2) ∧ ¬ (0 ≤ n ∧ n ≤ 5)) ∧ SM m m1) ∨ (m1 0 0 0 = 0 ∧ ((0 ≤ u ∧ u < m 0 0 2) ∧ 0 ≤ n ∧ n ≤ 5) ∧ (∃ w, FdR m (rwM (m 4 0) (96 * u.toNat)) (m 5 0 u.toNat) w ∧ r = (if w ≤ n then w else -1)) ∧ SM m m1))) := by
  refine MX.of (cc := cX8_shortest) (maxL := 4) (ret := (some .int)) [(0, .ref (am 0 0)), (1, vI u), (2, vI n)] (by decide +kernel) rfl rfl (Nat.le_of_ble_eq_true rfl) ?_
  intro κ C hkl G
  subst hkl
  have C : CX κ "LedgeLevelsModel" "shortest" cX8_shortest wsX8_shortest { frames := 4, cells := 0, slots := 0, locals := 97 } D A 4 := C
  have hiz : nq (D.1 20) (D.1 21) := cx_iz C
  obtain ⟨hM1a, hM1b⟩ := id hM1
  refine x_aload_n C dX8_shortest_0 0 rfl ?_
  refine x_iconst C dX8_shortest_1 0 (by decide) ?_
  have f1 : h (am 0 0) = some (eO 8 [vI (m 0 0 0), .ref (am 1 0), vI (m 0 0 2), .ref (am 3 0), .ref (am 4 0), .ref (am 5 0), .ref (am 6 0), .ref (am 7 0), .ref (am 8 0), .ref (am 9 0), .ref (am 10 0), .ref (am 11 0), .ref (am 12 0), .ref (am 13 0), vI (m 0 0 14), .ref (am 15 0), .ref (am 16 0), .ref (am 17 0), .ref (am 18 0), .ref (am 19 0), .ref (am 20 0), .ref (am 21 0), .ref (am 22 0), .ref (am 23 0), .ref (am 24 0), .ref (am 25 0), .ref (am 26 0), .ref (am 27 0), .ref (am 28 0), .ref (am 29 0), vI (((m 0 0 30).toNat : Nat) : Int), vI (m 0 0 31), vI (m 0 0 32), vI (((m 0 0 33).toNat : Nat) : Int), vI (m 0 0 34), .ref (am 35 0), .ref (am 36 0), .ref (am 37 0)]) := hR.1 0 0 (lm0 (by decide))
  refine x_put C f1 (T := TX8) rfl tyX8_ok nmX8 kX8_shortest_1 0 (by decide) kX8_shortest_0 rfl (fs' := [vI 0, .ref (am 1 0), vI (m 0 0 2), .ref (am 3 0), .ref (am 4 0), .ref (am 5 0), .ref (am 6 0), .ref (am 7 0), .ref (am 8 0), .ref (am 9 0), .ref (am 10 0), .ref (am 11 0), .ref (am 12 0), .ref (am 13 0), vI (m 0 0 14), .ref (am 15 0), .ref (am 16 0), .ref (am 17 0), .ref (am 18 0), .ref (am 19 0), .ref (am 20 0), .ref (am 21 0), .ref (am 22 0), .ref (am 23 0), .ref (am 24 0), .ref (am 25 0), .ref (am 26 0), .ref (am 27 0), .ref (am 28 0), .ref (am 29 0), vI (((m 0 0 30).toNat : Nat) : Int), vI (m 0 0 31), vI (m 0 0 32), vI (((m 0 0 33).toNat : Nat) : Int), vI (m 0 0 34), .ref (am 35 0), .ref (am 36 0), .ref (am 37 0)]) rfl rfl (by simp) rfl dX8_shortest_2 (x_hn (fun h2 e3 => ?_))
  have f4 : h2 (am 0 0) = some (eO 8 [vI 0, .ref (am 1 0), vI (m 0 0 2), .ref (am 3 0), .ref (am 4 0), .ref (am 5 0), .ref (am 6 0), .ref (am 7 0), .ref (am 8 0), .ref (am 9 0), .ref (am 10 0), .ref (am 11 0), .ref (am 12 0), .ref (am 13 0), vI (m 0 0 14), .ref (am 15 0), .ref (am 16 0), .ref (am 17 0), .ref (am 18 0), .ref (am 19 0), .ref (am 20 0), .ref (am 21 0), .ref (am 22 0), .ref (am 23 0), .ref (am 24 0), .ref (am 25 0), .ref (am 26 0), .ref (am 27 0), .ref (am 28 0), .ref (am 29 0), vI (((m 0 0 30).toNat : Nat) : Int), vI (m 0 0 31), vI (m 0 0 32), vI (((m 0 0 33).toNat : Nat) : Int), vI (m 0 0 34), .ref (am 35 0), .ref (am 36 0), .ref (am 37 0)]) := by rw [e3]; exact hu_s
  refine x_aload_n C dX8_shortest_5 0 rfl ?_
  refine x_iload_n C dX8_shortest_6 1 rfl ?_
  have cp6 : MP D am h (cu m 0 0 ((fu (m 0 0) 0 0))) h2 := by rw [e3]; exact (MP.up (MP.rf hR) (lm0 (by decide)) ((fu (m 0 0) 0 0)) rfl)
  refine x_callV C (n := 1) (qc := (RX8, TX8, 38)) (As := [vI u]) (rest := []) (c_X8_isLevel (cp6.1) (hM1) (by omega)) gX8_shortest_X8_isLevel (by decide +kernel) f4 rfl rfl rfl rfl (Nat.le_of_ble_eq_true rfl) ⟨by decide, by decide⟩ ⟨(by decide), (by decide)⟩ dX8_shortest_7 (fun rv7 h8 hp9 => ?_)
  obtain ⟨rfl, e10⟩ := hp9
  obtain rfl := e10.symm
  refine x_topv (show bI (0 ≤ u ∧ u ≤ ((cu m 0 0 ((fu (m 0 0) 0 0)))) 0 0 2 - 1) = bI (0 ≤ u ∧ u ≤ m 0 0 2 - 1) from by rfl) ?_
  have hbr5 := bI_cs ((0 ≤ u ∧ u ≤ m 0 0 2 - 1))
  refine x_if_ne (tgt := 19) C dX8_shortest_10 (by decide) (by omega) (fun c11 => ?_) (fun c11 => ?_)
  · skip
    refine x_iload_n C dX8_shortest_19 2 rfl ?_
    refine x_iconst C dX8_shortest_20 0 (by decide) ?_
    refine x_iconst C dX8_shortest_21 5 (by decide) ?_
    refine x_callS C (n := 3) (As := [vI n, vI 0, vI 5]) (rest := []) (c_X8_in (by omega) (by omega) (by omega)) gX8_shortest_X8_in (by decide +kernel) rfl rfl rfl (Nat.le_of_ble_eq_true rfl) ⟨by decide, by decide⟩ ⟨(by decide), (by decide)⟩ dX8_shortest_22 (fun rv13 h14 hp15 => ?_)
    obtain ⟨rfl, e16⟩ := hp15
    obtain rfl := e16.symm
    have hbr12 := bI_cs ((0 ≤ n ∧ n ≤ 5))
    refine x_if_ne (tgt := 34) C dX8_shortest_25 (by decide) (by omega) (fun c17 => ?_) (fun c17 => ?_)
    · skip
      obtain ⟨sr9, hsr0⟩ : ∃ sr9, sr9 = rwM (m 4 0) (96 * (u).toNat) := ⟨_, rfl⟩
      have hs9 : ∀ j : Nat, j < 96 → sr9 j = (if (0 : Int) = 0 then m 4 0 (Int.toNat (96 * (u) + j)) else m 16 0 (Int.toNat (96 * (u) + j))) := fun j hj => by
        rw [hsr0, if_pos rfl, show Int.toNat (96 * (u) + (j : Int)) = 96 * (u).toNat + j by omega]; exact if_pos hj
      have hsr9 : ∀ j : Nat, 0 ≤ sr9 j ∧ sr9 j ≤ 8 := by rw [hsr0]; exact rwM_r (fun j hj => hG4 (u).toNat j (by omega) hj)
      have hA9 : lyA sr9 96 ≤ 7 := by rw [hsr0]; exact hKE (u).toNat (by omega)
      have hg28 : ∀ j, 0 ≤ lyG sr9 (m 28 0) 96 j ∧ lyG sr9 (m 28 0) 96 j ≤ 8 := lyG_r hsr9 hGK.1 96
      have hb29 : ∀ j, 0 ≤ lyB sr9 (m 29 0) 96 j ∧ lyB sr9 (m 29 0) 96 j ≤ 7 := lyB_r hA9 hGK.2
      have hal9 : 0 ≤ ((lyA sr9 96 : Nat) : Int) ∧ ((lyA sr9 96 : Nat) : Int) < 8 := by omega
      refine x_aload_n C dX8_shortest_34 0 rfl ?_
      refine x_iconst C dX8_shortest_35 0 (by decide) ?_
      refine x_iload_n C dX8_shortest_36 1 rfl ?_
      have cp18 : MP D am h (cu m 0 0 ((fu (m 0 0) 0 0))) h2 := by rw [e3]; exact (MP.up (MP.rf hR) (lm0 (by decide)) ((fu (m 0 0) 0 0)) rfl)
      refine x_callV C (n := 2) (qc := (RX8, TX8, 38)) (As := [vI 0, vI u]) (rest := []) (c_X8_lays (src := sr9) (cp18.1) (by omega) (by omega) (hs9) (hsr9) (hA9)) gX8_shortest_X8_lays (by decide +kernel) f4 rfl rfl rfl rfl (Nat.le_of_ble_eq_true rfl) ⟨by decide, by decide⟩ ⟨(by decide), (by decide)⟩ dX8_shortest_37 (fun rv19 h20 hp21 => ?_)
      obtain ⟨rfl, cp23⟩ := hp21
      have cp24 : MP D am h (layN ((cu m 0 0 ((fu (m 0 0) 0 0)))) sr9 96) h20 := MP.trans cp18 cp23
      have hz9 : 0 ≤ m 5 0 u.toNat ∧ m 5 0 u.toNat ≤ 95 := hbg u.toNat (by omega)
      refine x_aload_n C dX8_shortest_40 0 rfl ?_
      refine x_aload_n C dX8_shortest_41 0 rfl ?_
      have f25 : h20 (am 0 0) = some (eO 8 [vI (((layN ((cu m 0 0 ((fu (m 0 0) 0 0)))) sr9 96) 0 0) 0), .ref (am 1 0), vI (((layN ((cu m 0 0 ((fu (m 0 0) 0 0)))) sr9 96) 0 0) 2), .ref (am 3 0), .ref (am 4 0), .ref (am 5 0), .ref (am 6 0), .ref (am 7 0), .ref (am 8 0), .ref (am 9 0), .ref (am 10 0), .ref (am 11 0), .ref (am 12 0), .ref (am 13 0), vI (((layN ((cu m 0 0 ((fu (m 0 0) 0 0)))) sr9 96) 0 0) 14), .ref (am 15 0), .ref (am 16 0), .ref (am 17 0), .ref (am 18 0), .ref (am 19 0), .ref (am 20 0), .ref (am 21 0), .ref (am 22 0), .ref (am 23 0), .ref (am 24 0), .ref (am 25 0), .ref (am 26 0), .ref (am 27 0), .ref (am 28 0), .ref (am 29 0), vI (((((layN ((cu m 0 0 ((fu (m 0 0) 0 0)))) sr9 96) 0 0) 30).toNat : Nat) : Int), vI (((layN ((cu m 0 0 ((fu (m 0 0) 0 0)))) sr9 96) 0 0) 31), vI (((layN ((cu m 0 0 ((fu (m 0 0) 0 0)))) sr9 96) 0 0) 32), vI (((((layN ((cu m 0 0 ((fu (m 0 0) 0 0)))) sr9 96) 0 0) 33).toNat : Nat) : Int), vI (((layN ((cu m 0 0 ((fu (m 0 0) 0 0)))) sr9 96) 0 0) 34), .ref (am 35 0), .ref (am 36 0), .ref (am 37 0)]) := cp24.1.1 0 0 (lm0 (by decide))
      refine x_get C (v := .ref (am 5 0)) f25 (T := TX8) rfl kX8_shortest_1 5 (by decide) kX8_shortest_2 rfl dX8_shortest_42 ?_
      refine x_iload_n C dX8_shortest_45 1 rfl ?_
      have f26 : h20 (am 5 0) = some (eI D 12 (((layN ((cu m 0 0 ((fu (m 0 0) 0 0)))) sr9 96) 5 0))) := cp24.1.1 5 0 (lm0 (by decide))
      refine x_iald C f26 ⟨by omega, by omega⟩ (by decide) dX8_shortest_46 ?_
      refine x_topv (show (((layN ((cu m 0 0 ((fu (m 0 0) 0 0)))) sr9 96) 5 0)) (Int.toNat u) = m 5 0 u.toNat from by rfl) ?_
      refine x_callV C (n := 1) (qc := (RX8, TX8, 38)) (As := [vI (m 5 0 u.toNat)]) (rest := []) (c_X8_searches (cp24.1) (hz9) (hg28) (hb29) (hal9) (hSS)) gX8_shortest_X8_searches (by decide +kernel) f25 rfl rfl rfl rfl (Nat.le_of_ble_eq_true rfl) ⟨by decide, by decide⟩ ⟨(by decide), (by decide)⟩ dX8_shortest_47 (fun rv27 h28 hp29 => ?_)
      obtain ⟨c_31, v_32, s_33, w_34, t_35, Q_36, F_37, R_38, rfl, cp39, hF_47, hS9_47, hR9_47, hw9_47, hb9_47⟩ := hp29
      have cp40 : MP D am h (srM ((layN ((cu m 0 0 ((fu (m 0 0) 0 0)))) sr9 96)) c_31 v_32 t_35 s_33 Q_36 F_37 R_38) h28 := MP.trans cp24 cp39
      have hw8 := hw9_47
      refine x_istore_n C (ls' := [(0, .ref (am 0 0)), (1, vI u), (2, vI n), (3, vI w_34)]) dX8_shortest_50 (by decide) rfl ?_
      refine x_iload_n C dX8_shortest_51 3 rfl ?_
      refine x_iload_n C dX8_shortest_52 2 rfl ?_
      refine x_icmp_gt (tgt := 60) C dX8_shortest_53 (by decide) (by omega) (by omega) (fun c41 => ?_) (fun c41 => ?_)
      · skip
        refine x_iconst C dX8_shortest_60 (-1) (by decide) ?_
        refine x_iret C G dX8_shortest_61 ?_ (by decide) (by decide)
        refine ⟨_, _, rfl, cp40, Or.inr (Or.inr ⟨rfl, by omega, ⟨w_34, ?_, by first | (rw [if_pos (by omega)]) | (rw [if_neg (by omega)])⟩, SM.sr (SM.ly hsr9 hA9 (SM.th SM.rf))⟩)⟩
        rw [← hsr0]
        exact hF_47
      · skip
        refine x_iload_n C dX8_shortest_56 3 rfl ?_
        refine x_goto (tgt := 61) C dX8_shortest_57 (by decide) ?_
        refine x_iret C G dX8_shortest_61 ?_ (by decide) (by decide)
        refine ⟨_, _, rfl, cp40, Or.inr (Or.inr ⟨rfl, by omega, ⟨w_34, ?_, by first | (rw [if_pos (by omega)]) | (rw [if_neg (by omega)])⟩, SM.sr (SM.ly hsr9 hA9 (SM.th SM.rf))⟩)⟩
        rw [← hsr0]
        exact hF_47
    · skip
      refine x_aload_n C dX8_shortest_28 0 rfl ?_
      refine x_iconst C dX8_shortest_29 2 (by decide) ?_
      have cp42 : MP D am h (cu m 0 0 ((fu (m 0 0) 0 0))) h2 := by rw [e3]; exact (MP.up (MP.rf hR) (lm0 (by decide)) ((fu (m 0 0) 0 0)) rfl)
      refine x_callV C (n := 1) (qc := (RX8, TX8, 38)) (As := [vI 2]) (rest := []) (c_X8_fails (cp42.1)) gX8_shortest_X8_fails (by decide +kernel) f4 rfl rfl rfl rfl (Nat.le_of_ble_eq_true rfl) ⟨by decide, by decide⟩ ⟨(by decide), (by decide)⟩ dX8_shortest_30 (fun rv43 h44 hp45 => ?_)
      obtain ⟨rfl, cp47⟩ := hp45
      have cp48 : MP D am h ((cu ((cu m 0 0 ((fu (m 0 0) 0 0)))) 0 0 ((fu (((cu m 0 0 ((fu (m 0 0) 0 0)))) 0 0) 0 2)))) h44 := MP.trans cp42 cp47
      refine x_iret C G dX8_shortest_33 ?_ (by decide) (by decide)
      exact ⟨_, _, rfl, cp48, Or.inr (Or.inl ⟨rfl, by omega, (by repeat (first | exact SM.rf | refine SM.th ?_ | refine SM.o2 ?_ | refine SM.o14 ?_ | refine SM.sr ?_ | refine SM.ly (by assumption) (by assumption) ?_ | refine SM.bm ?_ | refine SM.st ?_ | refine SM.mv ?_ | refine SM.up (by decide) ?_))⟩)⟩
  · skip
    refine x_aload_n C dX8_shortest_13 0 rfl ?_
    refine x_iconst C dX8_shortest_14 1 (by decide) ?_
    have cp49 : MP D am h (cu m 0 0 ((fu (m 0 0) 0 0))) h2 := by rw [e3]; exact (MP.up (MP.rf hR) (lm0 (by decide)) ((fu (m 0 0) 0 0)) rfl)
    refine x_callV C (n := 1) (qc := (RX8, TX8, 38)) (As := [vI 1]) (rest := []) (c_X8_fails (cp49.1)) gX8_shortest_X8_fails (by decide +kernel) f4 rfl rfl rfl rfl (Nat.le_of_ble_eq_true rfl) ⟨by decide, by decide⟩ ⟨(by decide), (by decide)⟩ dX8_shortest_15 (fun rv50 h51 hp52 => ?_)
    obtain ⟨rfl, cp54⟩ := hp52
    have cp55 : MP D am h ((cu ((cu m 0 0 ((fu (m 0 0) 0 0)))) 0 0 ((fu (((cu m 0 0 ((fu (m 0 0) 0 0)))) 0 0) 0 1)))) h51 := MP.trans cp49 cp54
    refine x_iret C G dX8_shortest_18 ?_ (by decide) (by decide)
    exact ⟨_, _, rfl, cp55, Or.inl ⟨rfl, by omega, (by repeat (first | exact SM.rf | refine SM.th ?_ | refine SM.o2 ?_ | refine SM.o14 ?_ | refine SM.sr ?_ | refine SM.ly (by assumption) (by assumption) ?_ | refine SM.bm ?_ | refine SM.st ?_ | refine SM.mv ?_ | refine SM.up (by decide) ?_))⟩⟩

theorem kX8_reach_0 : Cond.fieldLink "LedgeLevelsModel" 101 "LedgeLevelsModel" "thrown" "I" ∈ wsX8_reach := by decide +kernel
theorem kX8_reach_1 : ∀ w ∈ wsX80, w ∈ wsX8_reach := by decide +kernel
theorem kX8_reach_2 : Cond.fieldLink "LedgeLevelsModel" 19 "LedgeLevelsModel" "begins" "[I" ∈ wsX8_reach := by decide +kernel
theorem kX8_reach_3 : Cond.fieldLink "LedgeLevelsModel" 97 "LedgeLevelsModel" "reached" "[Z" ∈ wsX8_reach := by decide +kernel
set_option maxRecDepth 100000 in
set_option maxHeartbeats 4000000 in
theorem c_X8_reach {l : Launch} {D : va_G} {A : Nat → Prop} {h : vh} {am : AD} {m : CS} {u : Int}  (hR : RepM D am m h) (hM1 : Mk1 m) (hi_u : -2147483648 ≤ u ∧ u ≤ 2147483647) (hG4 : ∀ i j : Nat, (i : Int) < m 0 0 2 → j < 96 → 0 ≤ m 4 0 (96 * i + j) ∧ m 4 0 (96 * i + j) ≤ 8) (hKE : ∀ i : Nat, (i : Int) < m 0 0 2 → lyA (rwM (m 4 0) (96 * i)) 96 ≤ 7) (hGK : GK m) (hSS : ∀ j, 0 ≤ m 1 0 j ∧ m 1 0 j ≤ 4) (hbg : ∀ i : Nat, (i : Int) < m 0 0 2 → 0 ≤ m 5 0 i ∧ m 5 0 i ≤ 95) : MX l D A yX8_reach wsX8_reach { frames := 4, cells := 0, slots := 0, locals := 97 } [.ref (am 0 0), vI u] h (fun rv h' => ∃ (r : Int) (m1 : CS), rv = some (vI r) ∧ MP D am h (m1) h' ∧ ((m1 0 0 0 = 1 ∧ (¬ (0 ≤ u ∧ u < m 0 0 2)) ∧ SM m m1) ∨ (m1 0 0 0 = 0 ∧ (0 ≤ u ∧ u < m 0 0 2) ∧ (∃ R : Nat → Int, ((∀ x : Nat, x < 96 → (R x = 1 ↔ SnR m (rwM (m 4 0) (96 * u.toNat)) (m 5 0 u.toNat) x)) ∧ (∀ j, j < 96 → 0 ≤ R j ∧ R j ≤ 1)) ∧ r = ((cntR R 96 : Nat) : Int)) ∧ SM m m1))) := by
  refine MX.of (cc := cX8_reach) (maxL := 5) (ret := (some .int)) [(0, .ref (am 0 0)), (1, vI u)] (by decide +kernel) rfl rfl (Nat.le_of_ble_eq_true rfl) ?_
  intro κ C hkl G
  subst hkl
  have C : CX κ "LedgeLevelsModel" "reach" cX8_reach wsX8_reach { frames := 4, cells := 0, slots := 0, locals := 97 } D A 5 := C
  have hiz : nq (D.1 20) (D.1 21) := cx_iz C
  obtain ⟨hM1a, hM1b⟩ := id hM1
  refine x_aload_n C dX8_reach_0 0 rfl ?_
  refine x_iconst C dX8_reach_1 0 (by decide) ?_
  have f1 : h (am 0 0) = some (eO 8 [vI (m 0 0 0), .ref (am 1 0), vI (m 0 0 2), .ref (am 3 0), .ref (am 4 0), .ref (am 5 0), .ref (am 6 0), .ref (am 7 0), .ref (am 8 0), .ref (am 9 0), .ref (am 10 0), .ref (am 11 0), .ref (am 12 0), .ref (am 13 0), vI (m 0 0 14), .ref (am 15 0), .ref (am 16 0), .ref (am 17 0), .ref (am 18 0), .ref (am 19 0), .ref (am 20 0), .ref (am 21 0), .ref (am 22 0), .ref (am 23 0), .ref (am 24 0), .ref (am 25 0), .ref (am 26 0), .ref (am 27 0), .ref (am 28 0), .ref (am 29 0), vI (((m 0 0 30).toNat : Nat) : Int), vI (m 0 0 31), vI (m 0 0 32), vI (((m 0 0 33).toNat : Nat) : Int), vI (m 0 0 34), .ref (am 35 0), .ref (am 36 0), .ref (am 37 0)]) := hR.1 0 0 (lm0 (by decide))
  refine x_put C f1 (T := TX8) rfl tyX8_ok nmX8 kX8_reach_1 0 (by decide) kX8_reach_0 rfl (fs' := [vI 0, .ref (am 1 0), vI (m 0 0 2), .ref (am 3 0), .ref (am 4 0), .ref (am 5 0), .ref (am 6 0), .ref (am 7 0), .ref (am 8 0), .ref (am 9 0), .ref (am 10 0), .ref (am 11 0), .ref (am 12 0), .ref (am 13 0), vI (m 0 0 14), .ref (am 15 0), .ref (am 16 0), .ref (am 17 0), .ref (am 18 0), .ref (am 19 0), .ref (am 20 0), .ref (am 21 0), .ref (am 22 0), .ref (am 23 0), .ref (am 24 0), .ref (am 25 0), .ref (am 26 0), .ref (am 27 0), .ref (am 28 0), .ref (am 29 0), vI (((m 0 0 30).toNat : Nat) : Int), vI (m 0 0 31), vI (m 0 0 32), vI (((m 0 0 33).toNat : Nat) : Int), vI (m 0 0 34), .ref (am 35 0), .ref (am 36 0), .ref (am 37 0)]) rfl rfl (by simp) rfl dX8_reach_2 (x_hn (fun h2 e3 => ?_))
  have f4 : h2 (am 0 0) = some (eO 8 [vI 0, .ref (am 1 0), vI (m 0 0 2), .ref (am 3 0), .ref (am 4 0), .ref (am 5 0), .ref (am 6 0), .ref (am 7 0), .ref (am 8 0), .ref (am 9 0), .ref (am 10 0), .ref (am 11 0), .ref (am 12 0), .ref (am 13 0), vI (m 0 0 14), .ref (am 15 0), .ref (am 16 0), .ref (am 17 0), .ref (am 18 0), .ref (am 19 0), .ref (am 20 0), .ref (am 21 0), .ref (am 22 0), .ref (am 23 0), .ref (am 24 0), .ref (am 25 0), .ref (am 26 0), .ref (am 27 0), .ref (am 28 0), .ref (am 29 0), vI (((m 0 0 30).toNat : Nat) : Int), vI (m 0 0 31), vI (m 0 0 32), vI (((m 0 0 33).toNat : Nat) : Int), vI (m 0 0 34), .ref (am 35 0), .ref (am 36 0), .ref (am 37 0)]) := by rw [e3]; exact hu_s
  refine x_aload_n C dX8_reach_5 0 rfl ?_
  refine x_iload_n C dX8_reach_6 1 rfl ?_
  have cp6 : MP D am h (cu m 0 0 ((fu (m 0 0) 0 0))) h2 := by rw [e3]; exact (MP.up (MP.rf hR) (lm0 (by decide)) ((fu (m 0 0) 0 0)) rfl)
  refine x_callV C (n := 1) (qc := (RX8, TX8, 38)) (As := [vI u]) (rest := []) (c_X8_isLevel (cp6.1) (hM1) (by omega)) gX8_reach_X8_isLevel (by decide +kernel) f4 rfl rfl rfl rfl (Nat.le_of_ble_eq_true rfl) ⟨by decide, by decide⟩ ⟨(by decide), (by decide)⟩ dX8_reach_7 (fun rv7 h8 hp9 => ?_)
  obtain ⟨rfl, e10⟩ := hp9
  obtain rfl := e10.symm
  refine x_topv (show bI (0 ≤ u ∧ u ≤ ((cu m 0 0 ((fu (m 0 0) 0 0)))) 0 0 2 - 1) = bI (0 ≤ u ∧ u ≤ m 0 0 2 - 1) from by rfl) ?_
  have hbr5 := bI_cs ((0 ≤ u ∧ u ≤ m 0 0 2 - 1))
  refine x_if_ne (tgt := 19) C dX8_reach_10 (by decide) (by omega) (fun c11 => ?_) (fun c11 => ?_)
  · skip
    obtain ⟨sr9, hsr0⟩ : ∃ sr9, sr9 = rwM (m 4 0) (96 * (u).toNat) := ⟨_, rfl⟩
    have hs9 : ∀ j : Nat, j < 96 → sr9 j = (if (0 : Int) = 0 then m 4 0 (Int.toNat (96 * (u) + j)) else m 16 0 (Int.toNat (96 * (u) + j))) := fun j hj => by
      rw [hsr0, if_pos rfl, show Int.toNat (96 * (u) + (j : Int)) = 96 * (u).toNat + j by omega]; exact if_pos hj
    have hsr9 : ∀ j : Nat, 0 ≤ sr9 j ∧ sr9 j ≤ 8 := by rw [hsr0]; exact rwM_r (fun j hj => hG4 (u).toNat j (by omega) hj)
    have hA9 : lyA sr9 96 ≤ 7 := by rw [hsr0]; exact hKE (u).toNat (by omega)
    have hg28 : ∀ j, 0 ≤ lyG sr9 (m 28 0) 96 j ∧ lyG sr9 (m 28 0) 96 j ≤ 8 := lyG_r hsr9 hGK.1 96
    have hb29 : ∀ j, 0 ≤ lyB sr9 (m 29 0) 96 j ∧ lyB sr9 (m 29 0) 96 j ≤ 7 := lyB_r hA9 hGK.2
    have hal9 : 0 ≤ ((lyA sr9 96 : Nat) : Int) ∧ ((lyA sr9 96 : Nat) : Int) < 8 := by omega
    refine x_aload_n C dX8_reach_19 0 rfl ?_
    refine x_iconst C dX8_reach_20 0 (by decide) ?_
    refine x_iload_n C dX8_reach_21 1 rfl ?_
    have cp12 : MP D am h (cu m 0 0 ((fu (m 0 0) 0 0))) h2 := by rw [e3]; exact (MP.up (MP.rf hR) (lm0 (by decide)) ((fu (m 0 0) 0 0)) rfl)
    refine x_callV C (n := 2) (qc := (RX8, TX8, 38)) (As := [vI 0, vI u]) (rest := []) (c_X8_lays (src := sr9) (cp12.1) (by omega) (by omega) (hs9) (hsr9) (hA9)) gX8_reach_X8_lays (by decide +kernel) f4 rfl rfl rfl rfl (Nat.le_of_ble_eq_true rfl) ⟨by decide, by decide⟩ ⟨(by decide), (by decide)⟩ dX8_reach_22 (fun rv13 h14 hp15 => ?_)
    obtain ⟨rfl, cp17⟩ := hp15
    have cp18 : MP D am h (layN ((cu m 0 0 ((fu (m 0 0) 0 0)))) sr9 96) h14 := MP.trans cp12 cp17
    have hz9 : 0 ≤ m 5 0 u.toNat ∧ m 5 0 u.toNat ≤ 95 := hbg u.toNat (by omega)
    refine x_aload_n C dX8_reach_25 0 rfl ?_
    refine x_aload_n C dX8_reach_26 0 rfl ?_
    have f19 : h14 (am 0 0) = some (eO 8 [vI (((layN ((cu m 0 0 ((fu (m 0 0) 0 0)))) sr9 96) 0 0) 0), .ref (am 1 0), vI (((layN ((cu m 0 0 ((fu (m 0 0) 0 0)))) sr9 96) 0 0) 2), .ref (am 3 0), .ref (am 4 0), .ref (am 5 0), .ref (am 6 0), .ref (am 7 0), .ref (am 8 0), .ref (am 9 0), .ref (am 10 0), .ref (am 11 0), .ref (am 12 0), .ref (am 13 0), vI (((layN ((cu m 0 0 ((fu (m 0 0) 0 0)))) sr9 96) 0 0) 14), .ref (am 15 0), .ref (am 16 0), .ref (am 17 0), .ref (am 18 0), .ref (am 19 0), .ref (am 20 0), .ref (am 21 0), .ref (am 22 0), .ref (am 23 0), .ref (am 24 0), .ref (am 25 0), .ref (am 26 0), .ref (am 27 0), .ref (am 28 0), .ref (am 29 0), vI (((((layN ((cu m 0 0 ((fu (m 0 0) 0 0)))) sr9 96) 0 0) 30).toNat : Nat) : Int), vI (((layN ((cu m 0 0 ((fu (m 0 0) 0 0)))) sr9 96) 0 0) 31), vI (((layN ((cu m 0 0 ((fu (m 0 0) 0 0)))) sr9 96) 0 0) 32), vI (((((layN ((cu m 0 0 ((fu (m 0 0) 0 0)))) sr9 96) 0 0) 33).toNat : Nat) : Int), vI (((layN ((cu m 0 0 ((fu (m 0 0) 0 0)))) sr9 96) 0 0) 34), .ref (am 35 0), .ref (am 36 0), .ref (am 37 0)]) := cp18.1.1 0 0 (lm0 (by decide))
    refine x_get C (v := .ref (am 5 0)) f19 (T := TX8) rfl kX8_reach_1 5 (by decide) kX8_reach_2 rfl dX8_reach_27 ?_
    refine x_iload_n C dX8_reach_30 1 rfl ?_
    have f20 : h14 (am 5 0) = some (eI D 12 (((layN ((cu m 0 0 ((fu (m 0 0) 0 0)))) sr9 96) 5 0))) := cp18.1.1 5 0 (lm0 (by decide))
    refine x_iald C f20 ⟨by omega, by omega⟩ (by decide) dX8_reach_31 ?_
    refine x_topv (show (((layN ((cu m 0 0 ((fu (m 0 0) 0 0)))) sr9 96) 5 0)) (Int.toNat u) = m 5 0 u.toNat from by rfl) ?_
    refine x_callV C (n := 1) (qc := (RX8, TX8, 38)) (As := [vI (m 5 0 u.toNat)]) (rest := []) (c_X8_searches (cp18.1) (hz9) (hg28) (hb29) (hal9) (hSS)) gX8_reach_X8_searches (by decide +kernel) f19 rfl rfl rfl rfl (Nat.le_of_ble_eq_true rfl) ⟨by decide, by decide⟩ ⟨(by decide), (by decide)⟩ dX8_reach_32 (fun rv21 h22 hp23 => ?_)
    obtain ⟨c_25, v_26, s_27, w_28, t_29, Q_30, F_31, R_32, rfl, cp33, hF_32, hS9_32, hR9_32, hw9_32, hb9_32⟩ := hp23
    have cp34 : MP D am h (srM ((layN ((cu m 0 0 ((fu (m 0 0) 0 0)))) sr9 96)) c_25 v_26 t_29 s_27 Q_30 F_31 R_32) h22 := MP.trans cp18 cp33
    refine x_istore_n C (ls' := [(0, .ref (am 0 0)), (1, vI u), (2, vI w_28)]) dX8_reach_35 (by decide) rfl ?_
    refine x_iconst C dX8_reach_36 0 (by decide) ?_
    refine x_topv (show 0 = ((cntR R_32 0 : Nat) : Int) from by rfl) ?_
    refine x_istore_n C (ls' := [(0, .ref (am 0 0)), (1, vI u), (2, vI w_28), (3, vI ((cntR R_32 0 : Nat) : Int))]) dX8_reach_37 (by decide) rfl ?_
    refine x_iconst C dX8_reach_38 0 (by decide) ?_
    refine x_istore C (ls' := [(0, .ref (am 0 0)), (1, vI u), (2, vI w_28), (3, vI ((cntR R_32 0 : Nat) : Int)), (4, vI 0)]) dX8_reach_39 (by decide) rfl ?_
    have LP : ∀ (N : Nat) (n : Nat)   (hn : n ≤ 96) (hN : 96 - n < N), X κ 0 0 h22 [(0, .ref (am 0 0)), (1, vI u), (2, vI w_28), (3, vI ((cntR R_32 n : Nat) : Int)), (4, vI ((n : Nat) : Int))] 41 [] := by
      intro N
      induction N with
      | zero => intro n hn hN; exfalso; omega
      | succ N ihLP =>
        intro n hn hN
        have hr9 : n < 96 → 0 ≤ R_32 n ∧ R_32 n ≤ 1 := hR9_32 n
        refine x_iload C dX8_reach_41 4 rfl ?_
        refine x_bipush C dX8_reach_43 96 (by decide) ?_
        refine x_icmp_ge (tgt := 72) C dX8_reach_45 (by decide) (by omega) (by omega) (fun c36 => ?_) (fun c36 => ?_)
        · skip
          refine x_iload_n C dX8_reach_72 3 rfl ?_
          refine x_iret C G dX8_reach_73 ?_ (by decide) (by decide)
          have hn96 : n = 96 := by omega
          refine ⟨_, _, rfl, cp34, Or.inr ⟨rfl, by omega, ⟨R_32, ⟨?_, hR9_32⟩, by rw [hn96]⟩, SM.sr (SM.ly hsr9 hA9 (SM.th SM.rf))⟩⟩
          rw [← hsr0]
          exact hS9_32
        · skip
          refine x_iload_n C dX8_reach_48 3 rfl ?_
          refine x_aload_n C dX8_reach_49 0 rfl ?_
          have f37 : h22 (am 0 0) = some (eO 8 [vI (((srM ((layN ((cu m 0 0 ((fu (m 0 0) 0 0)))) sr9 96)) c_25 v_26 t_29 s_27 Q_30 F_31 R_32) 0 0) 0), .ref (am 1 0), vI (((srM ((layN ((cu m 0 0 ((fu (m 0 0) 0 0)))) sr9 96)) c_25 v_26 t_29 s_27 Q_30 F_31 R_32) 0 0) 2), .ref (am 3 0), .ref (am 4 0), .ref (am 5 0), .ref (am 6 0), .ref (am 7 0), .ref (am 8 0), .ref (am 9 0), .ref (am 10 0), .ref (am 11 0), .ref (am 12 0), .ref (am 13 0), vI (((srM ((layN ((cu m 0 0 ((fu (m 0 0) 0 0)))) sr9 96)) c_25 v_26 t_29 s_27 Q_30 F_31 R_32) 0 0) 14), .ref (am 15 0), .ref (am 16 0), .ref (am 17 0), .ref (am 18 0), .ref (am 19 0), .ref (am 20 0), .ref (am 21 0), .ref (am 22 0), .ref (am 23 0), .ref (am 24 0), .ref (am 25 0), .ref (am 26 0), .ref (am 27 0), .ref (am 28 0), .ref (am 29 0), vI (((((srM ((layN ((cu m 0 0 ((fu (m 0 0) 0 0)))) sr9 96)) c_25 v_26 t_29 s_27 Q_30 F_31 R_32) 0 0) 30).toNat : Nat) : Int), vI (((srM ((layN ((cu m 0 0 ((fu (m 0 0) 0 0)))) sr9 96)) c_25 v_26 t_29 s_27 Q_30 F_31 R_32) 0 0) 31), vI (((srM ((layN ((cu m 0 0 ((fu (m 0 0) 0 0)))) sr9 96)) c_25 v_26 t_29 s_27 Q_30 F_31 R_32) 0 0) 32), vI (((((srM ((layN ((cu m 0 0 ((fu (m 0 0) 0 0)))) sr9 96)) c_25 v_26 t_29 s_27 Q_30 F_31 R_32) 0 0) 33).toNat : Nat) : Int), vI (((srM ((layN ((cu m 0 0 ((fu (m 0 0) 0 0)))) sr9 96)) c_25 v_26 t_29 s_27 Q_30 F_31 R_32) 0 0) 34), .ref (am 35 0), .ref (am 36 0), .ref (am 37 0)]) := cp34.1.1 0 0 (lm0 (by decide))
          refine x_get C (v := .ref (am 37 0)) f37 (T := TX8) rfl kX8_reach_1 37 (by decide) kX8_reach_3 rfl dX8_reach_50 ?_
          refine x_iload C dX8_reach_53 4 rfl ?_
          have f38 : h22 (am 37 0) = some (eZ D 96 (((srM ((layN ((cu m 0 0 ((fu (m 0 0) 0 0)))) sr9 96)) c_25 v_26 t_29 s_27 Q_30 F_31 R_32) 37 0))) := cp34.1.1 37 0 (lm0 (by decide))
          refine x_zald C f38 ⟨by omega, by omega⟩ (by decide) dX8_reach_55 ?_
          refine x_topv (show (((srM ((layN ((cu m 0 0 ((fu (m 0 0) 0 0)))) sr9 96)) c_25 v_26 t_29 s_27 Q_30 F_31 R_32) 37 0)) (Int.toNat (((n : Nat) : Int))) = R_32 n from by rfl) ?_
          refine x_if_eq (tgt := 63) C dX8_reach_56 (by decide) (by omega) (fun c39 => ?_) (fun c39 => ?_)
          · skip
            refine x_iconst C dX8_reach_63 0 (by decide) ?_
            refine x_iadd C dX8_reach_64 ?_
            refine x_topv (show (((cntR R_32 n : Nat) : Int)) + 0 = ((cntR R_32 (n + 1) : Nat) : Int) from by first | (rw [cntR_f (by assumption)]; omega) | (rw [cntR_t (by assumption)]; omega)) ?_
            refine x_istore_n C (ls' := [(0, .ref (am 0 0)), (1, vI u), (2, vI w_28), (3, vI ((cntR R_32 (n + 1) : Nat) : Int)), (4, vI ((n : Nat) : Int))]) dX8_reach_65 (by decide) rfl ?_
            refine x_iinc C (x := ((n : Nat) : Int)) (ls' := [(0, .ref (am 0 0)), (1, vI u), (2, vI w_28), (3, vI ((cntR R_32 (n + 1) : Nat) : Int)), (4, vI ((((n : Nat) : Int)) + 1))]) dX8_reach_66 4 rfl (by decide) rfl ?_
            refine x_goto (tgt := 41) C dX8_reach_69 (by decide) ?_
            exact ihLP (n + 1) (by omega) (by omega)
          · skip
            refine x_iconst C dX8_reach_59 1 (by decide) ?_
            refine x_goto (tgt := 64) C dX8_reach_60 (by decide) ?_
            refine x_iadd C dX8_reach_64 ?_
            refine x_topv (show (((cntR R_32 n : Nat) : Int)) + 1 = ((cntR R_32 (n + 1) : Nat) : Int) from by first | (rw [cntR_f (by assumption)]; omega) | (rw [cntR_t (by assumption)]; omega)) ?_
            refine x_istore_n C (ls' := [(0, .ref (am 0 0)), (1, vI u), (2, vI w_28), (3, vI ((cntR R_32 (n + 1) : Nat) : Int)), (4, vI ((n : Nat) : Int))]) dX8_reach_65 (by decide) rfl ?_
            refine x_iinc C (x := ((n : Nat) : Int)) (ls' := [(0, .ref (am 0 0)), (1, vI u), (2, vI w_28), (3, vI ((cntR R_32 (n + 1) : Nat) : Int)), (4, vI ((((n : Nat) : Int)) + 1))]) dX8_reach_66 4 rfl (by decide) rfl ?_
            refine x_goto (tgt := 41) C dX8_reach_69 (by decide) ?_
            exact ihLP (n + 1) (by omega) (by omega)
    exact LP (97) 0 (by omega) (by omega)
  · skip
    refine x_aload_n C dX8_reach_13 0 rfl ?_
    refine x_iconst C dX8_reach_14 1 (by decide) ?_
    have cp40 : MP D am h (cu m 0 0 ((fu (m 0 0) 0 0))) h2 := by rw [e3]; exact (MP.up (MP.rf hR) (lm0 (by decide)) ((fu (m 0 0) 0 0)) rfl)
    refine x_callV C (n := 1) (qc := (RX8, TX8, 38)) (As := [vI 1]) (rest := []) (c_X8_fails (cp40.1)) gX8_reach_X8_fails (by decide +kernel) f4 rfl rfl rfl rfl (Nat.le_of_ble_eq_true rfl) ⟨by decide, by decide⟩ ⟨(by decide), (by decide)⟩ dX8_reach_15 (fun rv41 h42 hp43 => ?_)
    obtain ⟨rfl, cp45⟩ := hp43
    have cp46 : MP D am h ((cu ((cu m 0 0 ((fu (m 0 0) 0 0)))) 0 0 ((fu (((cu m 0 0 ((fu (m 0 0) 0 0)))) 0 0) 0 1)))) h42 := MP.trans cp40 cp45
    refine x_iret C G dX8_reach_18 ?_ (by decide) (by decide)
    exact ⟨_, _, rfl, cp46, Or.inl ⟨rfl, by omega, (by repeat (first | exact SM.rf | refine SM.th ?_ | refine SM.o2 ?_ | refine SM.o14 ?_ | refine SM.sr ?_ | refine SM.ly (by assumption) (by assumption) ?_ | refine SM.bm ?_ | refine SM.st ?_ | refine SM.mv ?_ | refine SM.up (by decide) ?_))⟩⟩

theorem kX8_farthest_0 : Cond.fieldLink "LedgeLevelsModel" 101 "LedgeLevelsModel" "thrown" "I" ∈ wsX8_farthest := by decide +kernel
theorem kX8_farthest_1 : ∀ w ∈ wsX80, w ∈ wsX8_farthest := by decide +kernel
theorem kX8_farthest_2 : Cond.fieldLink "LedgeLevelsModel" 19 "LedgeLevelsModel" "begins" "[I" ∈ wsX8_farthest := by decide +kernel
theorem kX8_farthest_3 : Cond.fieldLink "LedgeLevelsModel" 97 "LedgeLevelsModel" "reached" "[Z" ∈ wsX8_farthest := by decide +kernel
set_option maxRecDepth 100000 in
set_option maxHeartbeats 4000000 in
theorem c_X8_farthest {l : Launch} {D : va_G} {A : Nat → Prop} {h : vh} {am : AD} {m : CS} {u : Int}  (hR : RepM D am m h) (hM1 : Mk1 m) (hi_u : -2147483648 ≤ u ∧ u ≤ 2147483647) (hG4 : ∀ i j : Nat, (i : Int) < m 0 0 2 → j < 96 → 0 ≤ m 4 0 (96 * i + j) ∧ m 4 0 (96 * i + j) ≤ 8) (hKE : ∀ i : Nat, (i : Int) < m 0 0 2 → lyA (rwM (m 4 0) (96 * i)) 96 ≤ 7) (hGK : GK m) (hSS : ∀ j, 0 ≤ m 1 0 j ∧ m 1 0 j ≤ 4) (hbg : ∀ i : Nat, (i : Int) < m 0 0 2 → 0 ≤ m 5 0 i ∧ m 5 0 i ≤ 95) : MX l D A yX8_farthest wsX8_farthest { frames := 4, cells := 0, slots := 0, locals := 97 } [.ref (am 0 0), vI u] h (fun rv h' => ∃ (r : Int) (m1 : CS), rv = some (vI r) ∧ MP D am h (m1) h' ∧ ((m1 0 0 0 = 1 ∧ (¬ (0 ≤ u ∧ u < m 0 0 2)) ∧ SM m m1) ∨ (m1 0 0 0 = 0 ∧ (0 ≤ u ∧ u < m 0 0 2) ∧ (∃ R : Nat → Int, ((∀ x : Nat, x < 96 → (R x = 1 ↔ SnR m (rwM (m 4 0) (96 * u.toNat)) (m 5 0 u.toNat) x)) ∧ (∀ j, j < 96 → 0 ≤ R j ∧ R j ≤ 1)) ∧ frR R r) ∧ SM m m1))) := by
  refine MX.of (cc := cX8_farthest) (maxL := 5) (ret := (some .int)) [(0, .ref (am 0 0)), (1, vI u)] (by decide +kernel) rfl rfl (Nat.le_of_ble_eq_true rfl) ?_
  intro κ C hkl G
  subst hkl
  have C : CX κ "LedgeLevelsModel" "farthest" cX8_farthest wsX8_farthest { frames := 4, cells := 0, slots := 0, locals := 97 } D A 5 := C
  have hiz : nq (D.1 20) (D.1 21) := cx_iz C
  obtain ⟨hM1a, hM1b⟩ := id hM1
  refine x_aload_n C dX8_farthest_0 0 rfl ?_
  refine x_iconst C dX8_farthest_1 0 (by decide) ?_
  have f1 : h (am 0 0) = some (eO 8 [vI (m 0 0 0), .ref (am 1 0), vI (m 0 0 2), .ref (am 3 0), .ref (am 4 0), .ref (am 5 0), .ref (am 6 0), .ref (am 7 0), .ref (am 8 0), .ref (am 9 0), .ref (am 10 0), .ref (am 11 0), .ref (am 12 0), .ref (am 13 0), vI (m 0 0 14), .ref (am 15 0), .ref (am 16 0), .ref (am 17 0), .ref (am 18 0), .ref (am 19 0), .ref (am 20 0), .ref (am 21 0), .ref (am 22 0), .ref (am 23 0), .ref (am 24 0), .ref (am 25 0), .ref (am 26 0), .ref (am 27 0), .ref (am 28 0), .ref (am 29 0), vI (((m 0 0 30).toNat : Nat) : Int), vI (m 0 0 31), vI (m 0 0 32), vI (((m 0 0 33).toNat : Nat) : Int), vI (m 0 0 34), .ref (am 35 0), .ref (am 36 0), .ref (am 37 0)]) := hR.1 0 0 (lm0 (by decide))
  refine x_put C f1 (T := TX8) rfl tyX8_ok nmX8 kX8_farthest_1 0 (by decide) kX8_farthest_0 rfl (fs' := [vI 0, .ref (am 1 0), vI (m 0 0 2), .ref (am 3 0), .ref (am 4 0), .ref (am 5 0), .ref (am 6 0), .ref (am 7 0), .ref (am 8 0), .ref (am 9 0), .ref (am 10 0), .ref (am 11 0), .ref (am 12 0), .ref (am 13 0), vI (m 0 0 14), .ref (am 15 0), .ref (am 16 0), .ref (am 17 0), .ref (am 18 0), .ref (am 19 0), .ref (am 20 0), .ref (am 21 0), .ref (am 22 0), .ref (am 23 0), .ref (am 24 0), .ref (am 25 0), .ref (am 26 0), .ref (am 27 0), .ref (am 28 0), .ref (am 29 0), vI (((m 0 0 30).toNat : Nat) : Int), vI (m 0 0 31), vI (m 0 0 32), vI (((m 0 0 33).toNat : Nat) : Int), vI (m 0 0 34), .ref (am 35 0), .ref (am 36 0), .ref (am 37 0)]) rfl rfl (by simp) rfl dX8_farthest_2 (x_hn (fun h2 e3 => ?_))
  have f4 : h2 (am 0 0) = some (eO 8 [vI 0, .ref (am 1 0), vI (m 0 0 2), .ref (am 3 0), .ref (am 4 0), .ref (am 5 0), .ref (am 6 0), .ref (am 7 0), .ref (am 8 0), .ref (am 9 0), .ref (am 10 0), .ref (am 11 0), .ref (am 12 0), .ref (am 13 0), vI (m 0 0 14), .ref (am 15 0), .ref (am 16 0), .ref (am 17 0), .ref (am 18 0), .ref (am 19 0), .ref (am 20 0), .ref (am 21 0), .ref (am 22 0), .ref (am 23 0), .ref (am 24 0), .ref (am 25 0), .ref (am 26 0), .ref (am 27 0), .ref (am 28 0), .ref (am 29 0), vI (((m 0 0 30).toNat : Nat) : Int), vI (m 0 0 31), vI (m 0 0 32), vI (((m 0 0 33).toNat : Nat) : Int), vI (m 0 0 34), .ref (am 35 0), .ref (am 36 0), .ref (am 37 0)]) := by rw [e3]; exact hu_s
  refine x_aload_n C dX8_farthest_5 0 rfl ?_
  refine x_iload_n C dX8_farthest_6 1 rfl ?_
  have cp6 : MP D am h (cu m 0 0 ((fu (m 0 0) 0 0))) h2 := by rw [e3]; exact (MP.up (MP.rf hR) (lm0 (by decide)) ((fu (m 0 0) 0 0)) rfl)
  refine x_callV C (n := 1) (qc := (RX8, TX8, 38)) (As := [vI u]) (rest := []) (c_X8_isLevel (cp6.1) (hM1) (by omega)) gX8_farthest_X8_isLevel (by decide +kernel) f4 rfl rfl rfl rfl (Nat.le_of_ble_eq_true rfl) ⟨by decide, by decide⟩ ⟨(by decide), (by decide)⟩ dX8_farthest_7 (fun rv7 h8 hp9 => ?_)
  obtain ⟨rfl, e10⟩ := hp9
  obtain rfl := e10.symm
  refine x_topv (show bI (0 ≤ u ∧ u ≤ ((cu m 0 0 ((fu (m 0 0) 0 0)))) 0 0 2 - 1) = bI (0 ≤ u ∧ u ≤ m 0 0 2 - 1) from by rfl) ?_
  have hbr5 := bI_cs ((0 ≤ u ∧ u ≤ m 0 0 2 - 1))
  refine x_if_ne (tgt := 19) C dX8_farthest_10 (by decide) (by omega) (fun c11 => ?_) (fun c11 => ?_)
  · skip
    obtain ⟨sr9, hsr0⟩ : ∃ sr9, sr9 = rwM (m 4 0) (96 * (u).toNat) := ⟨_, rfl⟩
    have hs9 : ∀ j : Nat, j < 96 → sr9 j = (if (0 : Int) = 0 then m 4 0 (Int.toNat (96 * (u) + j)) else m 16 0 (Int.toNat (96 * (u) + j))) := fun j hj => by
      rw [hsr0, if_pos rfl, show Int.toNat (96 * (u) + (j : Int)) = 96 * (u).toNat + j by omega]; exact if_pos hj
    have hsr9 : ∀ j : Nat, 0 ≤ sr9 j ∧ sr9 j ≤ 8 := by rw [hsr0]; exact rwM_r (fun j hj => hG4 (u).toNat j (by omega) hj)
    have hA9 : lyA sr9 96 ≤ 7 := by rw [hsr0]; exact hKE (u).toNat (by omega)
    have hg28 : ∀ j, 0 ≤ lyG sr9 (m 28 0) 96 j ∧ lyG sr9 (m 28 0) 96 j ≤ 8 := lyG_r hsr9 hGK.1 96
    have hb29 : ∀ j, 0 ≤ lyB sr9 (m 29 0) 96 j ∧ lyB sr9 (m 29 0) 96 j ≤ 7 := lyB_r hA9 hGK.2
    have hal9 : 0 ≤ ((lyA sr9 96 : Nat) : Int) ∧ ((lyA sr9 96 : Nat) : Int) < 8 := by omega
    refine x_aload_n C dX8_farthest_19 0 rfl ?_
    refine x_iconst C dX8_farthest_20 0 (by decide) ?_
    refine x_iload_n C dX8_farthest_21 1 rfl ?_
    have cp12 : MP D am h (cu m 0 0 ((fu (m 0 0) 0 0))) h2 := by rw [e3]; exact (MP.up (MP.rf hR) (lm0 (by decide)) ((fu (m 0 0) 0 0)) rfl)
    refine x_callV C (n := 2) (qc := (RX8, TX8, 38)) (As := [vI 0, vI u]) (rest := []) (c_X8_lays (src := sr9) (cp12.1) (by omega) (by omega) (hs9) (hsr9) (hA9)) gX8_farthest_X8_lays (by decide +kernel) f4 rfl rfl rfl rfl (Nat.le_of_ble_eq_true rfl) ⟨by decide, by decide⟩ ⟨(by decide), (by decide)⟩ dX8_farthest_22 (fun rv13 h14 hp15 => ?_)
    obtain ⟨rfl, cp17⟩ := hp15
    have cp18 : MP D am h (layN ((cu m 0 0 ((fu (m 0 0) 0 0)))) sr9 96) h14 := MP.trans cp12 cp17
    have hz9 : 0 ≤ m 5 0 u.toNat ∧ m 5 0 u.toNat ≤ 95 := hbg u.toNat (by omega)
    refine x_aload_n C dX8_farthest_25 0 rfl ?_
    refine x_aload_n C dX8_farthest_26 0 rfl ?_
    have f19 : h14 (am 0 0) = some (eO 8 [vI (((layN ((cu m 0 0 ((fu (m 0 0) 0 0)))) sr9 96) 0 0) 0), .ref (am 1 0), vI (((layN ((cu m 0 0 ((fu (m 0 0) 0 0)))) sr9 96) 0 0) 2), .ref (am 3 0), .ref (am 4 0), .ref (am 5 0), .ref (am 6 0), .ref (am 7 0), .ref (am 8 0), .ref (am 9 0), .ref (am 10 0), .ref (am 11 0), .ref (am 12 0), .ref (am 13 0), vI (((layN ((cu m 0 0 ((fu (m 0 0) 0 0)))) sr9 96) 0 0) 14), .ref (am 15 0), .ref (am 16 0), .ref (am 17 0), .ref (am 18 0), .ref (am 19 0), .ref (am 20 0), .ref (am 21 0), .ref (am 22 0), .ref (am 23 0), .ref (am 24 0), .ref (am 25 0), .ref (am 26 0), .ref (am 27 0), .ref (am 28 0), .ref (am 29 0), vI (((((layN ((cu m 0 0 ((fu (m 0 0) 0 0)))) sr9 96) 0 0) 30).toNat : Nat) : Int), vI (((layN ((cu m 0 0 ((fu (m 0 0) 0 0)))) sr9 96) 0 0) 31), vI (((layN ((cu m 0 0 ((fu (m 0 0) 0 0)))) sr9 96) 0 0) 32), vI (((((layN ((cu m 0 0 ((fu (m 0 0) 0 0)))) sr9 96) 0 0) 33).toNat : Nat) : Int), vI (((layN ((cu m 0 0 ((fu (m 0 0) 0 0)))) sr9 96) 0 0) 34), .ref (am 35 0), .ref (am 36 0), .ref (am 37 0)]) := cp18.1.1 0 0 (lm0 (by decide))
    refine x_get C (v := .ref (am 5 0)) f19 (T := TX8) rfl kX8_farthest_1 5 (by decide) kX8_farthest_2 rfl dX8_farthest_27 ?_
    refine x_iload_n C dX8_farthest_30 1 rfl ?_
    have f20 : h14 (am 5 0) = some (eI D 12 (((layN ((cu m 0 0 ((fu (m 0 0) 0 0)))) sr9 96) 5 0))) := cp18.1.1 5 0 (lm0 (by decide))
    refine x_iald C f20 ⟨by omega, by omega⟩ (by decide) dX8_farthest_31 ?_
    refine x_topv (show (((layN ((cu m 0 0 ((fu (m 0 0) 0 0)))) sr9 96) 5 0)) (Int.toNat u) = m 5 0 u.toNat from by rfl) ?_
    refine x_callV C (n := 1) (qc := (RX8, TX8, 38)) (As := [vI (m 5 0 u.toNat)]) (rest := []) (c_X8_searches (cp18.1) (hz9) (hg28) (hb29) (hal9) (hSS)) gX8_farthest_X8_searches (by decide +kernel) f19 rfl rfl rfl rfl (Nat.le_of_ble_eq_true rfl) ⟨by decide, by decide⟩ ⟨(by decide), (by decide)⟩ dX8_farthest_32 (fun rv21 h22 hp23 => ?_)
    obtain ⟨c_25, v_26, s_27, w_28, t_29, Q_30, F_31, R_32, rfl, cp33, hF_32, hS9_32, hR9_32, hw9_32, hb9_32⟩ := hp23
    have cp34 : MP D am h (srM ((layN ((cu m 0 0 ((fu (m 0 0) 0 0)))) sr9 96)) c_25 v_26 t_29 s_27 Q_30 F_31 R_32) h22 := MP.trans cp18 cp33
    refine x_istore_n C (ls' := [(0, .ref (am 0 0)), (1, vI u), (2, vI w_28)]) dX8_farthest_35 (by decide) rfl ?_
    refine x_iconst C dX8_farthest_36 (-1) (by decide) ?_
    refine x_istore_n C (ls' := [(0, .ref (am 0 0)), (1, vI u), (2, vI w_28), (3, vI (-1))]) dX8_farthest_37 (by decide) rfl ?_
    refine x_iconst C dX8_farthest_38 0 (by decide) ?_
    refine x_istore C (ls' := [(0, .ref (am 0 0)), (1, vI u), (2, vI w_28), (3, vI (-1)), (4, vI 0)]) dX8_farthest_39 (by decide) rfl ?_
    have LP : ∀ (N : Nat) (n : Nat) (y : Int)   (hn : n ≤ 96) (hN : 96 - n < N) (hfr : frN R_32 n y), X κ 0 0 h22 [(0, .ref (am 0 0)), (1, vI u), (2, vI w_28), (3, vI y), (4, vI ((n : Nat) : Int))] 41 [] := by
      intro N
      induction N with
      | zero => intro n y hn hN hfr; exfalso; omega
      | succ N ihLP =>
        intro n y hn hN hfr
        have hr9 : n < 96 → 0 ≤ R_32 n ∧ R_32 n ≤ 1 := hR9_32 n
        refine x_iload C dX8_farthest_41 4 rfl ?_
        refine x_bipush C dX8_farthest_43 96 (by decide) ?_
        refine x_icmp_ge (tgt := 88) C dX8_farthest_45 (by decide) (by omega) (by omega) (fun c36 => ?_) (fun c36 => ?_)
        · skip
          refine x_iload_n C dX8_farthest_88 3 rfl ?_
          refine x_iret C G dX8_farthest_89 ?_ (by decide) (by decide)
          have hn96 : n = 96 := by omega
          refine ⟨_, _, rfl, cp34, Or.inr ⟨rfl, by omega, ⟨R_32, ⟨?_, hR9_32⟩, by rw [hn96] at hfr; exact hfr⟩, SM.sr (SM.ly hsr9 hA9 (SM.th SM.rf))⟩⟩
          rw [← hsr0]
          exact hS9_32
        · skip
          have hyr := frN_r hfr
          refine x_aload_n C dX8_farthest_48 0 rfl ?_
          have f37 : h22 (am 0 0) = some (eO 8 [vI (((srM ((layN ((cu m 0 0 ((fu (m 0 0) 0 0)))) sr9 96)) c_25 v_26 t_29 s_27 Q_30 F_31 R_32) 0 0) 0), .ref (am 1 0), vI (((srM ((layN ((cu m 0 0 ((fu (m 0 0) 0 0)))) sr9 96)) c_25 v_26 t_29 s_27 Q_30 F_31 R_32) 0 0) 2), .ref (am 3 0), .ref (am 4 0), .ref (am 5 0), .ref (am 6 0), .ref (am 7 0), .ref (am 8 0), .ref (am 9 0), .ref (am 10 0), .ref (am 11 0), .ref (am 12 0), .ref (am 13 0), vI (((srM ((layN ((cu m 0 0 ((fu (m 0 0) 0 0)))) sr9 96)) c_25 v_26 t_29 s_27 Q_30 F_31 R_32) 0 0) 14), .ref (am 15 0), .ref (am 16 0), .ref (am 17 0), .ref (am 18 0), .ref (am 19 0), .ref (am 20 0), .ref (am 21 0), .ref (am 22 0), .ref (am 23 0), .ref (am 24 0), .ref (am 25 0), .ref (am 26 0), .ref (am 27 0), .ref (am 28 0), .ref (am 29 0), vI (((((srM ((layN ((cu m 0 0 ((fu (m 0 0) 0 0)))) sr9 96)) c_25 v_26 t_29 s_27 Q_30 F_31 R_32) 0 0) 30).toNat : Nat) : Int), vI (((srM ((layN ((cu m 0 0 ((fu (m 0 0) 0 0)))) sr9 96)) c_25 v_26 t_29 s_27 Q_30 F_31 R_32) 0 0) 31), vI (((srM ((layN ((cu m 0 0 ((fu (m 0 0) 0 0)))) sr9 96)) c_25 v_26 t_29 s_27 Q_30 F_31 R_32) 0 0) 32), vI (((((srM ((layN ((cu m 0 0 ((fu (m 0 0) 0 0)))) sr9 96)) c_25 v_26 t_29 s_27 Q_30 F_31 R_32) 0 0) 33).toNat : Nat) : Int), vI (((srM ((layN ((cu m 0 0 ((fu (m 0 0) 0 0)))) sr9 96)) c_25 v_26 t_29 s_27 Q_30 F_31 R_32) 0 0) 34), .ref (am 35 0), .ref (am 36 0), .ref (am 37 0)]) := cp34.1.1 0 0 (lm0 (by decide))
          refine x_get C (v := .ref (am 37 0)) f37 (T := TX8) rfl kX8_farthest_1 37 (by decide) kX8_farthest_3 rfl dX8_farthest_49 ?_
          refine x_iload C dX8_farthest_52 4 rfl ?_
          have f38 : h22 (am 37 0) = some (eZ D 96 (((srM ((layN ((cu m 0 0 ((fu (m 0 0) 0 0)))) sr9 96)) c_25 v_26 t_29 s_27 Q_30 F_31 R_32) 37 0))) := cp34.1.1 37 0 (lm0 (by decide))
          refine x_zald C f38 ⟨by omega, by omega⟩ (by decide) dX8_farthest_54 ?_
          refine x_topv (show (((srM ((layN ((cu m 0 0 ((fu (m 0 0) 0 0)))) sr9 96)) c_25 v_26 t_29 s_27 Q_30 F_31 R_32) 37 0)) (Int.toNat (((n : Nat) : Int))) = R_32 n from by rfl) ?_
          refine x_if_eq (tgt := 80) C dX8_farthest_55 (by decide) (by omega) (fun c39 => ?_) (fun c39 => ?_)
          · skip
            refine x_iload_n C dX8_farthest_80 3 rfl ?_
            refine x_istore_n C (ls' := [(0, .ref (am 0 0)), (1, vI u), (2, vI w_28), (3, vI y), (4, vI ((n : Nat) : Int))]) dX8_farthest_81 (by decide) rfl ?_
            refine x_iinc C (x := ((n : Nat) : Int)) (ls' := [(0, .ref (am 0 0)), (1, vI u), (2, vI w_28), (3, vI y), (4, vI ((((n : Nat) : Int)) + 1))]) dX8_farthest_82 4 rfl (by decide) rfl ?_
            refine x_goto (tgt := 41) C dX8_farthest_85 (by decide) ?_
            exact ihLP (n + 1) y (by omega) (by omega) (by first | exact frN_set hfr (by omega) (by omega) | exact frN_keep hfr (by omega))
          · skip
            refine x_iload_n C dX8_farthest_58 3 rfl ?_
            refine x_iconst C dX8_farthest_59 (-1) (by decide) ?_
            refine x_icmp_eq (tgt := 75) C dX8_farthest_60 (by decide) (by omega) (by omega) (fun c40 => ?_) (fun c40 => ?_)
            · skip
              refine x_iload C dX8_farthest_75 4 rfl ?_
              refine x_goto (tgt := 81) C dX8_farthest_77 (by decide) ?_
              refine x_istore_n C (ls' := [(0, .ref (am 0 0)), (1, vI u), (2, vI w_28), (3, vI ((n : Nat) : Int)), (4, vI ((n : Nat) : Int))]) dX8_farthest_81 (by decide) rfl ?_
              refine x_iinc C (x := ((n : Nat) : Int)) (ls' := [(0, .ref (am 0 0)), (1, vI u), (2, vI w_28), (3, vI ((n : Nat) : Int)), (4, vI ((((n : Nat) : Int)) + 1))]) dX8_farthest_82 4 rfl (by decide) rfl ?_
              refine x_goto (tgt := 41) C dX8_farthest_85 (by decide) ?_
              exact ihLP (n + 1) (((n : Nat) : Int)) (by omega) (by omega) (by first | exact frN_set hfr (by omega) (by omega) | exact frN_keep hfr (by omega))
            · skip
              refine x_iload C dX8_farthest_63 4 rfl ?_
              refine x_bipush C dX8_farthest_65 12 (by decide) ?_
              refine x_irem C dX8_farthest_67 (by omega) (by omega) (by omega) (by omega) ?_
              refine x_iload_n C dX8_farthest_68 3 rfl ?_
              refine x_bipush C dX8_farthest_69 12 (by decide) ?_
              refine x_irem C dX8_farthest_71 (by omega) (by omega) (by omega) (by omega) ?_
              refine x_icmp_le (tgt := 80) C dX8_farthest_72 (by decide) (by omega) (by omega) (fun c41 => ?_) (fun c41 => ?_)
              · skip
                refine x_iload_n C dX8_farthest_80 3 rfl ?_
                refine x_istore_n C (ls' := [(0, .ref (am 0 0)), (1, vI u), (2, vI w_28), (3, vI y), (4, vI ((n : Nat) : Int))]) dX8_farthest_81 (by decide) rfl ?_
                refine x_iinc C (x := ((n : Nat) : Int)) (ls' := [(0, .ref (am 0 0)), (1, vI u), (2, vI w_28), (3, vI y), (4, vI ((((n : Nat) : Int)) + 1))]) dX8_farthest_82 4 rfl (by decide) rfl ?_
                refine x_goto (tgt := 41) C dX8_farthest_85 (by decide) ?_
                exact ihLP (n + 1) y (by omega) (by omega) (by first | exact frN_set hfr (by omega) (by omega) | exact frN_keep hfr (by omega))
              · skip
                refine x_iload C dX8_farthest_75 4 rfl ?_
                refine x_goto (tgt := 81) C dX8_farthest_77 (by decide) ?_
                refine x_istore_n C (ls' := [(0, .ref (am 0 0)), (1, vI u), (2, vI w_28), (3, vI ((n : Nat) : Int)), (4, vI ((n : Nat) : Int))]) dX8_farthest_81 (by decide) rfl ?_
                refine x_iinc C (x := ((n : Nat) : Int)) (ls' := [(0, .ref (am 0 0)), (1, vI u), (2, vI w_28), (3, vI ((n : Nat) : Int)), (4, vI ((((n : Nat) : Int)) + 1))]) dX8_farthest_82 4 rfl (by decide) rfl ?_
                refine x_goto (tgt := 41) C dX8_farthest_85 (by decide) ?_
                exact ihLP (n + 1) (((n : Nat) : Int)) (by omega) (by omega) (by first | exact frN_set hfr (by omega) (by omega) | exact frN_keep hfr (by omega))
    exact LP (97) 0 ((-1)) (by omega) (by omega) (Or.inl ⟨rfl, fun c h => absurd h (Nat.not_lt_zero _)⟩)
  · skip
    refine x_aload_n C dX8_farthest_13 0 rfl ?_
    refine x_iconst C dX8_farthest_14 1 (by decide) ?_
    have cp42 : MP D am h (cu m 0 0 ((fu (m 0 0) 0 0))) h2 := by rw [e3]; exact (MP.up (MP.rf hR) (lm0 (by decide)) ((fu (m 0 0) 0 0)) rfl)
    refine x_callV C (n := 1) (qc := (RX8, TX8, 38)) (As := [vI 1]) (rest := []) (c_X8_fails (cp42.1)) gX8_farthest_X8_fails (by decide +kernel) f4 rfl rfl rfl rfl (Nat.le_of_ble_eq_true rfl) ⟨by decide, by decide⟩ ⟨(by decide), (by decide)⟩ dX8_farthest_15 (fun rv43 h44 hp45 => ?_)
    obtain ⟨rfl, cp47⟩ := hp45
    have cp48 : MP D am h ((cu ((cu m 0 0 ((fu (m 0 0) 0 0)))) 0 0 ((fu (((cu m 0 0 ((fu (m 0 0) 0 0)))) 0 0) 0 1)))) h44 := MP.trans cp42 cp47
    refine x_iret C G dX8_farthest_18 ?_ (by decide) (by decide)
    exact ⟨_, _, rfl, cp48, Or.inl ⟨rfl, by omega, (by repeat (first | exact SM.rf | refine SM.th ?_ | refine SM.o2 ?_ | refine SM.o14 ?_ | refine SM.sr ?_ | refine SM.ly (by assumption) (by assumption) ?_ | refine SM.bm ?_ | refine SM.st ?_ | refine SM.mv ?_ | refine SM.up (by decide) ?_))⟩⟩


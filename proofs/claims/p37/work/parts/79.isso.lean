/-! ===== isSo ===== -/
theorem g2_keep {P : Nat → Prop} {k : Nat} {g2 : Int} (h : (g2 = 0 ∨ g2 = 1) ∧ (g2 = 1 ↔ ∃ j, j < k ∧ P j)) (hp : ¬ P k) : (g2 = 0 ∨ g2 = 1) ∧ (g2 = 1 ↔ ∃ j, j < k + 1 ∧ P j) := by
  refine ⟨h.1, h.2.trans ⟨fun ⟨j, h1, h2⟩ => ⟨j, by omega, h2⟩, fun ⟨j, h1, h2⟩ => ?_⟩⟩
  by_cases q : j = k
  · subst q; exact absurd h2 hp
  · exact ⟨j, by omega, h2⟩
section ISO
variable {m : CS} {L W : Nat} {q : Nat → Int} {g : Nat → Int64} {l0 u v n w p r : Nat → Int}
theorem ln_e (hPW : ∀ i, i < W → w (5 * i + 3) = m 19 0 i) (hpa : ∀ i, i < W → w (5 * i + 3) < (i : Int)) {k i : Nat} (hi : i < W) : bI (Anc (fun j => w (5 * j + 3) + 1) (fun j => j = k) (((i : Nat) : Int) + 1)) = lnM m k i := by
  unfold lnM
  have e := Anc_c (P := fun j => w (5 * j + 3) + 1) (P' := fun j => m 19 0 j + 1) (T := fun j => j = k) (T' := fun j => j = k) (W := W) (fun j hj => ⟨by rw [hPW j hj], by have := hpa j hj; omega⟩) (fun _ _ => Iff.rfl) (z := ((i : Nat) : Int) + 1) (by omega)
  rw [propext e]
theorem lnM_r (k i : Nat) : lnM m k i = 0 ∨ lnM m k i = 1 := bI_01 _
theorem sum01 {f : Nat → Int} (h : ∀ i, 0 ≤ f i ∧ f i ≤ 30) : ∀ n, 0 ≤ sumN f n ∧ sumN f n ≤ 30 * (n : Int)
  | 0 => ⟨Int.le_refl _, Int.le_refl _⟩
  | n + 1 => by
    have ih := sum01 h n
    have h1 := h n
    have e : sumN f (n + 1) = sumN f n + f n := rfl
    rw [e]
    omega
theorem sum6 {f : Nat → Int} : sumN f 6 = f 0 + f 1 + f 2 + f 3 + f 4 + f 5 := by
  show 0 + f 0 + f 1 + f 2 + f 3 + f 4 + f 5 = _
  omega
theorem st_e {k : Nat} (hP : PKW m g w p k) : p (3 * k) + p (3 * k + 1) + p (3 * k + 2) = sumN (fun j => m 21 0 (6 * k + j)) 6 := by
  obtain ⟨_, _, _, _, _, _, k7, k8⟩ := hP
  have a0 := k7 0 (by decide)
  have a1 := k7 1 (by decide)
  have a2 := k7 2 (by decide)
  have a3 := k8 3 (by decide) (by decide)
  have a4 := k8 4 (by decide) (by decide)
  have a5 := k8 5 (by decide) (by decide)
  rw [sum6]
  rw [Nat.add_zero] at a0
  show _ = m 21 0 (6 * k + 0) + m 21 0 (6 * k + 1) + m 21 0 (6 * k + 2) + m 21 0 (6 * k + 3) + m 21 0 (6 * k + 4) + m 21 0 (6 * k + 5)
  omega
theorem Anc_x {P : Nat → Int} (hP : ∀ i, i < W → P i ≤ (i : Int)) {T : Nat → Prop} {z : Int} (hz : z ≤ (W : Int)) : Anc P T z ↔ ∃ j, j < W ∧ (T j ∧ Anc P (fun i => i = j) z) := by
  constructor
  · rintro ⟨n9, h1, h2⟩
    have h3 := (Lin_c (P := P) (P' := P) (W := W) (fun i hi => ⟨rfl, hP i hi⟩) n9 z hz).2
    exact ⟨(Lin P n9 z - 1).toNat, by omega, h2, n9, h1, rfl⟩
  · rintro ⟨j, h1, h2, n9, h3, h4⟩
    refine ⟨n9, h3, ?_⟩
    have h5 : (Lin P n9 z - 1).toNat = j := h4
    rw [h5]; exact h2
theorem cr_e (hpa : ∀ i, i < W → m 19 0 i < (i : Int)) {i : Nat} (hi : i < W) {y : Int} {hh : Int} (hg : (hh = 0 ∨ hh = 1) ∧ (hh = 1 ↔ ∃ j, j < W ∧ (m 15 0 j = y ∧ lnM m j i = 1))) : hh * sumN (fun j => m 21 0 (6 * i + j)) 6 = crM m y i := by
  have e : hh = bI (Anc (fun i => m 19 0 i + 1) (fun i => m 15 0 i = y) ((i : Int) + 1)) := by
    refine g2_b ⟨hg.1, hg.2.trans ?_⟩
    rw [Anc_x (W := W) (fun i hi => by have := hpa i hi; omega) (by omega)]
    constructor
    · rintro ⟨j, h1, h2, h3⟩
      refine ⟨j, h1, h2, ?_⟩
      apply Classical.byContradiction
      intro z
      unfold lnM at h3
      rw [bI_f z] at h3
      exact absurd h3 (by decide)
    · rintro ⟨j, h1, h2, h3⟩
      exact ⟨j, h1, h2, bI_t h3⟩
  unfold crM
  rcases hg.1 with q | q
  · rw [if_pos (by rw [← e]; exact q), q]; omega
  · rw [if_neg (by rw [← e]; omega), q]; omega
theorem crM_r {i : Nat} {y : Int} (h : 0 ≤ sumN (fun j => m 21 0 (6 * i + j)) 6 ∧ sumN (fun j => m 21 0 (6 * i + j)) 6 ≤ 30) : 0 ≤ crM m y i ∧ crM m y i ≤ 30 := by
  unfold crM
  split
  · decide
  · exact h
theorem sumB {f : Nat → Int} : ∀ {n : Nat}, (∀ i, i < n → 0 ≤ f i ∧ f i ≤ 30) → 0 ≤ sumN f n ∧ sumN f n ≤ 30 * (n : Int)
  | 0, _ => ⟨Int.le_refl _, Int.le_refl _⟩
  | n + 1, h => by
    have ih := sumB (n := n) (fun i hi => h i (by omega))
    have h1 := h n (by omega)
    have e : sumN f (n + 1) = sumN f n + f n := rfl
    rw [e]
    omega
theorem pc3_b {t : Nat} (h : t < 8) : (((t &&& 1 : Nat) : Int) + ((t / 2 &&& 1 : Nat) : Int)) + ((t / 4 : Nat) : Int) = ((pc3 t : Nat) : Int) := by
  rw [Nat.and_one_is_mod, Nat.and_one_is_mod]
  unfold pc3
  omega
end ISO

set_option maxRecDepth 100000 in
set_option maxHeartbeats 8000000 in
theorem c_L_isSo {l : Launch} {D : va_G} {A : Nat → Prop} {h : vh} {x t L W : Nat} {ar : Nat → Nat} {m : CS} {g : Nat → Int64} {q l0 u v n w p r : Nat → Int} {zz : Int32} (hq : h (ar 0) = some (eI D 5 q)) (hg : h (ar 1) = some (eJ D 60 g)) (hl0 : h (ar 2) = some (eI D 20 l0)) (hu : h (ar 3) = some (eI D 60 u)) (hv : h (ar 4) = some (eI D 60 v)) (hn : h (ar 5) = some (eI D 10 n)) (hw : h (ar 6) = some (eI D 25 w)) (hp : h (ar 7) = some (eI D 15 p)) (hr : h (ar 8) = some (eI D 18 r)) (hSy : Sy D x ar m L W t h) (hPK : PK m L W q g l0 u v n w p r) : MX l D A yL_isSo wsL_isSo { frames := 8, cells := 500, slots := 3000, locals := 136 } [.ref x, .int zz, .ref (ar 0), .ref (ar 1), .ref (ar 2), .ref (ar 5), .ref (ar 6), .ref (ar 7), .ref (ar 8)] h (fun rv h' => rv = some (vI 1) ∧ h' = h) := by
  refine MX.of (cc := cL_isSo) (maxL := 15) (ret := (some .boolean)) [(0, .ref x), (1, .int zz), (2, .ref (ar 0)), (3, .ref (ar 1)), (4, .ref (ar 2)), (5, .ref (ar 5)), (6, .ref (ar 6)), (7, .ref (ar 7)), (8, .ref (ar 8))] (by decide +kernel) rfl rfl (Nat.le_of_ble_eq_true rfl) ?_
  intro κ C hkl G
  subst hkl
  have C : CX κ "LedgeLevelsLaw" "isSo" cL_isSo wsL_isSo { frames := 8, cells := 500, slots := 3000, locals := 136 } D A 15 := C
  have hiz : nq (D.1 20) (D.1 21) := cx_iz C
  obtain ⟨⟨hL5, hW5, hq0, hq1⟩, hqs, hPL, hPN, hPW, hPU, hPP⟩ := id hPK
  have hEB := hSy.eb hPK
  obtain ⟨hz8, hz21, hm2, hm14⟩ := hSy.zero
  have hpar : ∀ i, i < W → w (5 * i + 3) = m 19 0 i := fun i hi => (hPW i hi).2.2.2.1
  have hpa : ∀ j, j < W → -1 ≤ w (5 * j + 3) ∧ w (5 * j + 3) < (j : Int) := fun j hj => (hSy.wrk hPK hj).2.2.2.2.2.1
  have hst6 : ∀ i, i < W → 0 ≤ sumN (fun j => m 21 0 (6 * i + j)) 6 ∧ sumN (fun j => m 21 0 (6 * i + j)) 6 ≤ 30 := fun i hi => by
    have a0 := hSy.st hi (y := 0) (by decide)
    have a1 := hSy.st hi (y := 1) (by decide)
    have a2 := hSy.st hi (y := 2) (by decide)
    have a3 := hSy.st hi (y := 3) (by decide)
    have a4 := hSy.st hi (y := 4) (by decide)
    have a5 := hSy.st hi (y := 5) (by decide)
    rw [sum6]
    show 0 ≤ m 21 0 (6 * i + 0) + m 21 0 (6 * i + 1) + m 21 0 (6 * i + 2) + m 21 0 (6 * i + 3) + m 21 0 (6 * i + 4) + m 21 0 (6 * i + 5) ∧ m 21 0 (6 * i + 0) + m 21 0 (6 * i + 1) + m 21 0 (6 * i + 2) + m 21 0 (6 * i + 3) + m 21 0 (6 * i + 4) + m 21 0 (6 * i + 5) ≤ 30
    omega
  obtain ⟨hss, _⟩ := hSy.str
  have hs0 := hss 0
  have hs1 := hss 1
  have hs2 := hss 2
  refine x_aload_n C dL_isSo_0 0 rfl ?_
  obtain ⟨P9, hM9, hP9⟩ := k_levels (l := kl κ) (A := A) hSy 
  obtain ⟨fs9, ho9⟩ := hSy.obj
  refine x_callV C (n := 0) (qc := (RX7, TX7, 7)) (As := []) (rest := []) hM9 gL_isSo_X7_levels (by decide +kernel) ho9 rfl rfl rfl rfl (Nat.le_of_ble_eq_true rfl) ⟨by decide, by decide⟩ ⟨(by decide), (by decide)⟩ dL_isSo_1 (fun rv9 h9 hp9 => ?_)
  obtain ⟨rfl, he9⟩ := hP9 rv9 h9 hp9
  obtain rfl := he9.symm
  refine x_aload_n C dL_isSo_4 2 rfl ?_
  refine x_iconst C dL_isSo_5 0 (by decide) ?_
  refine x_iald C hq ⟨by omega, by omega⟩ (by decide) dL_isSo_6 ?_
  refine x_topv (show q (Int.toNat 0) = ((L : Nat) : Int) from by exact hq0) ?_
  refine x_icmp_ne (tgt := 57) C dL_isSo_7 (by decide) (by omega) (by omega) (fun c1 => ?_) (fun c1 => ?_)
  · exfalso; omega
  · skip
    refine x_aload_n C dL_isSo_10 0 rfl ?_
    obtain ⟨P9, hM9, hP9⟩ := k_works (l := kl κ) (A := A) hSy 
    obtain ⟨fs9, ho9⟩ := hSy.obj
    refine x_callV C (n := 0) (qc := (RX7, TX7, 7)) (As := []) (rest := []) hM9 gL_isSo_X7_works (by decide +kernel) ho9 rfl rfl rfl rfl (Nat.le_of_ble_eq_true rfl) ⟨by decide, by decide⟩ ⟨(by decide), (by decide)⟩ dL_isSo_11 (fun rv9 h9 hp9 => ?_)
    obtain ⟨rfl, he9⟩ := hP9 rv9 h9 hp9
    obtain rfl := he9.symm
    refine x_aload_n C dL_isSo_14 2 rfl ?_
    refine x_iconst C dL_isSo_15 1 (by decide) ?_
    refine x_iald C hq ⟨by omega, by omega⟩ (by decide) dL_isSo_16 ?_
    refine x_topv (show q (Int.toNat 1) = ((W : Nat) : Int) from by exact hq1) ?_
    refine x_icmp_ne (tgt := 57) C dL_isSo_17 (by decide) (by omega) (by omega) (fun c2 => ?_) (fun c2 => ?_)
    · exfalso; omega
    · skip
      refine x_aload_n C dL_isSo_20 0 rfl ?_
      refine x_iconst C dL_isSo_21 0 (by decide) ?_
      obtain ⟨P9, X9, hM9, hX9, hP9⟩ := k_strength (l := kl κ) (A := A) hSy (u := 0) (by decide)
      obtain ⟨fs9, ho9⟩ := hSy.obj
      refine x_callVx C (n := 1) (qc := (RX7, TX7, 7)) (As := [vI 0]) (rest := []) hM9 gL_isSo_X7_strength (by decide +kernel) ho9 rfl rfl rfl rfl (Nat.le_of_ble_eq_true rfl) ⟨by decide, by decide⟩ ⟨(by decide), (by decide)⟩ dL_isSo_22 hX9 (fun rv9 h9 hp9 => ?_)
      obtain ⟨rfl, he9⟩ := hP9 rv9 h9 hp9
      obtain rfl := he9.symm
      refine x_aload_n C dL_isSo_25 2 rfl ?_
      refine x_iconst C dL_isSo_26 2 (by decide) ?_
      refine x_iald C hq ⟨by omega, by omega⟩ (by decide) dL_isSo_27 ?_
      refine x_topv (show q (Int.toNat 2) = m 1 0 0 from by exact hqs 0 (by decide)) ?_
      refine x_icmp_ne (tgt := 57) C dL_isSo_28 (by decide) (by omega) (by omega) (fun c3 => ?_) (fun c3 => ?_)
      · exfalso; omega
      · skip
        refine x_aload_n C dL_isSo_31 0 rfl ?_
        refine x_iconst C dL_isSo_32 1 (by decide) ?_
        obtain ⟨P9, X9, hM9, hX9, hP9⟩ := k_strength (l := kl κ) (A := A) hSy (u := 1) (by decide)
        obtain ⟨fs9, ho9⟩ := hSy.obj
        refine x_callVx C (n := 1) (qc := (RX7, TX7, 7)) (As := [vI 1]) (rest := []) hM9 gL_isSo_X7_strength (by decide +kernel) ho9 rfl rfl rfl rfl (Nat.le_of_ble_eq_true rfl) ⟨by decide, by decide⟩ ⟨(by decide), (by decide)⟩ dL_isSo_33 hX9 (fun rv9 h9 hp9 => ?_)
        obtain ⟨rfl, he9⟩ := hP9 rv9 h9 hp9
        obtain rfl := he9.symm
        refine x_aload_n C dL_isSo_36 2 rfl ?_
        refine x_iconst C dL_isSo_37 3 (by decide) ?_
        refine x_iald C hq ⟨by omega, by omega⟩ (by decide) dL_isSo_38 ?_
        refine x_topv (show q (Int.toNat 3) = m 1 0 1 from by exact hqs 1 (by decide)) ?_
        refine x_icmp_ne (tgt := 57) C dL_isSo_39 (by decide) (by omega) (by omega) (fun c4 => ?_) (fun c4 => ?_)
        · exfalso; omega
        · skip
          refine x_aload_n C dL_isSo_42 0 rfl ?_
          refine x_iconst C dL_isSo_43 2 (by decide) ?_
          obtain ⟨P9, X9, hM9, hX9, hP9⟩ := k_strength (l := kl κ) (A := A) hSy (u := 2) (by decide)
          obtain ⟨fs9, ho9⟩ := hSy.obj
          refine x_callVx C (n := 1) (qc := (RX7, TX7, 7)) (As := [vI 2]) (rest := []) hM9 gL_isSo_X7_strength (by decide +kernel) ho9 rfl rfl rfl rfl (Nat.le_of_ble_eq_true rfl) ⟨by decide, by decide⟩ ⟨(by decide), (by decide)⟩ dL_isSo_44 hX9 (fun rv9 h9 hp9 => ?_)
          obtain ⟨rfl, he9⟩ := hP9 rv9 h9 hp9
          obtain rfl := he9.symm
          refine x_aload_n C dL_isSo_47 2 rfl ?_
          refine x_iconst C dL_isSo_48 4 (by decide) ?_
          refine x_iald C hq ⟨by omega, by omega⟩ (by decide) dL_isSo_49 ?_
          refine x_topv (show q (Int.toNat 4) = m 1 0 2 from by exact hqs 2 (by decide)) ?_
          refine x_icmp_ne (tgt := 57) C dL_isSo_50 (by decide) (by omega) (by omega) (fun c5 => ?_) (fun c5 => ?_)
          · exfalso; omega
          · skip
            refine x_iconst C dL_isSo_53 1 (by decide) ?_
            refine x_goto (tgt := 58) C dL_isSo_54 (by decide) ?_
            refine x_istore C (ls' := [(0, .ref x), (1, .int zz), (2, .ref (ar 0)), (3, .ref (ar 1)), (4, .ref (ar 2)), (5, .ref (ar 5)), (6, .ref (ar 6)), (7, .ref (ar 7)), (8, .ref (ar 8)), (9, vI 1)]) dL_isSo_58 (by decide) rfl ?_
            refine x_iconst C dL_isSo_60 0 (by decide) ?_
            refine x_istore C (ls' := [(0, .ref x), (1, .int zz), (2, .ref (ar 0)), (3, .ref (ar 1)), (4, .ref (ar 2)), (5, .ref (ar 5)), (6, .ref (ar 6)), (7, .ref (ar 7)), (8, .ref (ar 8)), (9, vI 1), (10, vI 0)]) dL_isSo_61 (by decide) rfl ?_
            have LL : ∀ (N : Nat) (k : Nat)   (hk : k ≤ L) (hN : L - k < N), X κ (3 + 8 * k) (18 + 48 * k) h [(0, .ref x), (1, .int zz), (2, .ref (ar 0)), (3, .ref (ar 1)), (4, .ref (ar 2)), (5, .ref (ar 5)), (6, .ref (ar 6)), (7, .ref (ar 7)), (8, .ref (ar 8)), (9, vI 1), (10, vI ((k : Nat) : Int))] 63 [] := by
              intro N
              induction N with
              | zero => intro k hk hN; exfalso; omega
              | succ N ihLL =>
                intro k hk hN
                obtain ⟨zc, hzc⟩ : ∃ zc : Nat, zc = lowF (zz >>> ((iI (((k : Nat) : Int))) &&& 31)) 96 := ⟨_, rfl⟩
                have hzc9 : zc < 96 := by
                  have := lowF_lt (v := zz >>> ((iI (((k : Nat) : Int))) &&& 31)) (n := 96) (by omega)
                  omega
                refine x_iload C dL_isSo_63 10 rfl ?_
                refine x_aload_n C dL_isSo_65 2 rfl ?_
                refine x_iconst C dL_isSo_66 0 (by decide) ?_
                refine x_iald C hq ⟨by omega, by omega⟩ (by decide) dL_isSo_67 ?_
                refine x_topv (show q (Int.toNat 0) = ((L : Nat) : Int) from by exact hq0) ?_
                refine x_icmp_ge (tgt := 190) C dL_isSo_68 (by decide) (by omega) (by omega) (fun c7 => ?_) (fun c7 => ?_)
                · skip
                  refine x_widen (m1 := 60) (m2 := 360) (by first | omega | (dsimp only; omega)) (by first | omega | (dsimp only; omega)) ?_
                  refine x_iconst C dL_isSo_190 0 (by decide) ?_
                  refine x_istore C (ls' := [(0, .ref x), (1, .int zz), (2, .ref (ar 0)), (3, .ref (ar 1)), (4, .ref (ar 2)), (5, .ref (ar 5)), (6, .ref (ar 6)), (7, .ref (ar 7)), (8, .ref (ar 8)), (9, vI 1), (10, vI 0)]) dL_isSo_191 (by decide) rfl ?_
                  have WL : ∀ (N : Nat) (k : Nat)   (hk : k ≤ W) (hN : W - k < N), X κ (60 + 40 * k) (360 + 240 * k) h [(0, .ref x), (1, .int zz), (2, .ref (ar 0)), (3, .ref (ar 1)), (4, .ref (ar 2)), (5, .ref (ar 5)), (6, .ref (ar 6)), (7, .ref (ar 7)), (8, .ref (ar 8)), (9, vI 1), (10, vI ((k : Nat) : Int))] 193 [] := by
                    intro N
                    induction N with
                    | zero => intro k hk hN; exfalso; omega
                    | succ N ihWL =>
                      intro k hk hN
                      refine x_iload C dL_isSo_193 10 rfl ?_
                      refine x_aload_n C dL_isSo_195 2 rfl ?_
                      refine x_iconst C dL_isSo_196 1 (by decide) ?_
                      refine x_iald C hq ⟨by omega, by omega⟩ (by decide) dL_isSo_197 ?_
                      refine x_topv (show q (Int.toNat 1) = ((W : Nat) : Int) from by exact hq1) ?_
                      refine x_icmp_ge (tgt := 350) C dL_isSo_198 (by decide) (by omega) (by omega) (fun c9 => ?_) (fun c9 => ?_)
                      · skip
                        refine x_widen (m1 := 300) (m2 := 1800) (by first | omega | (dsimp only; omega)) (by first | omega | (dsimp only; omega)) ?_
                        refine x_iconst C dL_isSo_350 0 (by decide) ?_
                        refine x_istore C (ls' := [(0, .ref x), (1, .int zz), (2, .ref (ar 0)), (3, .ref (ar 1)), (4, .ref (ar 2)), (5, .ref (ar 5)), (6, .ref (ar 6)), (7, .ref (ar 7)), (8, .ref (ar 8)), (9, vI 1), (10, vI 0)]) dL_isSo_351 (by decide) rfl ?_
                        have PL : ∀ (N : Nat) (y : Nat)   (hy : y ≤ 3) (hN : 3 - y < N), X κ (300 + 40 * y) (1800 + 240 * y) h [(0, .ref x), (1, .int zz), (2, .ref (ar 0)), (3, .ref (ar 1)), (4, .ref (ar 2)), (5, .ref (ar 5)), (6, .ref (ar 6)), (7, .ref (ar 7)), (8, .ref (ar 8)), (9, vI 1), (10, vI ((y : Nat) : Int))] 353 [] := by
                          intro N
                          induction N with
                          | zero => intro y hy hN; exfalso; omega
                          | succ N ihPL =>
                            intro y hy hN
                            refine x_iload C dL_isSo_353 10 rfl ?_
                            refine x_iconst C dL_isSo_355 3 (by decide) ?_
                            refine x_icmp_ge (tgt := 601) C dL_isSo_356 (by decide) (by omega) (by omega) (fun c11 => ?_) (fun c11 => ?_)
                            · skip
                              refine x_iload C dL_isSo_601 9 rfl ?_
                              refine x_zret C G dL_isSo_603 (by first | exact Or.inl rfl | exact Or.inr rfl) ?_ (by first | omega | (dsimp only; omega)) (by first | omega | (dsimp only; omega))
                              exact ⟨rfl, rfl⟩
                            · skip
                              have hy3 : y < 3 := by omega
                              obtain ⟨b1, b2, b3, b4, b5, b6⟩ := hPP y hy3
                              obtain ⟨q1, q2, q3, q4, q5, q6⟩ := hSy.run hPK hy3
                              rw [b1] at q1
                              rw [b3] at q3
                              rw [b4] at q4
                              rw [b5] at q5
                              rw [b6] at q6
                              have E_0 : Int.toNat (6 * ((y : Nat) : Int)) = 6 * y := by omega
                              have E_2 : Int.toNat (6 * ((y : Nat) : Int) + 2) = 6 * y + 2 := by omega
                              have E_3 : Int.toNat (6 * ((y : Nat) : Int) + 3) = 6 * y + 3 := by omega
                              have E_4 : Int.toNat (6 * ((y : Nat) : Int) + 4) = 6 * y + 4 := by omega
                              have E_5 : Int.toNat (6 * ((y : Nat) : Int) + 5) = 6 * y + 5 := by omega
                              obtain ⟨t9, ht9⟩ : ∃ t9 : Nat, m 26 0 y = ((t9 : Nat) : Int) := ⟨(m 26 0 y).toNat, by omega⟩
                              have ht8 : t9 < 8 := by omega
                              have hpc9 : pc3 t9 ≤ 3 := by unfold pc3; omega
                              obtain ⟨bd9, hbd9⟩ : ∃ bd9 : Int, bd9 = (if m 22 0 y = 0 then -1 else m 24 0 y) := ⟨_, rfl⟩
                              have hbd8 : (m 22 0 y = 0 ∧ bd9 = -1) ∨ (m 22 0 y ≠ 0 ∧ bd9 = m 24 0 y) := by
                                rw [hbd9]
                                by_cases q9 : m 22 0 y = 0
                                · rw [if_pos q9]; exact Or.inl ⟨q9, rfl⟩
                                · rw [if_neg q9]; exact Or.inr ⟨q9, rfl⟩
                              have hcr9 := sumB (f := crM m ((y : Nat) : Int)) (n := W) (fun i hi => crM_r (hst6 i hi))
                              refine x_iload C dL_isSo_359 9 rfl ?_
                              refine x_if_eq (tgt := 601) C dL_isSo_361 (by decide) (by omega) (fun c12 => ?_) (fun c12 => ?_)
                              · exfalso; omega
                              · skip
                                refine x_iconst C dL_isSo_364 0 (by decide) ?_
                                refine x_istore C (ls' := [(0, .ref x), (1, .int zz), (2, .ref (ar 0)), (3, .ref (ar 1)), (4, .ref (ar 2)), (5, .ref (ar 5)), (6, .ref (ar 6)), (7, .ref (ar 7)), (8, .ref (ar 8)), (9, vI 1), (10, vI ((y : Nat) : Int)), (11, vI 0)]) dL_isSo_365 (by decide) rfl ?_
                                refine x_iconst C dL_isSo_367 0 (by decide) ?_
                                refine x_istore C (ls' := [(0, .ref x), (1, .int zz), (2, .ref (ar 0)), (3, .ref (ar 1)), (4, .ref (ar 2)), (5, .ref (ar 5)), (6, .ref (ar 6)), (7, .ref (ar 7)), (8, .ref (ar 8)), (9, vI 1), (10, vI ((y : Nat) : Int)), (11, vI 0), (12, vI 0)]) dL_isSo_368 (by decide) rfl ?_
                                have IL : ∀ (N2 : Nat) (i : Nat) (s : Int)   (hi : i ≤ W) (hN2 : W - i < N2) (hs : s = sumN (crM m ((y : Nat) : Int)) i), X κ (300 + 40 * y) (1800 + 240 * y) h [(0, .ref x), (1, .int zz), (2, .ref (ar 0)), (3, .ref (ar 1)), (4, .ref (ar 2)), (5, .ref (ar 5)), (6, .ref (ar 6)), (7, .ref (ar 7)), (8, .ref (ar 8)), (9, vI 1), (10, vI ((y : Nat) : Int)), (11, vI s), (12, vI ((i : Nat) : Int))] 370 [] := by
                                  intro N2
                                  induction N2 with
                                  | zero => intro i s hi hN2 hs; exfalso; omega
                                  | succ N2 ihIL =>
                                    intro i s hi hN2 hs
                                    refine x_iload C dL_isSo_370 12 rfl ?_
                                    refine x_aload_n C dL_isSo_372 2 rfl ?_
                                    refine x_iconst C dL_isSo_373 1 (by decide) ?_
                                    refine x_iald C hq ⟨by omega, by omega⟩ (by decide) dL_isSo_374 ?_
                                    refine x_topv (show q (Int.toNat 1) = ((W : Nat) : Int) from by exact hq1) ?_
                                    refine x_icmp_ge (tgt := 452) C dL_isSo_375 (by decide) (by omega) (by omega) (fun c14 => ?_) (fun c14 => ?_)
                                    · skip
                                      have hiW : i = W := by omega
                                      rw [hiW] at hs
                                      refine x_bipush C dL_isSo_452 6 (by decide) ?_
                                      refine x_iload C dL_isSo_454 10 rfl ?_
                                      refine x_imul C dL_isSo_456 ?_
                                      refine x_istore C (ls' := [(0, .ref x), (1, .int zz), (2, .ref (ar 0)), (3, .ref (ar 1)), (4, .ref (ar 2)), (5, .ref (ar 5)), (6, .ref (ar 6)), (7, .ref (ar 7)), (8, .ref (ar 8)), (9, vI 1), (10, vI ((y : Nat) : Int)), (11, vI s), (12, vI (6 * (((y : Nat) : Int))))]) dL_isSo_457 (by decide) rfl ?_
                                      refine x_aload C dL_isSo_459 8 rfl ?_
                                      refine x_iload C dL_isSo_461 12 rfl ?_
                                      refine x_iconst C dL_isSo_463 4 (by decide) ?_
                                      refine x_iadd C dL_isSo_464 ?_
                                      refine x_iald C hr ⟨by omega, by omega⟩ (by decide) dL_isSo_465 ?_
                                      refine x_topv (show r (Int.toNat ((6 * (((y : Nat) : Int))) + 4)) = ((t9 : Nat) : Int) from by rw [E_4, b5]; exact ht9) ?_
                                      refine x_iconst C dL_isSo_466 1 (by decide) ?_
                                      refine x_iandv C (((t9 &&& 1 : Nat) : Int)) (iI_and t9 1) dL_isSo_467 ?_
                                      refine x_aload C dL_isSo_468 8 rfl ?_
                                      refine x_iload C dL_isSo_470 12 rfl ?_
                                      refine x_iconst C dL_isSo_472 4 (by decide) ?_
                                      refine x_iadd C dL_isSo_473 ?_
                                      refine x_iald C hr ⟨by omega, by omega⟩ (by decide) dL_isSo_474 ?_
                                      refine x_topv (show r (Int.toNat ((6 * (((y : Nat) : Int))) + 4)) = ((t9 : Nat) : Int) from by rw [E_4, b5]; exact ht9) ?_
                                      refine x_iconst C dL_isSo_475 1 (by decide) ?_
                                      refine x_ishrv C (((t9 / 2 : Nat) : Int)) (iI_shr 1 _ (by decide) (by omega)) dL_isSo_476 ?_
                                      refine x_iconst C dL_isSo_477 1 (by decide) ?_
                                      refine x_iandv C ((((t9 / 2) &&& 1 : Nat) : Int)) (iI_and (t9 / 2) 1) dL_isSo_478 ?_
                                      refine x_iadd C dL_isSo_479 ?_
                                      refine x_aload C dL_isSo_480 8 rfl ?_
                                      refine x_iload C dL_isSo_482 12 rfl ?_
                                      refine x_iconst C dL_isSo_484 4 (by decide) ?_
                                      refine x_iadd C dL_isSo_485 ?_
                                      refine x_iald C hr ⟨by omega, by omega⟩ (by decide) dL_isSo_486 ?_
                                      refine x_topv (show r (Int.toNat ((6 * (((y : Nat) : Int))) + 4)) = ((t9 : Nat) : Int) from by rw [E_4, b5]; exact ht9) ?_
                                      refine x_iconst C dL_isSo_487 2 (by decide) ?_
                                      refine x_ishrv C (((t9 / 4 : Nat) : Int)) (iI_shr 2 _ (by decide) (by omega)) dL_isSo_488 ?_
                                      refine x_iadd C dL_isSo_489 ?_
                                      refine x_topv (show ((((t9 &&& 1 : Nat) : Int)) + ((((t9 / 2) &&& 1 : Nat) : Int))) + (((t9 / 4 : Nat) : Int)) = ((pc3 t9 : Nat) : Int) from by exact pc3_b ht8) ?_
                                      refine x_istore C (ls' := [(0, .ref x), (1, .int zz), (2, .ref (ar 0)), (3, .ref (ar 1)), (4, .ref (ar 2)), (5, .ref (ar 5)), (6, .ref (ar 6)), (7, .ref (ar 7)), (8, .ref (ar 8)), (9, vI 1), (10, vI ((y : Nat) : Int)), (11, vI s), (12, vI (6 * (((y : Nat) : Int)))), (13, vI ((pc3 t9 : Nat) : Int))]) dL_isSo_490 (by decide) rfl ?_
                                      refine x_aload_n C dL_isSo_492 0 rfl ?_
                                      refine x_iload C dL_isSo_493 10 rfl ?_
                                      obtain ⟨P9, X9, hM9, hX9, hP9⟩ := k_credit (l := kl κ) (A := A) hSy (p := y) (by omega)
                                      obtain ⟨fs9, ho9⟩ := hSy.obj
                                      refine x_callVx C (n := 1) (qc := (RX7, TX7, 7)) (As := [vI ((y : Nat) : Int)]) (rest := []) hM9 gL_isSo_X7_credit (by decide +kernel) ho9 rfl rfl rfl rfl (Nat.le_of_ble_eq_true rfl) ⟨by decide, by decide⟩ ⟨(by first | omega | (dsimp only; omega)), (by first | omega | (dsimp only; omega))⟩ dL_isSo_495 hX9 (fun rv9 h9 hp9 => ?_)
                                      obtain ⟨rfl, he9⟩ := hP9 rv9 h9 hp9
                                      obtain rfl := he9.symm
                                      refine x_iload C dL_isSo_498 11 rfl ?_
                                      refine x_icmp_ne (tgt := 592) C dL_isSo_500 (by decide) (by omega) (by omega) (fun c15 => ?_) (fun c15 => ?_)
                                      · exfalso; omega
                                      · skip
                                        refine x_aload_n C dL_isSo_503 0 rfl ?_
                                        refine x_iload C dL_isSo_504 10 rfl ?_
                                        obtain ⟨P9, X9, hM9, hX9, hP9⟩ := k_runState (l := kl κ) (A := A) hSy (p := y) (by omega)
                                        obtain ⟨fs9, ho9⟩ := hSy.obj
                                        refine x_callVx C (n := 1) (qc := (RX7, TX7, 7)) (As := [vI ((y : Nat) : Int)]) (rest := []) hM9 gL_isSo_X7_runState (by decide +kernel) ho9 rfl rfl rfl rfl (Nat.le_of_ble_eq_true rfl) ⟨by decide, by decide⟩ ⟨(by first | omega | (dsimp only; omega)), (by first | omega | (dsimp only; omega))⟩ dL_isSo_506 hX9 (fun rv9 h9 hp9 => ?_)
                                        obtain ⟨rfl, he9⟩ := hP9 rv9 h9 hp9
                                        obtain rfl := he9.symm
                                        refine x_aload C dL_isSo_509 8 rfl ?_
                                        refine x_iload C dL_isSo_511 12 rfl ?_
                                        refine x_iald C hr ⟨by omega, by omega⟩ (by decide) dL_isSo_513 ?_
                                        refine x_topv (show r (Int.toNat (6 * (((y : Nat) : Int)))) = m 22 0 y from by rw [E_0]; exact b1) ?_
                                        refine x_icmp_ne (tgt := 592) C dL_isSo_514 (by decide) (by omega) (by omega) (fun c16 => ?_) (fun c16 => ?_)
                                        · exfalso; omega
                                        · skip
                                          refine x_aload_n C dL_isSo_517 0 rfl ?_
                                          refine x_iload C dL_isSo_518 10 rfl ?_
                                          obtain ⟨P9, X9, hM9, hX9, hP9⟩ := k_body (l := kl κ) (A := A) hSy (p := y) (by omega)
                                          obtain ⟨fs9, ho9⟩ := hSy.obj
                                          refine x_callVx C (n := 1) (qc := (RX7, TX7, 7)) (As := [vI ((y : Nat) : Int)]) (rest := []) hM9 gL_isSo_X7_body (by decide +kernel) ho9 rfl rfl rfl rfl (Nat.le_of_ble_eq_true rfl) ⟨by decide, by decide⟩ ⟨(by first | omega | (dsimp only; omega)), (by first | omega | (dsimp only; omega))⟩ dL_isSo_520 hX9 (fun rv9 h9 hp9 => ?_)
                                          obtain ⟨rfl, he9⟩ := hP9 rv9 h9 hp9
                                          obtain rfl := he9.symm
                                          refine x_topv (show (if m 22 0 y = 0 then -1 else m 24 0 y) = bd9 from by rw [hbd9]) ?_
                                          refine x_aload C dL_isSo_523 8 rfl ?_
                                          refine x_iload C dL_isSo_525 12 rfl ?_
                                          refine x_iald C hr ⟨by omega, by omega⟩ (by decide) dL_isSo_527 ?_
                                          refine x_topv (show r (Int.toNat (6 * (((y : Nat) : Int)))) = m 22 0 y from by rw [E_0]; exact b1) ?_
                                          refine x_if_ne (tgt := 535) C dL_isSo_528 (by decide) (by omega) (fun c17 => ?_) (fun c17 => ?_)
                                          · skip
                                            refine x_aload C dL_isSo_535 8 rfl ?_
                                            refine x_iload C dL_isSo_537 12 rfl ?_
                                            refine x_iconst C dL_isSo_539 2 (by decide) ?_
                                            refine x_iadd C dL_isSo_540 ?_
                                            refine x_iald C hr ⟨by omega, by omega⟩ (by decide) dL_isSo_541 ?_
                                            refine x_topv (show r (Int.toNat ((6 * (((y : Nat) : Int))) + 2)) = m 24 0 y from by rw [E_2]; exact b3) ?_
                                            refine x_icmp_ne (tgt := 592) C dL_isSo_542 (by decide) (by omega) (by omega) (fun c18 => ?_) (fun c18 => ?_)
                                            · exfalso; omega
                                            · skip
                                              refine x_aload_n C dL_isSo_545 0 rfl ?_
                                              refine x_iload C dL_isSo_546 10 rfl ?_
                                              obtain ⟨P9, X9, hM9, hX9, hP9⟩ := k_speed (l := kl κ) (A := A) hSy (p := y) (by omega)
                                              obtain ⟨fs9, ho9⟩ := hSy.obj
                                              refine x_callVx C (n := 1) (qc := (RX7, TX7, 7)) (As := [vI ((y : Nat) : Int)]) (rest := []) hM9 gL_isSo_X7_speed (by decide +kernel) ho9 rfl rfl rfl rfl (Nat.le_of_ble_eq_true rfl) ⟨by decide, by decide⟩ ⟨(by first | omega | (dsimp only; omega)), (by first | omega | (dsimp only; omega))⟩ dL_isSo_548 hX9 (fun rv9 h9 hp9 => ?_)
                                              obtain ⟨rfl, he9⟩ := hP9 rv9 h9 hp9
                                              obtain rfl := he9.symm
                                              refine x_aload C dL_isSo_551 8 rfl ?_
                                              refine x_iload C dL_isSo_553 12 rfl ?_
                                              refine x_iconst C dL_isSo_555 3 (by decide) ?_
                                              refine x_iadd C dL_isSo_556 ?_
                                              refine x_iald C hr ⟨by omega, by omega⟩ (by decide) dL_isSo_557 ?_
                                              refine x_topv (show r (Int.toNat ((6 * (((y : Nat) : Int))) + 3)) = m 25 0 y from by rw [E_3]; exact b4) ?_
                                              refine x_icmp_ne (tgt := 592) C dL_isSo_558 (by decide) (by omega) (by omega) (fun c19 => ?_) (fun c19 => ?_)
                                              · exfalso; omega
                                              · skip
                                                refine x_aload_n C dL_isSo_561 0 rfl ?_
                                                refine x_iload C dL_isSo_562 10 rfl ?_
                                                obtain ⟨P9, X9, hM9, hX9, hP9⟩ := k_keys (l := kl κ) (A := A) hSy (p := y) (by omega)
                                                obtain ⟨fs9, ho9⟩ := hSy.obj
                                                refine x_callVx C (n := 1) (qc := (RX7, TX7, 7)) (As := [vI ((y : Nat) : Int)]) (rest := []) hM9 gL_isSo_X7_keys (by decide +kernel) ho9 rfl rfl rfl rfl (Nat.le_of_ble_eq_true rfl) ⟨by decide, by decide⟩ ⟨(by first | omega | (dsimp only; omega)), (by first | omega | (dsimp only; omega))⟩ dL_isSo_564 hX9 (fun rv9 h9 hp9 => ?_)
                                                obtain ⟨rfl, he9⟩ := hP9 rv9 h9 hp9
                                                obtain rfl := he9.symm
                                                refine x_topv (show ((pc3 (m 26 0 y).toNat : Nat) : Int) = ((pc3 t9 : Nat) : Int) from by rw [ht9]; rfl) ?_
                                                refine x_iload C dL_isSo_567 13 rfl ?_
                                                refine x_icmp_ne (tgt := 592) C dL_isSo_569 (by decide) (by omega) (by omega) (fun c20 => ?_) (fun c20 => ?_)
                                                · exfalso; omega
                                                · skip
                                                  refine x_aload_n C dL_isSo_572 0 rfl ?_
                                                  refine x_iload C dL_isSo_573 10 rfl ?_
                                                  obtain ⟨P9, X9, hM9, hX9, hP9⟩ := k_stepsOf (l := kl κ) (A := A) hSy (p := y) (by omega)
                                                  obtain ⟨fs9, ho9⟩ := hSy.obj
                                                  refine x_callVx C (n := 1) (qc := (RX7, TX7, 7)) (As := [vI ((y : Nat) : Int)]) (rest := []) hM9 gL_isSo_X7_stepsOf (by decide +kernel) ho9 rfl rfl rfl rfl (Nat.le_of_ble_eq_true rfl) ⟨by decide, by decide⟩ ⟨(by first | omega | (dsimp only; omega)), (by first | omega | (dsimp only; omega))⟩ dL_isSo_575 hX9 (fun rv9 h9 hp9 => ?_)
                                                  obtain ⟨rfl, he9⟩ := hP9 rv9 h9 hp9
                                                  obtain rfl := he9.symm
                                                  refine x_aload C dL_isSo_578 8 rfl ?_
                                                  refine x_iload C dL_isSo_580 12 rfl ?_
                                                  refine x_iconst C dL_isSo_582 5 (by decide) ?_
                                                  refine x_iadd C dL_isSo_583 ?_
                                                  refine x_iald C hr ⟨by omega, by omega⟩ (by decide) dL_isSo_584 ?_
                                                  refine x_topv (show r (Int.toNat ((6 * (((y : Nat) : Int))) + 5)) = m 27 0 y from by rw [E_5]; exact b6) ?_
                                                  refine x_icmp_ne (tgt := 592) C dL_isSo_585 (by decide) (by omega) (by omega) (fun c21 => ?_) (fun c21 => ?_)
                                                  · exfalso; omega
                                                  · skip
                                                    refine x_iconst C dL_isSo_588 1 (by decide) ?_
                                                    refine x_goto (tgt := 593) C dL_isSo_589 (by decide) ?_
                                                    refine x_istore C (ls' := [(0, .ref x), (1, .int zz), (2, .ref (ar 0)), (3, .ref (ar 1)), (4, .ref (ar 2)), (5, .ref (ar 5)), (6, .ref (ar 6)), (7, .ref (ar 7)), (8, .ref (ar 8)), (9, vI 1), (10, vI ((y : Nat) : Int)), (11, vI s), (12, vI (6 * (((y : Nat) : Int)))), (13, vI ((pc3 t9 : Nat) : Int))]) dL_isSo_593 (by decide) rfl ?_
                                                    refine x_iinc C (x := ((y : Nat) : Int)) (ls' := [(0, .ref x), (1, .int zz), (2, .ref (ar 0)), (3, .ref (ar 1)), (4, .ref (ar 2)), (5, .ref (ar 5)), (6, .ref (ar 6)), (7, .ref (ar 7)), (8, .ref (ar 8)), (9, vI 1), (10, vI ((((y : Nat) : Int)) + 1)), (11, vI s), (12, vI (6 * (((y : Nat) : Int)))), (13, vI ((pc3 t9 : Nat) : Int))]) dL_isSo_595 10 rfl (by decide) rfl ?_
                                                    refine x_goto (tgt := 353) C dL_isSo_598 (by decide) ?_
                                                    refine x_sub [0, 1, 2, 3, 4, 5, 6, 7, 8, 9, 10] (ls' := [(0, .ref x), (1, .int zz), (2, .ref (ar 0)), (3, .ref (ar 1)), (4, .ref (ar 2)), (5, .ref (ar 5)), (6, .ref (ar 6)), (7, .ref (ar 7)), (8, .ref (ar 8)), (9, vI 1), (10, vI ((((y : Nat) : Int)) + 1))]) rfl ?_
                                                    refine x_widen (m1 := 300 + 40 * (y + 1)) (m2 := 1800 + 240 * (y + 1)) (by first | omega | (dsimp only; omega)) (by first | omega | (dsimp only; omega)) ?_
                                                    exact ihPL (y + 1) (by omega) (by omega)
                                          · skip
                                            refine x_iconst C dL_isSo_531 (-1) (by decide) ?_
                                            refine x_goto (tgt := 542) C dL_isSo_532 (by decide) ?_
                                            refine x_icmp_ne (tgt := 592) C dL_isSo_542 (by decide) (by omega) (by omega) (fun c22 => ?_) (fun c22 => ?_)
                                            · exfalso; omega
                                            · skip
                                              refine x_aload_n C dL_isSo_545 0 rfl ?_
                                              refine x_iload C dL_isSo_546 10 rfl ?_
                                              obtain ⟨P9, X9, hM9, hX9, hP9⟩ := k_speed (l := kl κ) (A := A) hSy (p := y) (by omega)
                                              obtain ⟨fs9, ho9⟩ := hSy.obj
                                              refine x_callVx C (n := 1) (qc := (RX7, TX7, 7)) (As := [vI ((y : Nat) : Int)]) (rest := []) hM9 gL_isSo_X7_speed (by decide +kernel) ho9 rfl rfl rfl rfl (Nat.le_of_ble_eq_true rfl) ⟨by decide, by decide⟩ ⟨(by first | omega | (dsimp only; omega)), (by first | omega | (dsimp only; omega))⟩ dL_isSo_548 hX9 (fun rv9 h9 hp9 => ?_)
                                              obtain ⟨rfl, he9⟩ := hP9 rv9 h9 hp9
                                              obtain rfl := he9.symm
                                              refine x_aload C dL_isSo_551 8 rfl ?_
                                              refine x_iload C dL_isSo_553 12 rfl ?_
                                              refine x_iconst C dL_isSo_555 3 (by decide) ?_
                                              refine x_iadd C dL_isSo_556 ?_
                                              refine x_iald C hr ⟨by omega, by omega⟩ (by decide) dL_isSo_557 ?_
                                              refine x_topv (show r (Int.toNat ((6 * (((y : Nat) : Int))) + 3)) = m 25 0 y from by rw [E_3]; exact b4) ?_
                                              refine x_icmp_ne (tgt := 592) C dL_isSo_558 (by decide) (by omega) (by omega) (fun c23 => ?_) (fun c23 => ?_)
                                              · exfalso; omega
                                              · skip
                                                refine x_aload_n C dL_isSo_561 0 rfl ?_
                                                refine x_iload C dL_isSo_562 10 rfl ?_
                                                obtain ⟨P9, X9, hM9, hX9, hP9⟩ := k_keys (l := kl κ) (A := A) hSy (p := y) (by omega)
                                                obtain ⟨fs9, ho9⟩ := hSy.obj
                                                refine x_callVx C (n := 1) (qc := (RX7, TX7, 7)) (As := [vI ((y : Nat) : Int)]) (rest := []) hM9 gL_isSo_X7_keys (by decide +kernel) ho9 rfl rfl rfl rfl (Nat.le_of_ble_eq_true rfl) ⟨by decide, by decide⟩ ⟨(by first | omega | (dsimp only; omega)), (by first | omega | (dsimp only; omega))⟩ dL_isSo_564 hX9 (fun rv9 h9 hp9 => ?_)
                                                obtain ⟨rfl, he9⟩ := hP9 rv9 h9 hp9
                                                obtain rfl := he9.symm
                                                refine x_topv (show ((pc3 (m 26 0 y).toNat : Nat) : Int) = ((pc3 t9 : Nat) : Int) from by rw [ht9]; rfl) ?_
                                                refine x_iload C dL_isSo_567 13 rfl ?_
                                                refine x_icmp_ne (tgt := 592) C dL_isSo_569 (by decide) (by omega) (by omega) (fun c24 => ?_) (fun c24 => ?_)
                                                · exfalso; omega
                                                · skip
                                                  refine x_aload_n C dL_isSo_572 0 rfl ?_
                                                  refine x_iload C dL_isSo_573 10 rfl ?_
                                                  obtain ⟨P9, X9, hM9, hX9, hP9⟩ := k_stepsOf (l := kl κ) (A := A) hSy (p := y) (by omega)
                                                  obtain ⟨fs9, ho9⟩ := hSy.obj
                                                  refine x_callVx C (n := 1) (qc := (RX7, TX7, 7)) (As := [vI ((y : Nat) : Int)]) (rest := []) hM9 gL_isSo_X7_stepsOf (by decide +kernel) ho9 rfl rfl rfl rfl (Nat.le_of_ble_eq_true rfl) ⟨by decide, by decide⟩ ⟨(by first | omega | (dsimp only; omega)), (by first | omega | (dsimp only; omega))⟩ dL_isSo_575 hX9 (fun rv9 h9 hp9 => ?_)
                                                  obtain ⟨rfl, he9⟩ := hP9 rv9 h9 hp9
                                                  obtain rfl := he9.symm
                                                  refine x_aload C dL_isSo_578 8 rfl ?_
                                                  refine x_iload C dL_isSo_580 12 rfl ?_
                                                  refine x_iconst C dL_isSo_582 5 (by decide) ?_
                                                  refine x_iadd C dL_isSo_583 ?_
                                                  refine x_iald C hr ⟨by omega, by omega⟩ (by decide) dL_isSo_584 ?_
                                                  refine x_topv (show r (Int.toNat ((6 * (((y : Nat) : Int))) + 5)) = m 27 0 y from by rw [E_5]; exact b6) ?_
                                                  refine x_icmp_ne (tgt := 592) C dL_isSo_585 (by decide) (by omega) (by omega) (fun c25 => ?_) (fun c25 => ?_)
                                                  · exfalso; omega
                                                  · skip
                                                    refine x_iconst C dL_isSo_588 1 (by decide) ?_
                                                    refine x_goto (tgt := 593) C dL_isSo_589 (by decide) ?_
                                                    refine x_istore C (ls' := [(0, .ref x), (1, .int zz), (2, .ref (ar 0)), (3, .ref (ar 1)), (4, .ref (ar 2)), (5, .ref (ar 5)), (6, .ref (ar 6)), (7, .ref (ar 7)), (8, .ref (ar 8)), (9, vI 1), (10, vI ((y : Nat) : Int)), (11, vI s), (12, vI (6 * (((y : Nat) : Int)))), (13, vI ((pc3 t9 : Nat) : Int))]) dL_isSo_593 (by decide) rfl ?_
                                                    refine x_iinc C (x := ((y : Nat) : Int)) (ls' := [(0, .ref x), (1, .int zz), (2, .ref (ar 0)), (3, .ref (ar 1)), (4, .ref (ar 2)), (5, .ref (ar 5)), (6, .ref (ar 6)), (7, .ref (ar 7)), (8, .ref (ar 8)), (9, vI 1), (10, vI ((((y : Nat) : Int)) + 1)), (11, vI s), (12, vI (6 * (((y : Nat) : Int)))), (13, vI ((pc3 t9 : Nat) : Int))]) dL_isSo_595 10 rfl (by decide) rfl ?_
                                                    refine x_goto (tgt := 353) C dL_isSo_598 (by decide) ?_
                                                    refine x_sub [0, 1, 2, 3, 4, 5, 6, 7, 8, 9, 10] (ls' := [(0, .ref x), (1, .int zz), (2, .ref (ar 0)), (3, .ref (ar 1)), (4, .ref (ar 2)), (5, .ref (ar 5)), (6, .ref (ar 6)), (7, .ref (ar 7)), (8, .ref (ar 8)), (9, vI 1), (10, vI ((((y : Nat) : Int)) + 1))]) rfl ?_
                                                    refine x_widen (m1 := 300 + 40 * (y + 1)) (m2 := 1800 + 240 * (y + 1)) (by first | omega | (dsimp only; omega)) (by first | omega | (dsimp only; omega)) ?_
                                                    exact ihPL (y + 1) (by omega) (by omega)
                                    · skip
                                      refine x_iconst C dL_isSo_378 0 (by decide) ?_
                                      refine x_istore C (ls' := [(0, .ref x), (1, .int zz), (2, .ref (ar 0)), (3, .ref (ar 1)), (4, .ref (ar 2)), (5, .ref (ar 5)), (6, .ref (ar 6)), (7, .ref (ar 7)), (8, .ref (ar 8)), (9, vI 1), (10, vI ((y : Nat) : Int)), (11, vI s), (12, vI ((i : Nat) : Int)), (13, vI 0)]) dL_isSo_379 (by decide) rfl ?_
                                      refine x_iconst C dL_isSo_381 0 (by decide) ?_
                                      refine x_istore C (ls' := [(0, .ref x), (1, .int zz), (2, .ref (ar 0)), (3, .ref (ar 1)), (4, .ref (ar 2)), (5, .ref (ar 5)), (6, .ref (ar 6)), (7, .ref (ar 7)), (8, .ref (ar 8)), (9, vI 1), (10, vI ((y : Nat) : Int)), (11, vI s), (12, vI ((i : Nat) : Int)), (13, vI 0), (14, vI 0)]) dL_isSo_382 (by decide) rfl ?_
                                      have OL : ∀ (N3 : Nat) (o : Nat) (hh : Int)   (ho : o ≤ W) (hN3 : W - o < N3) (hhh : (hh = 0 ∨ hh = 1) ∧ (hh = 1 ↔ ∃ j, j < o ∧ (m 15 0 j = ((y : Nat) : Int) ∧ lnM m j i = 1))), X κ (300 + 40 * y) (1800 + 240 * y) h [(0, .ref x), (1, .int zz), (2, .ref (ar 0)), (3, .ref (ar 1)), (4, .ref (ar 2)), (5, .ref (ar 5)), (6, .ref (ar 6)), (7, .ref (ar 7)), (8, .ref (ar 8)), (9, vI 1), (10, vI ((y : Nat) : Int)), (11, vI s), (12, vI ((i : Nat) : Int)), (13, vI hh), (14, vI ((o : Nat) : Int))] 384 [] := by
                                        intro N3
                                        induction N3 with
                                        | zero => intro o hh ho hN3 hhh; exfalso; omega
                                        | succ N3 ihOL =>
                                          intro o hh ho hN3 hhh
                                          have hau9 : o < W → 0 ≤ m 15 0 o ∧ m 15 0 o ≤ 5 := fun ho9 => by
                                            have q9 := (hSy.wrk hPK ho9).2.2.2.2.1
                                            rw [(hPW o ho9).1] at q9
                                            exact q9
                                          have hlr9 := lnM_r (m := m) o i
                                          refine x_iload C dL_isSo_384 14 rfl ?_
                                          refine x_aload_n C dL_isSo_386 2 rfl ?_
                                          refine x_iconst C dL_isSo_387 1 (by decide) ?_
                                          refine x_iald C hq ⟨by omega, by omega⟩ (by decide) dL_isSo_388 ?_
                                          refine x_topv (show q (Int.toNat 1) = ((W : Nat) : Int) from by exact hq1) ?_
                                          refine x_icmp_ge (tgt := 431) C dL_isSo_389 (by decide) (by omega) (by omega) (fun c27 => ?_) (fun c27 => ?_)
                                          · skip
                                            have hoW : o = W := by clear hhh; omega
                                            rw [hoW] at hhh
                                            refine x_iload C dL_isSo_431 11 rfl ?_
                                            refine x_iload C dL_isSo_433 13 rfl ?_
                                            refine x_iload C dL_isSo_435 12 rfl ?_
                                            refine x_aload C dL_isSo_437 7 rfl ?_
                                            refine x_callSJ C (n := 2) (As := [vI ((i : Nat) : Int), .ref (ar 7)]) (rest := [vI hh, vI s]) (c_L_stars (k := i) hp (by omega)) gL_isSo_L_stars (by decide +kernel) rfl rfl rfl (Nat.le_of_ble_eq_true rfl) ⟨by decide, by decide⟩ ⟨(by first | omega | (dsimp only; omega)), (by first | omega | (dsimp only; omega))⟩ dL_isSo_439 (fun rv28 h29 hp30 => ?_)
                                            obtain ⟨rfl, e31⟩ := hp30
                                            obtain rfl := e31.symm
                                            refine x_topv (show p (3 * i) + p (3 * i + 1) + p (3 * i + 2) = sumN (fun j => m 21 0 (6 * i + j)) 6 from by exact st_e (hPW i (by clear hhh; omega))) ?_
                                            refine x_imul C dL_isSo_442 ?_
                                            refine x_topv (show hh * (sumN (fun j => m 21 0 (6 * i + j)) 6) = crM m ((y : Nat) : Int) i from by exact cr_e (fun i hi => by rw [← hpar i hi]; exact (hpa i hi).2) (by clear hhh; omega) hhh) ?_
                                            refine x_iadd C dL_isSo_443 ?_
                                            refine x_istore C (ls' := [(0, .ref x), (1, .int zz), (2, .ref (ar 0)), (3, .ref (ar 1)), (4, .ref (ar 2)), (5, .ref (ar 5)), (6, .ref (ar 6)), (7, .ref (ar 7)), (8, .ref (ar 8)), (9, vI 1), (10, vI ((y : Nat) : Int)), (11, vI (s + (crM m ((y : Nat) : Int) i))), (12, vI ((i : Nat) : Int)), (13, vI hh), (14, vI ((o : Nat) : Int))]) dL_isSo_444 (by decide) rfl ?_
                                            refine x_iinc C (x := ((i : Nat) : Int)) (ls' := [(0, .ref x), (1, .int zz), (2, .ref (ar 0)), (3, .ref (ar 1)), (4, .ref (ar 2)), (5, .ref (ar 5)), (6, .ref (ar 6)), (7, .ref (ar 7)), (8, .ref (ar 8)), (9, vI 1), (10, vI ((y : Nat) : Int)), (11, vI (s + (crM m ((y : Nat) : Int) i))), (12, vI ((((i : Nat) : Int)) + 1)), (13, vI hh), (14, vI ((o : Nat) : Int))]) dL_isSo_446 12 rfl (by decide) rfl ?_
                                            refine x_goto (tgt := 370) C dL_isSo_449 (by decide) ?_
                                            refine x_sub [0, 1, 2, 3, 4, 5, 6, 7, 8, 9, 10, 11, 12] (ls' := [(0, .ref x), (1, .int zz), (2, .ref (ar 0)), (3, .ref (ar 1)), (4, .ref (ar 2)), (5, .ref (ar 5)), (6, .ref (ar 6)), (7, .ref (ar 7)), (8, .ref (ar 8)), (9, vI 1), (10, vI ((y : Nat) : Int)), (11, vI (s + (crM m ((y : Nat) : Int) i))), (12, vI ((((i : Nat) : Int)) + 1))]) rfl ?_
                                            exact ihIL (i + 1) (s + (crM m ((y : Nat) : Int) i)) (by clear hhh; omega) (by clear hhh; omega) (by rw [hs]; rfl)
                                          · skip
                                            refine x_aload C dL_isSo_392 6 rfl ?_
                                            refine x_iconst C dL_isSo_394 5 (by decide) ?_
                                            refine x_iload C dL_isSo_395 14 rfl ?_
                                            refine x_imul C dL_isSo_397 ?_
                                            refine x_iald C hw ⟨by omega, by omega⟩ (by decide) dL_isSo_398 ?_
                                            refine x_topv (show w (Int.toNat (5 * (((o : Nat) : Int)))) = m 15 0 o from by rw [show Int.toNat (5 * ((o : Nat) : Int)) = 5 * o by omega]; exact (hPW o (by omega)).1) ?_
                                            refine x_iload C dL_isSo_399 10 rfl ?_
                                            refine x_icmp_ne (tgt := 421) C dL_isSo_401 (by decide) (by omega) (by omega) (fun c32 => ?_) (fun c32 => ?_)
                                            · skip
                                              refine x_iload C dL_isSo_421 13 rfl ?_
                                              refine x_istore C (ls' := [(0, .ref x), (1, .int zz), (2, .ref (ar 0)), (3, .ref (ar 1)), (4, .ref (ar 2)), (5, .ref (ar 5)), (6, .ref (ar 6)), (7, .ref (ar 7)), (8, .ref (ar 8)), (9, vI 1), (10, vI ((y : Nat) : Int)), (11, vI s), (12, vI ((i : Nat) : Int)), (13, vI hh), (14, vI ((o : Nat) : Int))]) dL_isSo_423 (by decide) rfl ?_
                                              refine x_iinc C (x := ((o : Nat) : Int)) (ls' := [(0, .ref x), (1, .int zz), (2, .ref (ar 0)), (3, .ref (ar 1)), (4, .ref (ar 2)), (5, .ref (ar 5)), (6, .ref (ar 6)), (7, .ref (ar 7)), (8, .ref (ar 8)), (9, vI 1), (10, vI ((y : Nat) : Int)), (11, vI s), (12, vI ((i : Nat) : Int)), (13, vI hh), (14, vI ((((o : Nat) : Int)) + 1))]) dL_isSo_425 14 rfl (by decide) rfl ?_
                                              refine x_goto (tgt := 384) C dL_isSo_428 (by decide) ?_
                                              exact ihOL (o + 1) hh (by clear hhh; omega) (by clear hhh; omega) (by first | exact g2_keep hhh (fun y9 => by have q9 := y9.1; have q8 := y9.2; clear hhh; omega) | exact g2_new (P := fun j => m 15 0 j = ((y : Nat) : Int) ∧ lnM m j i = 1) ⟨by assumption, by assumption⟩)
                                            · skip
                                              refine x_iload C dL_isSo_404 14 rfl ?_
                                              refine x_iload C dL_isSo_406 12 rfl ?_
                                              refine x_aload C dL_isSo_408 6 rfl ?_
                                              refine x_callSJ C (n := 3) (As := [vI ((o : Nat) : Int), vI ((i : Nat) : Int), .ref (ar 6)]) (rest := []) (c_L_line (W := W) hw (by omega) (⟨by omega, by omega⟩) (hpa)) gL_isSo_L_line (by decide +kernel) rfl rfl rfl (Nat.le_of_ble_eq_true rfl) ⟨by decide, by decide⟩ ⟨(by first | omega | (dsimp only; omega)), (by first | omega | (dsimp only; omega))⟩ dL_isSo_410 (fun rv33 h34 hp35 => ?_)
                                              obtain ⟨rfl, e36⟩ := hp35
                                              obtain rfl := e36.symm
                                              refine x_topv (show bI (Anc (fun j => w (5 * j + 3) + 1) (fun j => j = o) (((i : Nat) : Int) + 1)) = lnM m o i from by exact ln_e hpar (fun j hj => (hpa j hj).2) (by omega)) ?_
                                              refine x_iconst C dL_isSo_413 1 (by decide) ?_
                                              refine x_icmp_ne (tgt := 421) C dL_isSo_414 (by decide) (by omega) (by omega) (fun c37 => ?_) (fun c37 => ?_)
                                              · skip
                                                refine x_iload C dL_isSo_421 13 rfl ?_
                                                refine x_istore C (ls' := [(0, .ref x), (1, .int zz), (2, .ref (ar 0)), (3, .ref (ar 1)), (4, .ref (ar 2)), (5, .ref (ar 5)), (6, .ref (ar 6)), (7, .ref (ar 7)), (8, .ref (ar 8)), (9, vI 1), (10, vI ((y : Nat) : Int)), (11, vI s), (12, vI ((i : Nat) : Int)), (13, vI hh), (14, vI ((o : Nat) : Int))]) dL_isSo_423 (by decide) rfl ?_
                                                refine x_iinc C (x := ((o : Nat) : Int)) (ls' := [(0, .ref x), (1, .int zz), (2, .ref (ar 0)), (3, .ref (ar 1)), (4, .ref (ar 2)), (5, .ref (ar 5)), (6, .ref (ar 6)), (7, .ref (ar 7)), (8, .ref (ar 8)), (9, vI 1), (10, vI ((y : Nat) : Int)), (11, vI s), (12, vI ((i : Nat) : Int)), (13, vI hh), (14, vI ((((o : Nat) : Int)) + 1))]) dL_isSo_425 14 rfl (by decide) rfl ?_
                                                refine x_goto (tgt := 384) C dL_isSo_428 (by decide) ?_
                                                exact ihOL (o + 1) hh (by clear hhh; omega) (by clear hhh; omega) (by first | exact g2_keep hhh (fun y9 => by have q9 := y9.1; have q8 := y9.2; clear hhh; omega) | exact g2_new (P := fun j => m 15 0 j = ((y : Nat) : Int) ∧ lnM m j i = 1) ⟨by assumption, by assumption⟩)
                                              · skip
                                                refine x_iconst C dL_isSo_417 1 (by decide) ?_
                                                refine x_goto (tgt := 423) C dL_isSo_418 (by decide) ?_
                                                refine x_istore C (ls' := [(0, .ref x), (1, .int zz), (2, .ref (ar 0)), (3, .ref (ar 1)), (4, .ref (ar 2)), (5, .ref (ar 5)), (6, .ref (ar 6)), (7, .ref (ar 7)), (8, .ref (ar 8)), (9, vI 1), (10, vI ((y : Nat) : Int)), (11, vI s), (12, vI ((i : Nat) : Int)), (13, vI 1), (14, vI ((o : Nat) : Int))]) dL_isSo_423 (by decide) rfl ?_
                                                refine x_iinc C (x := ((o : Nat) : Int)) (ls' := [(0, .ref x), (1, .int zz), (2, .ref (ar 0)), (3, .ref (ar 1)), (4, .ref (ar 2)), (5, .ref (ar 5)), (6, .ref (ar 6)), (7, .ref (ar 7)), (8, .ref (ar 8)), (9, vI 1), (10, vI ((y : Nat) : Int)), (11, vI s), (12, vI ((i : Nat) : Int)), (13, vI 1), (14, vI ((((o : Nat) : Int)) + 1))]) dL_isSo_425 14 rfl (by decide) rfl ?_
                                                refine x_goto (tgt := 384) C dL_isSo_428 (by decide) ?_
                                                exact ihOL (o + 1) 1 (by clear hhh; omega) (by clear hhh; omega) (by first | exact g2_keep hhh (fun y9 => by have q9 := y9.1; have q8 := y9.2; clear hhh; omega) | exact g2_new (P := fun j => m 15 0 j = ((y : Nat) : Int) ∧ lnM m j i = 1) ⟨by assumption, by assumption⟩)
                                      exact OL (W + 1) 0 0 (by omega) (by omega) (⟨Or.inl rfl, fun q9 => absurd q9 (by decide), fun q9 => by obtain ⟨j, j1, _⟩ := q9; omega⟩)
                                exact IL (W + 1) 0 0 (by omega) (by omega) (rfl)
                        exact PL (4) 0 (by omega) (by omega)
                      · skip
                        have hkW : k < W := by omega
                        obtain ⟨k1, k2, k3, k4, k5, k6, k7, k8⟩ := hPW k hkW
                        obtain ⟨hA7, hf8, hst, hbe, hau, hpa9, hrec⟩ := hSy.wrk hPK hkW
                        rw [k1] at hau
                        rw [k3] at hbe
                        rw [k4] at hpa9
                        rw [k5] at hrec
                        have hst9 := hst6 k hkW
                        have hln9 := sumB (f := lnM m k) (n := W) (fun i _ => by rcases lnM_r (m := m) k i with q9 | q9 <;> omega)
                        refine x_iload C dL_isSo_201 9 rfl ?_
                        refine x_if_eq (tgt := 350) C dL_isSo_203 (by decide) (by omega) (fun c38 => ?_) (fun c38 => ?_)
                        · exfalso; omega
                        · skip
                          refine x_iconst C dL_isSo_206 0 (by decide) ?_
                          refine x_istore C (ls' := [(0, .ref x), (1, .int zz), (2, .ref (ar 0)), (3, .ref (ar 1)), (4, .ref (ar 2)), (5, .ref (ar 5)), (6, .ref (ar 6)), (7, .ref (ar 7)), (8, .ref (ar 8)), (9, vI 1), (10, vI ((k : Nat) : Int)), (11, vI 0)]) dL_isSo_207 (by decide) rfl ?_
                          refine x_iconst C dL_isSo_209 0 (by decide) ?_
                          refine x_istore C (ls' := [(0, .ref x), (1, .int zz), (2, .ref (ar 0)), (3, .ref (ar 1)), (4, .ref (ar 2)), (5, .ref (ar 5)), (6, .ref (ar 6)), (7, .ref (ar 7)), (8, .ref (ar 8)), (9, vI 1), (10, vI ((k : Nat) : Int)), (11, vI 0), (12, vI 0)]) dL_isSo_210 (by decide) rfl ?_
                          have SL : ∀ (N2 : Nat) (i : Nat) (s : Int)   (hi : i ≤ W) (hN2 : W - i < N2) (hs : s = sumN (lnM m k) i), X κ (60 + 40 * k) (360 + 240 * k) h [(0, .ref x), (1, .int zz), (2, .ref (ar 0)), (3, .ref (ar 1)), (4, .ref (ar 2)), (5, .ref (ar 5)), (6, .ref (ar 6)), (7, .ref (ar 7)), (8, .ref (ar 8)), (9, vI 1), (10, vI ((k : Nat) : Int)), (11, vI s), (12, vI ((i : Nat) : Int))] 212 [] := by
                            intro N2
                            induction N2 with
                            | zero => intro i s hi hN2 hs; exfalso; omega
                            | succ N2 ihSL =>
                              intro i s hi hN2 hs
                              refine x_iload C dL_isSo_212 12 rfl ?_
                              refine x_aload_n C dL_isSo_214 2 rfl ?_
                              refine x_iconst C dL_isSo_215 1 (by decide) ?_
                              refine x_iald C hq ⟨by omega, by omega⟩ (by decide) dL_isSo_216 ?_
                              refine x_topv (show q (Int.toNat 1) = ((W : Nat) : Int) from by exact hq1) ?_
                              refine x_icmp_ge (tgt := 240) C dL_isSo_217 (by decide) (by omega) (by omega) (fun c40 => ?_) (fun c40 => ?_)
                              · skip
                                have hiW : i = W := by omega
                                rw [hiW] at hs
                                refine x_aload_n C dL_isSo_240 0 rfl ?_
                                refine x_iload C dL_isSo_241 10 rfl ?_
                                obtain ⟨P9, X9, hM9, hX9, hP9⟩ := k_author (l := kl κ) (A := A) hSy (u := k) hkW
                                obtain ⟨fs9, ho9⟩ := hSy.obj
                                refine x_callVx C (n := 1) (qc := (RX7, TX7, 7)) (As := [vI ((k : Nat) : Int)]) (rest := []) hM9 gL_isSo_X7_author (by decide +kernel) ho9 rfl rfl rfl rfl (Nat.le_of_ble_eq_true rfl) ⟨by decide, by decide⟩ ⟨(by first | omega | (dsimp only; omega)), (by first | omega | (dsimp only; omega))⟩ dL_isSo_243 hX9 (fun rv9 h9 hp9 => ?_)
                                obtain ⟨rfl, he9⟩ := hP9 rv9 h9 hp9
                                obtain rfl := he9.symm
                                refine x_aload C dL_isSo_246 6 rfl ?_
                                refine x_iconst C dL_isSo_248 5 (by decide) ?_
                                refine x_iload C dL_isSo_249 10 rfl ?_
                                refine x_imul C dL_isSo_251 ?_
                                refine x_iald C hw ⟨by omega, by omega⟩ (by decide) dL_isSo_252 ?_
                                refine x_topv (show w (Int.toNat (5 * (((k : Nat) : Int)))) = m 15 0 k from by rw [show Int.toNat (5 * ((k : Nat) : Int)) = 5 * k by omega]; exact k1) ?_
                                refine x_icmp_ne (tgt := 341) C dL_isSo_253 (by decide) (by omega) (by omega) (fun c41 => ?_) (fun c41 => ?_)
                                · exfalso; omega
                                · skip
                                  refine x_aload_n C dL_isSo_256 0 rfl ?_
                                  refine x_iload C dL_isSo_257 10 rfl ?_
                                  obtain ⟨P9, X9, hM9, hX9, hP9⟩ := k_best (l := kl κ) (A := A) hSy (u := k) hkW
                                  obtain ⟨fs9, ho9⟩ := hSy.obj
                                  refine x_callVx C (n := 1) (qc := (RX7, TX7, 7)) (As := [vI ((k : Nat) : Int)]) (rest := []) hM9 gL_isSo_X7_best (by decide +kernel) ho9 rfl rfl rfl rfl (Nat.le_of_ble_eq_true rfl) ⟨by decide, by decide⟩ ⟨(by first | omega | (dsimp only; omega)), (by first | omega | (dsimp only; omega))⟩ dL_isSo_259 hX9 (fun rv9 h9 hp9 => ?_)
                                  obtain ⟨rfl, he9⟩ := hP9 rv9 h9 hp9
                                  obtain rfl := he9.symm
                                  refine x_aload C dL_isSo_262 6 rfl ?_
                                  refine x_iconst C dL_isSo_264 5 (by decide) ?_
                                  refine x_iload C dL_isSo_265 10 rfl ?_
                                  refine x_imul C dL_isSo_267 ?_
                                  refine x_iconst C dL_isSo_268 2 (by decide) ?_
                                  refine x_iadd C dL_isSo_269 ?_
                                  refine x_iald C hw ⟨by omega, by omega⟩ (by decide) dL_isSo_270 ?_
                                  refine x_topv (show w (Int.toNat ((5 * (((k : Nat) : Int))) + 2)) = m 18 0 k from by rw [show Int.toNat (5 * ((k : Nat) : Int) + 2) = 5 * k + 2 by omega]; exact k3) ?_
                                  refine x_icmp_ne (tgt := 341) C dL_isSo_271 (by decide) (by omega) (by omega) (fun c42 => ?_) (fun c42 => ?_)
                                  · exfalso; omega
                                  · skip
                                    refine x_aload_n C dL_isSo_274 0 rfl ?_
                                    refine x_iload C dL_isSo_275 10 rfl ?_
                                    obtain ⟨P9, X9, hM9, hX9, hP9⟩ := k_parent (l := kl κ) (A := A) hSy (u := k) hkW
                                    obtain ⟨fs9, ho9⟩ := hSy.obj
                                    refine x_callVx C (n := 1) (qc := (RX7, TX7, 7)) (As := [vI ((k : Nat) : Int)]) (rest := []) hM9 gL_isSo_X7_parent (by decide +kernel) ho9 rfl rfl rfl rfl (Nat.le_of_ble_eq_true rfl) ⟨by decide, by decide⟩ ⟨(by first | omega | (dsimp only; omega)), (by first | omega | (dsimp only; omega))⟩ dL_isSo_277 hX9 (fun rv9 h9 hp9 => ?_)
                                    obtain ⟨rfl, he9⟩ := hP9 rv9 h9 hp9
                                    obtain rfl := he9.symm
                                    refine x_aload C dL_isSo_280 6 rfl ?_
                                    refine x_iconst C dL_isSo_282 5 (by decide) ?_
                                    refine x_iload C dL_isSo_283 10 rfl ?_
                                    refine x_imul C dL_isSo_285 ?_
                                    refine x_iconst C dL_isSo_286 3 (by decide) ?_
                                    refine x_iadd C dL_isSo_287 ?_
                                    refine x_iald C hw ⟨by omega, by omega⟩ (by decide) dL_isSo_288 ?_
                                    refine x_topv (show w (Int.toNat ((5 * (((k : Nat) : Int))) + 3)) = m 19 0 k from by rw [show Int.toNat (5 * ((k : Nat) : Int) + 3) = 5 * k + 3 by omega]; exact k4) ?_
                                    refine x_icmp_ne (tgt := 341) C dL_isSo_289 (by decide) (by omega) (by omega) (fun c43 => ?_) (fun c43 => ?_)
                                    · exfalso; omega
                                    · skip
                                      refine x_aload_n C dL_isSo_292 0 rfl ?_
                                      refine x_iload C dL_isSo_293 10 rfl ?_
                                      obtain ⟨P9, X9, hM9, hX9, hP9⟩ := k_line (l := kl κ) (A := A) hSy (u := k) hkW
                                      obtain ⟨fs9, ho9⟩ := hSy.obj
                                      refine x_callVx C (n := 1) (qc := (RX7, TX7, 7)) (As := [vI ((k : Nat) : Int)]) (rest := []) hM9 gL_isSo_X7_line (by decide +kernel) ho9 rfl rfl rfl rfl (Nat.le_of_ble_eq_true rfl) ⟨by decide, by decide⟩ ⟨(by first | omega | (dsimp only; omega)), (by first | omega | (dsimp only; omega))⟩ dL_isSo_295 hX9 (fun rv9 h9 hp9 => ?_)
                                      obtain ⟨rfl, he9⟩ := hP9 rv9 h9 hp9
                                      obtain rfl := he9.symm
                                      refine x_iload C dL_isSo_298 11 rfl ?_
                                      refine x_icmp_ne (tgt := 341) C dL_isSo_300 (by decide) (by omega) (by omega) (fun c44 => ?_) (fun c44 => ?_)
                                      · exfalso; omega
                                      · skip
                                        refine x_aload_n C dL_isSo_303 0 rfl ?_
                                        refine x_iload C dL_isSo_304 10 rfl ?_
                                        obtain ⟨P9, X9, hM9, hX9, hP9⟩ := k_stars (l := kl κ) (A := A) hSy (u := k) hkW
                                        obtain ⟨fs9, ho9⟩ := hSy.obj
                                        refine x_callVx C (n := 1) (qc := (RX7, TX7, 7)) (As := [vI ((k : Nat) : Int)]) (rest := []) hM9 gL_isSo_X7_stars (by decide +kernel) ho9 rfl rfl rfl rfl (Nat.le_of_ble_eq_true rfl) ⟨by decide, by decide⟩ ⟨(by first | omega | (dsimp only; omega)), (by first | omega | (dsimp only; omega))⟩ dL_isSo_306 hX9 (fun rv9 h9 hp9 => ?_)
                                        obtain ⟨rfl, he9⟩ := hP9 rv9 h9 hp9
                                        obtain rfl := he9.symm
                                        refine x_iload C dL_isSo_309 10 rfl ?_
                                        refine x_aload C dL_isSo_311 7 rfl ?_
                                        refine x_callSJ C (n := 2) (As := [vI ((k : Nat) : Int), .ref (ar 7)]) (rest := [vI (sumN (fun j => m 21 0 (6 * k + j)) 6)]) (c_L_stars (k := k) hp (by omega)) gL_isSo_L_stars (by decide +kernel) rfl rfl rfl (Nat.le_of_ble_eq_true rfl) ⟨by decide, by decide⟩ ⟨(by first | omega | (dsimp only; omega)), (by first | omega | (dsimp only; omega))⟩ dL_isSo_313 (fun rv45 h46 hp47 => ?_)
                                        obtain ⟨rfl, e48⟩ := hp47
                                        obtain rfl := e48.symm
                                        refine x_topv (show p (3 * k) + p (3 * k + 1) + p (3 * k + 2) = sumN (fun j => m 21 0 (6 * k + j)) 6 from by exact st_e (hPW k hkW)) ?_
                                        refine x_icmp_ne (tgt := 341) C dL_isSo_316 (by decide) (by omega) (by omega) (fun c49 => ?_) (fun c49 => ?_)
                                        · exfalso; omega
                                        · skip
                                          refine x_aload_n C dL_isSo_319 0 rfl ?_
                                          refine x_iload C dL_isSo_320 10 rfl ?_
                                          obtain ⟨P9, X9, hM9, hX9, hP9⟩ := k_record (l := kl κ) (A := A) hSy (u := k) hkW
                                          obtain ⟨fs9, ho9⟩ := hSy.obj
                                          refine x_callVx C (n := 1) (qc := (RX7, TX7, 7)) (As := [vI ((k : Nat) : Int)]) (rest := []) hM9 gL_isSo_X7_record (by decide +kernel) ho9 rfl rfl rfl rfl (Nat.le_of_ble_eq_true rfl) ⟨by decide, by decide⟩ ⟨(by first | omega | (dsimp only; omega)), (by first | omega | (dsimp only; omega))⟩ dL_isSo_322 hX9 (fun rv9 h9 hp9 => ?_)
                                          obtain ⟨rfl, he9⟩ := hP9 rv9 h9 hp9
                                          obtain rfl := he9.symm
                                          refine x_aload C dL_isSo_325 6 rfl ?_
                                          refine x_iconst C dL_isSo_327 5 (by decide) ?_
                                          refine x_iload C dL_isSo_328 10 rfl ?_
                                          refine x_imul C dL_isSo_330 ?_
                                          refine x_iconst C dL_isSo_331 4 (by decide) ?_
                                          refine x_iadd C dL_isSo_332 ?_
                                          refine x_iald C hw ⟨by omega, by omega⟩ (by decide) dL_isSo_333 ?_
                                          refine x_topv (show w (Int.toNat ((5 * (((k : Nat) : Int))) + 4)) = m 20 0 k from by rw [show Int.toNat (5 * ((k : Nat) : Int) + 4) = 5 * k + 4 by omega]; exact k5) ?_
                                          refine x_icmp_ne (tgt := 341) C dL_isSo_334 (by decide) (by omega) (by omega) (fun c50 => ?_) (fun c50 => ?_)
                                          · exfalso; omega
                                          · skip
                                            refine x_iconst C dL_isSo_337 1 (by decide) ?_
                                            refine x_goto (tgt := 342) C dL_isSo_338 (by decide) ?_
                                            refine x_istore C (ls' := [(0, .ref x), (1, .int zz), (2, .ref (ar 0)), (3, .ref (ar 1)), (4, .ref (ar 2)), (5, .ref (ar 5)), (6, .ref (ar 6)), (7, .ref (ar 7)), (8, .ref (ar 8)), (9, vI 1), (10, vI ((k : Nat) : Int)), (11, vI s), (12, vI ((i : Nat) : Int))]) dL_isSo_342 (by decide) rfl ?_
                                            refine x_iinc C (x := ((k : Nat) : Int)) (ls' := [(0, .ref x), (1, .int zz), (2, .ref (ar 0)), (3, .ref (ar 1)), (4, .ref (ar 2)), (5, .ref (ar 5)), (6, .ref (ar 6)), (7, .ref (ar 7)), (8, .ref (ar 8)), (9, vI 1), (10, vI ((((k : Nat) : Int)) + 1)), (11, vI s), (12, vI ((i : Nat) : Int))]) dL_isSo_344 10 rfl (by decide) rfl ?_
                                            refine x_goto (tgt := 193) C dL_isSo_347 (by decide) ?_
                                            refine x_sub [0, 1, 2, 3, 4, 5, 6, 7, 8, 9, 10] (ls' := [(0, .ref x), (1, .int zz), (2, .ref (ar 0)), (3, .ref (ar 1)), (4, .ref (ar 2)), (5, .ref (ar 5)), (6, .ref (ar 6)), (7, .ref (ar 7)), (8, .ref (ar 8)), (9, vI 1), (10, vI ((((k : Nat) : Int)) + 1))]) rfl ?_
                                            refine x_widen (m1 := 60 + 40 * (k + 1)) (m2 := 360 + 240 * (k + 1)) (by first | omega | (dsimp only; omega)) (by first | omega | (dsimp only; omega)) ?_
                                            exact ihWL (k + 1) (by omega) (by omega)
                              · skip
                                refine x_iload C dL_isSo_220 11 rfl ?_
                                refine x_iload C dL_isSo_222 10 rfl ?_
                                refine x_iload C dL_isSo_224 12 rfl ?_
                                refine x_aload C dL_isSo_226 6 rfl ?_
                                refine x_callSJ C (n := 3) (As := [vI ((k : Nat) : Int), vI ((i : Nat) : Int), .ref (ar 6)]) (rest := [vI s]) (c_L_line (W := W) hw (by omega) (⟨by omega, by omega⟩) (hpa)) gL_isSo_L_line (by decide +kernel) rfl rfl rfl (Nat.le_of_ble_eq_true rfl) ⟨by decide, by decide⟩ ⟨(by first | omega | (dsimp only; omega)), (by first | omega | (dsimp only; omega))⟩ dL_isSo_228 (fun rv51 h52 hp53 => ?_)
                                obtain ⟨rfl, e54⟩ := hp53
                                obtain rfl := e54.symm
                                refine x_topv (show bI (Anc (fun j => w (5 * j + 3) + 1) (fun j => j = k) (((i : Nat) : Int) + 1)) = lnM m k i from by exact ln_e hpar (fun j hj => (hpa j hj).2) (by omega)) ?_
                                refine x_iadd C dL_isSo_231 ?_
                                refine x_istore C (ls' := [(0, .ref x), (1, .int zz), (2, .ref (ar 0)), (3, .ref (ar 1)), (4, .ref (ar 2)), (5, .ref (ar 5)), (6, .ref (ar 6)), (7, .ref (ar 7)), (8, .ref (ar 8)), (9, vI 1), (10, vI ((k : Nat) : Int)), (11, vI (s + (lnM m k i))), (12, vI ((i : Nat) : Int))]) dL_isSo_232 (by decide) rfl ?_
                                refine x_iinc C (x := ((i : Nat) : Int)) (ls' := [(0, .ref x), (1, .int zz), (2, .ref (ar 0)), (3, .ref (ar 1)), (4, .ref (ar 2)), (5, .ref (ar 5)), (6, .ref (ar 6)), (7, .ref (ar 7)), (8, .ref (ar 8)), (9, vI 1), (10, vI ((k : Nat) : Int)), (11, vI (s + (lnM m k i))), (12, vI ((((i : Nat) : Int)) + 1))]) dL_isSo_234 12 rfl (by decide) rfl ?_
                                refine x_goto (tgt := 212) C dL_isSo_237 (by decide) ?_
                                exact ihSL (i + 1) (s + (lnM m k i)) (by omega) (by omega) (by rw [hs]; rfl)
                          exact SL (W + 1) 0 0 (by omega) (by omega) (rfl)
                  exact WL (W + 1) 0 (by omega) (by omega)
                · skip
                  have hkL : k < L := by omega
                  obtain ⟨k1, k2, k3, k4, k5, k6, k7, k8, k9, k10⟩ := hPL k hkL
                  obtain ⟨hA7, hf8, hst, hpr, hau⟩ := hSy.lev hPK hkL
                  obtain ⟨hn0, hn1, hn12⟩ := (hEB k hkL).1
                  have hf9 := hf8 zc
                  rw [k5 zc hzc9] at hf9
                  rw [k2] at hst
                  rw [k3] at hpr
                  refine x_iload C dL_isSo_71 9 rfl ?_
                  refine x_if_eq (tgt := 190) C dL_isSo_73 (by decide) (by omega) (fun c55 => ?_) (fun c55 => ?_)
                  · exfalso; omega
                  · skip
                    refine x_iload_n C dL_isSo_76 1 rfl ?_
                    refine x_iload C dL_isSo_77 10 rfl ?_
                    refine x_ishr C dL_isSo_79 _ rfl ?_
                    refine x_bipush C dL_isSo_80 96 (by decide) ?_
                    refine x_callSJ C (n := 2) (As := [.int (zz >>> ((iI (((k : Nat) : Int))) &&& 31)), vI 96]) (rest := []) (c_L_low (by omega)) gL_isSo_L_low (by decide +kernel) rfl rfl rfl (Nat.le_of_ble_eq_true rfl) ⟨by decide, by decide⟩ ⟨(by first | omega | (dsimp only; omega)), (by first | omega | (dsimp only; omega))⟩ dL_isSo_82 (fun rv56 h57 hp58 => ?_)
                    obtain ⟨rfl, e59, hr_82⟩ := hp58
                    obtain rfl := e59.symm
                    refine x_topv (show ((lowF (zz >>> ((iI (((k : Nat) : Int))) &&& 31)) 96 : Nat) : Int) = ((zc : Nat) : Int) from by rw [hzc]) ?_
                    refine x_istore C (ls' := [(0, .ref x), (1, .int zz), (2, .ref (ar 0)), (3, .ref (ar 1)), (4, .ref (ar 2)), (5, .ref (ar 5)), (6, .ref (ar 6)), (7, .ref (ar 7)), (8, .ref (ar 8)), (9, vI 1), (10, vI ((k : Nat) : Int)), (11, vI ((zc : Nat) : Int))]) dL_isSo_85 (by decide) rfl ?_
                    refine x_aload_n C dL_isSo_87 0 rfl ?_
                    refine x_iload C dL_isSo_88 10 rfl ?_
                    refine x_iload C dL_isSo_90 11 rfl ?_
                    obtain ⟨P9, X9, hM9, hX9, hP9⟩ := k_at (l := kl κ) (A := A) hSy (u := k) (z := ((zc : Nat) : Int)) hkL (by omega)
                    obtain ⟨fs9, ho9⟩ := hSy.obj
                    refine x_callVx C (n := 2) (qc := (RX7, TX7, 7)) (As := [vI ((k : Nat) : Int), vI ((zc : Nat) : Int)]) (rest := []) hM9 gL_isSo_X7_at (by decide +kernel) ho9 rfl rfl rfl rfl (Nat.le_of_ble_eq_true rfl) ⟨by decide, by decide⟩ ⟨(by first | omega | (dsimp only; omega)), (by first | omega | (dsimp only; omega))⟩ dL_isSo_92 hX9 (fun rv9 h9 hp9 => ?_)
                    obtain ⟨rfl, he9⟩ := hP9 rv9 h9 hp9
                    obtain rfl := he9.symm
                    refine x_aload_n C dL_isSo_95 3 rfl ?_
                    refine x_bipush C dL_isSo_96 6 (by decide) ?_
                    refine x_iload C dL_isSo_98 10 rfl ?_
                    refine x_imul C dL_isSo_100 ?_
                    refine x_iload C dL_isSo_101 11 rfl ?_
                    refine x_callSJ C (n := 3) (As := [.ref (ar 1), vI (6 * (((k : Nat) : Int))), vI ((zc : Nat) : Int)]) (rest := [vI (m 4 0 (96 * k + zc))]) (c_L_get hg (by omega) (by omega)) gL_isSo_L_get (by decide +kernel) rfl rfl rfl (Nat.le_of_ble_eq_true rfl) ⟨by decide, by decide⟩ ⟨(by first | omega | (dsimp only; omega)), (by first | omega | (dsimp only; omega))⟩ dL_isSo_103 (fun rv60 h61 hp62 => ?_)
                    obtain ⟨rfl, e63⟩ := hp62
                    obtain rfl := e63.symm
                    refine x_topv (show gk g (6 * (((k : Nat) : Int))).toNat zc = m 4 0 (96 * k + zc) from by rw [show (6 * ((k : Nat) : Int)).toNat = 6 * k by omega]; exact k5 zc hzc9) ?_
                    refine x_icmp_ne (tgt := 181) C dL_isSo_106 (by decide) (by omega) (by omega) (fun c64 => ?_) (fun c64 => ?_)
                    · exfalso; omega
                    · skip
                      refine x_aload_n C dL_isSo_109 0 rfl ?_
                      refine x_iload C dL_isSo_110 10 rfl ?_
                      obtain ⟨P9, X9, hM9, hX9, hP9⟩ := k_start (l := kl κ) (A := A) hSy (u := k) hkL
                      obtain ⟨fs9, ho9⟩ := hSy.obj
                      refine x_callVx C (n := 1) (qc := (RX7, TX7, 7)) (As := [vI ((k : Nat) : Int)]) (rest := []) hM9 gL_isSo_X7_start (by decide +kernel) ho9 rfl rfl rfl rfl (Nat.le_of_ble_eq_true rfl) ⟨by decide, by decide⟩ ⟨(by first | omega | (dsimp only; omega)), (by first | omega | (dsimp only; omega))⟩ dL_isSo_112 hX9 (fun rv9 h9 hp9 => ?_)
                      obtain ⟨rfl, he9⟩ := hP9 rv9 h9 hp9
                      obtain rfl := he9.symm
                      refine x_aload C dL_isSo_115 4 rfl ?_
                      refine x_iconst C dL_isSo_117 4 (by decide) ?_
                      refine x_iload C dL_isSo_118 10 rfl ?_
                      refine x_imul C dL_isSo_120 ?_
                      refine x_iconst C dL_isSo_121 1 (by decide) ?_
                      refine x_iadd C dL_isSo_122 ?_
                      refine x_iald C hl0 ⟨by omega, by omega⟩ (by decide) dL_isSo_123 ?_
                      refine x_topv (show l0 (Int.toNat ((4 * (((k : Nat) : Int))) + 1)) = m 5 0 k from by rw [show Int.toNat (4 * ((k : Nat) : Int) + 1) = 4 * k + 1 by omega]; exact k2) ?_
                      refine x_icmp_ne (tgt := 181) C dL_isSo_124 (by decide) (by omega) (by omega) (fun c65 => ?_) (fun c65 => ?_)
                      · exfalso; omega
                      · skip
                        refine x_aload_n C dL_isSo_127 0 rfl ?_
                        refine x_iload C dL_isSo_128 10 rfl ?_
                        obtain ⟨P9, X9, hM9, hX9, hP9⟩ := k_proof (l := kl κ) (A := A) hSy (u := k) hkL
                        obtain ⟨fs9, ho9⟩ := hSy.obj
                        refine x_callVx C (n := 1) (qc := (RX7, TX7, 7)) (As := [vI ((k : Nat) : Int)]) (rest := []) hM9 gL_isSo_X7_proof (by decide +kernel) ho9 rfl rfl rfl rfl (Nat.le_of_ble_eq_true rfl) ⟨by decide, by decide⟩ ⟨(by first | omega | (dsimp only; omega)), (by first | omega | (dsimp only; omega))⟩ dL_isSo_130 hX9 (fun rv9 h9 hp9 => ?_)
                        obtain ⟨rfl, he9⟩ := hP9 rv9 h9 hp9
                        obtain rfl := he9.symm
                        refine x_aload C dL_isSo_133 4 rfl ?_
                        refine x_iconst C dL_isSo_135 4 (by decide) ?_
                        refine x_iload C dL_isSo_136 10 rfl ?_
                        refine x_imul C dL_isSo_138 ?_
                        refine x_iconst C dL_isSo_139 2 (by decide) ?_
                        refine x_iadd C dL_isSo_140 ?_
                        refine x_iald C hl0 ⟨by omega, by omega⟩ (by decide) dL_isSo_141 ?_
                        refine x_topv (show l0 (Int.toNat ((4 * (((k : Nat) : Int))) + 2)) = m 6 0 k from by rw [show Int.toNat (4 * ((k : Nat) : Int) + 2) = 4 * k + 2 by omega]; exact k3) ?_
                        refine x_icmp_ne (tgt := 181) C dL_isSo_142 (by decide) (by omega) (by omega) (fun c66 => ?_) (fun c66 => ?_)
                        · exfalso; omega
                        · skip
                          refine x_aload_n C dL_isSo_145 0 rfl ?_
                          refine x_iload C dL_isSo_146 10 rfl ?_
                          refine x_iconst C dL_isSo_148 1 (by decide) ?_
                          obtain ⟨P9, X9, hM9, hX9, hP9⟩ := k_edits (l := kl κ) (A := A) hSy (u := k) (b := 1) hkL (by decide)
                          obtain ⟨fs9, ho9⟩ := hSy.obj
                          refine x_callVx C (n := 2) (qc := (RX7, TX7, 7)) (As := [vI ((k : Nat) : Int), vI 1]) (rest := []) hM9 gL_isSo_X7_edits (by decide +kernel) ho9 rfl rfl rfl rfl (Nat.le_of_ble_eq_true rfl) ⟨by decide, by decide⟩ ⟨(by first | omega | (dsimp only; omega)), (by first | omega | (dsimp only; omega))⟩ dL_isSo_149 hX9 (fun rv9 h9 hp9 => ?_)
                          obtain ⟨rfl, he9⟩ := hP9 rv9 h9 hp9
                          obtain rfl := he9.symm
                          refine x_topv (show (if (1 : Int) = 0 then m 11 0 k else m 8 0 k) = m 8 0 k from by rw [if_neg (by decide)]) ?_
                          refine x_aload C dL_isSo_152 5 rfl ?_
                          refine x_iload C dL_isSo_154 10 rfl ?_
                          refine x_iald C hn ⟨by omega, by omega⟩ (by decide) dL_isSo_156 ?_
                          refine x_topv (show n (Int.toNat (((k : Nat) : Int))) = m 8 0 k from by exact k6) ?_
                          refine x_icmp_ne (tgt := 181) C dL_isSo_157 (by decide) (by omega) (by omega) (fun c67 => ?_) (fun c67 => ?_)
                          · exfalso; omega
                          · skip
                            refine x_aload_n C dL_isSo_160 0 rfl ?_
                            refine x_iload C dL_isSo_161 10 rfl ?_
                            refine x_iconst C dL_isSo_163 0 (by decide) ?_
                            obtain ⟨P9, X9, hM9, hX9, hP9⟩ := k_edits (l := kl κ) (A := A) hSy (u := k) (b := 0) hkL (by decide)
                            obtain ⟨fs9, ho9⟩ := hSy.obj
                            refine x_callVx C (n := 2) (qc := (RX7, TX7, 7)) (As := [vI ((k : Nat) : Int), vI 0]) (rest := []) hM9 gL_isSo_X7_edits (by decide +kernel) ho9 rfl rfl rfl rfl (Nat.le_of_ble_eq_true rfl) ⟨by decide, by decide⟩ ⟨(by first | omega | (dsimp only; omega)), (by first | omega | (dsimp only; omega))⟩ dL_isSo_164 hX9 (fun rv9 h9 hp9 => ?_)
                            obtain ⟨rfl, he9⟩ := hP9 rv9 h9 hp9
                            obtain rfl := he9.symm
                            refine x_topv (show (if (0 : Int) = 0 then m 11 0 k else m 8 0 k) = m 11 0 k from by rw [if_pos rfl]) ?_
                            refine x_aload C dL_isSo_167 5 rfl ?_
                            refine x_iconst C dL_isSo_169 5 (by decide) ?_
                            refine x_iload C dL_isSo_170 10 rfl ?_
                            refine x_iadd C dL_isSo_172 ?_
                            refine x_iald C hn ⟨by omega, by omega⟩ (by decide) dL_isSo_173 ?_
                            refine x_topv (show n (Int.toNat (5 + (((k : Nat) : Int)))) = m 11 0 k from by rw [show Int.toNat (5 + ((k : Nat) : Int)) = 5 + k by omega]; exact k7) ?_
                            refine x_icmp_ne (tgt := 181) C dL_isSo_174 (by decide) (by omega) (by omega) (fun c68 => ?_) (fun c68 => ?_)
                            · exfalso; omega
                            · skip
                              refine x_iconst C dL_isSo_177 1 (by decide) ?_
                              refine x_goto (tgt := 182) C dL_isSo_178 (by decide) ?_
                              refine x_istore C (ls' := [(0, .ref x), (1, .int zz), (2, .ref (ar 0)), (3, .ref (ar 1)), (4, .ref (ar 2)), (5, .ref (ar 5)), (6, .ref (ar 6)), (7, .ref (ar 7)), (8, .ref (ar 8)), (9, vI 1), (10, vI ((k : Nat) : Int)), (11, vI ((zc : Nat) : Int))]) dL_isSo_182 (by decide) rfl ?_
                              refine x_iinc C (x := ((k : Nat) : Int)) (ls' := [(0, .ref x), (1, .int zz), (2, .ref (ar 0)), (3, .ref (ar 1)), (4, .ref (ar 2)), (5, .ref (ar 5)), (6, .ref (ar 6)), (7, .ref (ar 7)), (8, .ref (ar 8)), (9, vI 1), (10, vI ((((k : Nat) : Int)) + 1)), (11, vI ((zc : Nat) : Int))]) dL_isSo_184 10 rfl (by decide) rfl ?_
                              refine x_goto (tgt := 63) C dL_isSo_187 (by decide) ?_
                              refine x_sub [0, 1, 2, 3, 4, 5, 6, 7, 8, 9, 10] (ls' := [(0, .ref x), (1, .int zz), (2, .ref (ar 0)), (3, .ref (ar 1)), (4, .ref (ar 2)), (5, .ref (ar 5)), (6, .ref (ar 6)), (7, .ref (ar 7)), (8, .ref (ar 8)), (9, vI 1), (10, vI ((((k : Nat) : Int)) + 1))]) rfl ?_
                              refine x_widen (m1 := 3 + 8 * (k + 1)) (m2 := 18 + 48 * (k + 1)) (by first | omega | (dsimp only; omega)) (by first | omega | (dsimp only; omega)) ?_
                              exact ihLL (k + 1) (by omega) (by omega)
            exact LL (L + 1) 0 (by omega) (by omega)


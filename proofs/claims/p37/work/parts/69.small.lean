/-! ===== has, line, stars, begins, lays ===== -/
theorem g2_b {Q : Prop} {s : Int} (h : (s = 0 ∨ s = 1) ∧ (s = 1 ↔ Q)) : s = bI Q := by
  rcases h.1 with q | q
  · rw [bI_f (fun z => by have := h.2.mpr z; omega)]; exact q
  · rw [bI_t (h.2.mp q)]; exact q

set_option maxRecDepth 100000 in
set_option maxHeartbeats 1000000 in
theorem c_L_has {l : Launch} {D : va_G} {A : Nat → Prop} {h : vh} {gA : Nat} {g : Nat → Int64} {kd o : Int} (hg : h gA = some (eJ D 60 g)) (ho : 0 ≤ o ∧ o ≤ 54) (hkd : 0 ≤ kd ∧ kd ≤ 20) : MX l D A yL_has wsL_has { frames := 1, cells := 0, slots := 0, locals := 22 } [vI kd, vI o, .ref gA] h (fun rv h' => rv = some (vI (bI (∃ j, j < 96 ∧ gk g o.toNat j = kd))) ∧ h' = h) := by
  refine MX.of (cc := cL_has) (maxL := 5) (ret := (some .boolean)) [(0, vI kd), (1, vI o), (2, .ref gA)] (by decide +kernel) rfl rfl (Nat.le_of_ble_eq_true rfl) ?_
  intro κ C hkl G
  subst hkl
  have C : CX κ "LedgeLevelsLaw" "has" cL_has wsL_has { frames := 1, cells := 0, slots := 0, locals := 22 } D A 5 := C
  have hiz : nq (D.1 20) (D.1 21) := cx_iz C
  refine x_iconst C dL_has_0 0 (by decide) ?_
  refine x_istore_n C (ls' := [(0, vI kd), (1, vI o), (2, .ref gA), (3, vI 0)]) dL_has_1 (by decide) rfl ?_
  refine x_iconst C dL_has_2 0 (by decide) ?_
  refine x_istore C (ls' := [(0, vI kd), (1, vI o), (2, .ref gA), (3, vI 0), (4, vI 0)]) dL_has_3 (by decide) rfl ?_
  have LP : ∀ (N : Nat) (s : Int) (n : Nat)   (hn : n ≤ 96) (hN : 96 - n < N) (hg2 : (s = 0 ∨ s = 1) ∧ (s = 1 ↔ ∃ j, j < n ∧ gk g o.toNat j = kd)), X κ 0 0 h [(0, vI kd), (1, vI o), (2, .ref gA), (3, vI s), (4, vI ((n : Nat) : Int))] 5 [] := by
    intro N
    induction N with
    | zero => intro s n hn hN hg2; exfalso; omega
    | succ N ihLP =>
      intro s n hn hN hg2
      have hr9 := gk_r (g := g) (o := o.toNat) (z := n)
      refine x_iload C dL_has_5 4 rfl ?_
      refine x_bipush C dL_has_7 96 (by decide) ?_
      refine x_icmp_ge (tgt := 39) C dL_has_9 (by decide) (by omega) (by omega) (fun c2 => ?_) (fun c2 => ?_)
      · skip
        refine x_iload_n C dL_has_39 3 rfl ?_
        refine x_zret C G dL_has_40 (by rcases hg2.1 with q9 | q9 <;> rw [q9] <;> simp) ?_ (by decide) (by decide)
        obtain rfl : n = 96 := by omega
        exact ⟨svI (g2_b hg2), rfl⟩
      · skip
        refine x_iload_n C dL_has_12 3 rfl ?_
        refine x_if_ne (tgt := 27) C dL_has_13 (by decide) (by omega) (fun c3 => ?_) (fun c3 => ?_)
        · skip
          refine x_iconst C dL_has_27 1 (by decide) ?_
          refine x_goto (tgt := 32) C dL_has_28 (by decide) ?_
          refine x_istore_n C (ls' := [(0, vI kd), (1, vI o), (2, .ref gA), (3, vI 1), (4, vI ((n : Nat) : Int))]) dL_has_32 (by decide) rfl ?_
          refine x_iinc C (x := ((n : Nat) : Int)) (ls' := [(0, vI kd), (1, vI o), (2, .ref gA), (3, vI 1), (4, vI ((((n : Nat) : Int)) + 1))]) dL_has_33 4 rfl (by decide) rfl ?_
          refine x_goto (tgt := 5) C dL_has_36 (by decide) ?_
          exact ihLP 1 (n + 1) (by omega) (by omega) (by first | exact g2_old hg2 (by assumption) | exact g2_new (P := fun j => gk g o.toNat j = kd) (by assumption) | exact g2_no hg2 (by omega) (by assumption))
        · skip
          refine x_aload_n C dL_has_16 2 rfl ?_
          refine x_iload_n C dL_has_17 1 rfl ?_
          refine x_iload C dL_has_18 4 rfl ?_
          refine x_callSJ C (n := 3) (As := [.ref gA, vI o, vI ((n : Nat) : Int)]) (rest := []) (c_L_get hg (by omega) (by omega)) gL_has_L_get (by decide +kernel) rfl rfl rfl (Nat.le_of_ble_eq_true rfl) ⟨by decide, by decide⟩ ⟨(by decide), (by decide)⟩ dL_has_20 (fun rv4 h5 hp6 => ?_)
          obtain ⟨rfl, e7⟩ := hp6
          obtain rfl := e7.symm
          refine x_topv (show gk g o.toNat n = gk g o.toNat n from by rfl) ?_
          refine x_iload_n C dL_has_23 0 rfl ?_
          refine x_icmp_ne (tgt := 31) C dL_has_24 (by decide) (by omega) (by omega) (fun c8 => ?_) (fun c8 => ?_)
          · skip
            refine x_iconst C dL_has_31 0 (by decide) ?_
            refine x_istore_n C (ls' := [(0, vI kd), (1, vI o), (2, .ref gA), (3, vI 0), (4, vI ((n : Nat) : Int))]) dL_has_32 (by decide) rfl ?_
            refine x_iinc C (x := ((n : Nat) : Int)) (ls' := [(0, vI kd), (1, vI o), (2, .ref gA), (3, vI 0), (4, vI ((((n : Nat) : Int)) + 1))]) dL_has_33 4 rfl (by decide) rfl ?_
            refine x_goto (tgt := 5) C dL_has_36 (by decide) ?_
            exact ihLP 0 (n + 1) (by omega) (by omega) (by first | exact g2_old hg2 (by assumption) | exact g2_new (P := fun j => gk g o.toNat j = kd) (by assumption) | exact g2_no hg2 (by omega) (by assumption))
          · skip
            refine x_iconst C dL_has_27 1 (by decide) ?_
            refine x_goto (tgt := 32) C dL_has_28 (by decide) ?_
            refine x_istore_n C (ls' := [(0, vI kd), (1, vI o), (2, .ref gA), (3, vI 1), (4, vI ((n : Nat) : Int))]) dL_has_32 (by decide) rfl ?_
            refine x_iinc C (x := ((n : Nat) : Int)) (ls' := [(0, vI kd), (1, vI o), (2, .ref gA), (3, vI 1), (4, vI ((((n : Nat) : Int)) + 1))]) dL_has_33 4 rfl (by decide) rfl ?_
            refine x_goto (tgt := 5) C dL_has_36 (by decide) ?_
            exact ihLP 1 (n + 1) (by omega) (by omega) (by first | exact g2_old hg2 (by assumption) | exact g2_new (P := fun j => gk g o.toNat j = kd) (by assumption) | exact g2_no hg2 (by omega) (by assumption))
  exact LP (97) 0 0 (by omega) (by omega) (⟨Or.inl rfl, fun q9 => absurd q9 (by decide), fun q9 => by obtain ⟨j, j1, _⟩ := q9; omega⟩)

set_option maxRecDepth 100000 in
set_option maxHeartbeats 1000000 in
theorem c_L_line {l : Launch} {D : va_G} {A : Nat → Prop} {h : vh} {wA k i W : Nat} {w : Nat → Int} (hw : h wA = some (eI D 25 w)) (hk : k < 5) (hi : i < W ∧ W ≤ 5) (hP : ∀ j, j < W → -1 ≤ w (5 * j + 3) ∧ w (5 * j + 3) < (j : Int)) : MX l D A yL_line wsL_line { frames := 0, cells := 0, slots := 0, locals := 0 } [vI ((k : Nat) : Int), vI ((i : Nat) : Int), .ref wA] h (fun rv h' => rv = some (vI (bI (Anc (fun j => w (5 * j + 3) + 1) (fun j => j = k) (((i : Nat) : Int) + 1)))) ∧ h' = h) := by
  refine MX.of (cc := cL_line) (maxL := 4) (ret := (some .int)) [(0, vI ((k : Nat) : Int)), (1, vI ((i : Nat) : Int)), (2, .ref wA)] (by decide +kernel) rfl rfl (Nat.le_of_ble_eq_true rfl) ?_
  intro κ C hkl G
  subst hkl
  have C : CX κ "LedgeLevelsLaw" "line" cL_line wsL_line { frames := 0, cells := 0, slots := 0, locals := 0 } D A 4 := C
  have hiz : nq (D.1 20) (D.1 21) := cx_iz C
  refine x_iload_n C dL_line_0 1 rfl ?_
  refine x_istore_n C (ls' := [(0, vI ((k : Nat) : Int)), (1, vI ((i : Nat) : Int)), (2, .ref wA), (3, vI ((i : Nat) : Int))]) dL_line_1 (by decide) rfl ?_
  have LP : ∀ (N : Nat) (z : Int)   (hz : -1 ≤ z ∧ z < (W : Int) ∧ z + 1 < (N : Int)) (hA9 : Anc (fun j => w (5 * j + 3) + 1) (fun j => j = k) (((i : Nat) : Int) + 1) ↔ Anc (fun j => w (5 * j + 3) + 1) (fun j => j = k) (z + 1)), X κ 0 0 h [(0, vI ((k : Nat) : Int)), (1, vI ((i : Nat) : Int)), (2, .ref wA), (3, vI z)] 2 [] := by
    intro N
    induction N with
    | zero => intro z hz hA9; exfalso; omega
    | succ N ihLP =>
      intro z hz hA9
      have hPz := hP z.toNat
      refine x_iload_n C dL_line_2 3 rfl ?_
      refine x_if_lt (tgt := 22) C dL_line_3 (by decide) (by omega) (fun c2 => ?_) (fun c2 => ?_)
      · skip
        refine x_iload_n C dL_line_22 3 rfl ?_
        refine x_if_ge (tgt := 30) C dL_line_23 (by decide) (by omega) (fun c3 => ?_) (fun c3 => ?_)
        · skip
          refine x_iconst C dL_line_30 1 (by decide) ?_
          refine x_iret C G dL_line_31 ?_ (by decide) (by decide)
          first
            | (exfalso; omega)
            | (have hz9 : z + 1 = 0 := by omega
               rw [hz9] at hA9
               exact ⟨svI (by rw [bI_f (fun q9 => Anc_0 (hA9.mp q9))]), rfl⟩)
            | (have ez : z + 1 = ((z.toNat : Nat) : Int) + 1 := by omega
               rw [ez] at hA9
               exact ⟨svI (by rw [bI_t (hA9.mpr (Anc_s.mpr (Or.inl (show z.toNat = k by omega))))]), rfl⟩)
        · skip
          refine x_iconst C dL_line_26 0 (by decide) ?_
          refine x_goto (tgt := 31) C dL_line_27 (by decide) ?_
          refine x_iret C G dL_line_31 ?_ (by decide) (by decide)
          first
            | (exfalso; omega)
            | (have hz9 : z + 1 = 0 := by omega
               rw [hz9] at hA9
               exact ⟨svI (by rw [bI_f (fun q9 => Anc_0 (hA9.mp q9))]), rfl⟩)
            | (have ez : z + 1 = ((z.toNat : Nat) : Int) + 1 := by omega
               rw [ez] at hA9
               exact ⟨svI (by rw [bI_t (hA9.mpr (Anc_s.mpr (Or.inl (show z.toNat = k by omega))))]), rfl⟩)
      · skip
        refine x_iload_n C dL_line_6 3 rfl ?_
        refine x_iload_n C dL_line_7 0 rfl ?_
        refine x_icmp_eq (tgt := 22) C dL_line_8 (by decide) (by omega) (by omega) (fun c4 => ?_) (fun c4 => ?_)
        · skip
          refine x_iload_n C dL_line_22 3 rfl ?_
          refine x_if_ge (tgt := 30) C dL_line_23 (by decide) (by omega) (fun c5 => ?_) (fun c5 => ?_)
          · skip
            refine x_iconst C dL_line_30 1 (by decide) ?_
            refine x_iret C G dL_line_31 ?_ (by decide) (by decide)
            first
              | (exfalso; omega)
              | (have hz9 : z + 1 = 0 := by omega
                 rw [hz9] at hA9
                 exact ⟨svI (by rw [bI_f (fun q9 => Anc_0 (hA9.mp q9))]), rfl⟩)
              | (have ez : z + 1 = ((z.toNat : Nat) : Int) + 1 := by omega
                 rw [ez] at hA9
                 exact ⟨svI (by rw [bI_t (hA9.mpr (Anc_s.mpr (Or.inl (show z.toNat = k by omega))))]), rfl⟩)
          · skip
            refine x_iconst C dL_line_26 0 (by decide) ?_
            refine x_goto (tgt := 31) C dL_line_27 (by decide) ?_
            refine x_iret C G dL_line_31 ?_ (by decide) (by decide)
            first
              | (exfalso; omega)
              | (have hz9 : z + 1 = 0 := by omega
                 rw [hz9] at hA9
                 exact ⟨svI (by rw [bI_f (fun q9 => Anc_0 (hA9.mp q9))]), rfl⟩)
              | (have ez : z + 1 = ((z.toNat : Nat) : Int) + 1 := by omega
                 rw [ez] at hA9
                 exact ⟨svI (by rw [bI_t (hA9.mpr (Anc_s.mpr (Or.inl (show z.toNat = k by omega))))]), rfl⟩)
        · skip
          refine x_aload_n C dL_line_11 2 rfl ?_
          refine x_iconst C dL_line_12 5 (by decide) ?_
          refine x_iload_n C dL_line_13 3 rfl ?_
          refine x_imul C dL_line_14 ?_
          refine x_iconst C dL_line_15 3 (by decide) ?_
          refine x_iadd C dL_line_16 ?_
          refine x_iald C hw ⟨by omega, by omega⟩ (by decide) dL_line_17 ?_
          refine x_topv (show w (Int.toNat ((5 * z) + 3)) = w (5 * z.toNat + 3) from by rw [show Int.toNat ((5 * z) + 3) = 5 * z.toNat + 3 by omega]) ?_
          refine x_istore_n C (ls' := [(0, vI ((k : Nat) : Int)), (1, vI ((i : Nat) : Int)), (2, .ref wA), (3, vI (w (5 * z.toNat + 3)))]) dL_line_18 (by decide) rfl ?_
          refine x_goto (tgt := 2) C dL_line_19 (by decide) ?_
          exact ihLP (w (5 * z.toNat + 3)) (by omega) (by have ez : z + 1 = ((z.toNat : Nat) : Int) + 1 := (by omega); rw [ez] at hA9; exact hA9.trans (Anc_s.trans ⟨fun q9 => q9.resolve_left (fun y9 => by omega), Or.inr⟩))
  exact LP ((i + 2)) (((i : Nat) : Int)) (by omega) (Iff.rfl)

set_option maxRecDepth 100000 in
set_option maxHeartbeats 1000000 in
theorem c_L_stars {l : Launch} {D : va_G} {A : Nat → Prop} {h : vh} {pA k : Nat} {p : Nat → Int} (hp : h pA = some (eI D 15 p)) (hk : k < 5) : MX l D A yL_stars wsL_stars { frames := 0, cells := 0, slots := 0, locals := 0 } [vI ((k : Nat) : Int), .ref pA] h (fun rv h' => rv = some (vI (p (3 * k) + p (3 * k + 1) + p (3 * k + 2))) ∧ h' = h) := by
  refine MX.of (cc := cL_stars) (maxL := 2) (ret := (some .int)) [(0, vI ((k : Nat) : Int)), (1, .ref pA)] (by decide +kernel) rfl rfl (Nat.le_of_ble_eq_true rfl) ?_
  intro κ C hkl G
  subst hkl
  have C : CX κ "LedgeLevelsLaw" "stars" cL_stars wsL_stars { frames := 0, cells := 0, slots := 0, locals := 0 } D A 2 := C
  have hiz : nq (D.1 20) (D.1 21) := cx_iz C
  refine x_aload_n C dL_stars_0 1 rfl ?_
  refine x_iconst C dL_stars_1 3 (by decide) ?_
  refine x_iload_n C dL_stars_2 0 rfl ?_
  refine x_imul C dL_stars_3 ?_
  refine x_iald C hp ⟨by omega, by omega⟩ (by decide) dL_stars_4 ?_
  refine x_topv (show p (Int.toNat (3 * (((k : Nat) : Int)))) = p (3 * k) from by rw [show Int.toNat (3 * ((k : Nat) : Int)) = 3 * k by omega]) ?_
  refine x_aload_n C dL_stars_5 1 rfl ?_
  refine x_iconst C dL_stars_6 3 (by decide) ?_
  refine x_iload_n C dL_stars_7 0 rfl ?_
  refine x_imul C dL_stars_8 ?_
  refine x_iconst C dL_stars_9 1 (by decide) ?_
  refine x_iadd C dL_stars_10 ?_
  refine x_iald C hp ⟨by omega, by omega⟩ (by decide) dL_stars_11 ?_
  refine x_topv (show p (Int.toNat ((3 * (((k : Nat) : Int))) + 1)) = p (3 * k + 1) from by rw [show Int.toNat (3 * ((k : Nat) : Int) + 1) = 3 * k + 1 by omega]) ?_
  refine x_iadd C dL_stars_12 ?_
  refine x_aload_n C dL_stars_13 1 rfl ?_
  refine x_iconst C dL_stars_14 3 (by decide) ?_
  refine x_iload_n C dL_stars_15 0 rfl ?_
  refine x_imul C dL_stars_16 ?_
  refine x_iconst C dL_stars_17 2 (by decide) ?_
  refine x_iadd C dL_stars_18 ?_
  refine x_iald C hp ⟨by omega, by omega⟩ (by decide) dL_stars_19 ?_
  refine x_topv (show p (Int.toNat ((3 * (((k : Nat) : Int))) + 2)) = p (3 * k + 2) from by rw [show Int.toNat (3 * ((k : Nat) : Int) + 2) = 3 * k + 2 by omega]) ?_
  refine x_iadd C dL_stars_20 ?_
  refine x_iret C G dL_stars_21 ?_ (by decide) (by decide)
  exact ⟨rfl, rfl⟩

def lB (l : Nat → Int) (n : Nat) (au st pa : Int) : Nat → Int := fu (fu (fu (fu l (4 * n) au) (4 * n + 1) st) (4 * n + 2) (-2)) (4 * n + 3) pa

set_option maxRecDepth 100000 in
set_option maxHeartbeats 1000000 in
theorem c_L_begins {l : Launch} {D : va_G} {A : Nat → Prop} {h : vh} {qA lA n : Nat} {q f0 : Nat → Int} {au st pa : Int} (hq : h qA = some (eI D 5 q)) (hl : h lA = some (eI D 20 f0)) (hn : q 0 = ((n : Nat) : Int) ∧ n < 5) : MX l D A yL_begins wsL_begins { frames := 0, cells := 0, slots := 0, locals := 0 } [vI au, vI st, vI pa, .ref qA, .ref lA] h (fun rv h' => rv = some (vI ((n : Nat) : Int)) ∧ h' = hu (hu h lA (eI D 20 (lB f0 n au st pa))) qA (eI D 5 (fu q 0 (((n + 1 : Nat)) : Int)))) := by
  refine MX.of (cc := cL_begins) (maxL := 6) (ret := (some .int)) [(0, vI au), (1, vI st), (2, vI pa), (3, .ref qA), (4, .ref lA)] (by decide +kernel) rfl rfl (Nat.le_of_ble_eq_true rfl) ?_
  intro κ C hkl G
  subst hkl
  have C : CX κ "LedgeLevelsLaw" "begins" cL_begins wsL_begins { frames := 0, cells := 0, slots := 0, locals := 0 } D A 6 := C
  have hiz : nq (D.1 20) (D.1 21) := cx_iz C
  have hn1 := hn.1
  refine x_iconst C dL_begins_0 4 (by decide) ?_
  refine x_aload_n C dL_begins_1 3 rfl ?_
  refine x_iconst C dL_begins_2 0 (by decide) ?_
  refine x_iald C hq ⟨by omega, by omega⟩ (by decide) dL_begins_3 ?_
  refine x_topv (show q (Int.toNat 0) = ((n : Nat) : Int) from by exact hn1) ?_
  refine x_imul C dL_begins_4 ?_
  refine x_istore C (ls' := [(0, vI au), (1, vI st), (2, vI pa), (3, .ref qA), (4, .ref lA), (5, vI (4 * (((n : Nat) : Int))))]) dL_begins_5 (by decide) rfl ?_
  refine x_aload C dL_begins_7 4 rfl ?_
  refine x_iload C dL_begins_9 5 rfl ?_
  refine x_iload_n C dL_begins_11 0 rfl ?_
  refine x_iast C hl ⟨by omega, by omega⟩ (by decide) dL_begins_12 (x_hn (fun h1 e2 => ?_))
  have f3 : h1 lA = some (eI D 20 (fu f0 (Int.toNat (4 * (((n : Nat) : Int)))) au)) := by rw [e2]; exact hu_s
  refine x_aload C dL_begins_13 4 rfl ?_
  refine x_iload C dL_begins_15 5 rfl ?_
  refine x_iconst C dL_begins_17 1 (by decide) ?_
  refine x_iadd C dL_begins_18 ?_
  refine x_iload_n C dL_begins_19 1 rfl ?_
  refine x_iast C f3 ⟨by omega, by omega⟩ (by decide) dL_begins_20 (x_hn (fun h4 e5 => ?_))
  have f6 : h4 lA = some (eI D 20 (fu (fu f0 (Int.toNat (4 * (((n : Nat) : Int)))) au) (Int.toNat ((4 * (((n : Nat) : Int))) + 1)) st)) := by rw [e5]; exact hu_s
  refine x_aload C dL_begins_21 4 rfl ?_
  refine x_iload C dL_begins_23 5 rfl ?_
  refine x_iconst C dL_begins_25 2 (by decide) ?_
  refine x_iadd C dL_begins_26 ?_
  refine x_bipush C dL_begins_27 (-2) (by decide) ?_
  refine x_iast C f6 ⟨by omega, by omega⟩ (by decide) dL_begins_29 (x_hn (fun h7 e8 => ?_))
  have f9 : h7 lA = some (eI D 20 (fu (fu (fu f0 (Int.toNat (4 * (((n : Nat) : Int)))) au) (Int.toNat ((4 * (((n : Nat) : Int))) + 1)) st) (Int.toNat ((4 * (((n : Nat) : Int))) + 2)) ((-2)))) := by rw [e8]; exact hu_s
  refine x_aload C dL_begins_30 4 rfl ?_
  refine x_iload C dL_begins_32 5 rfl ?_
  refine x_iconst C dL_begins_34 3 (by decide) ?_
  refine x_iadd C dL_begins_35 ?_
  refine x_iload_n C dL_begins_36 2 rfl ?_
  refine x_iast C f9 ⟨by omega, by omega⟩ (by decide) dL_begins_37 (x_hn (fun h10 e11 => ?_))
  have f12 : h10 lA = some (eI D 20 (fu (fu (fu (fu f0 (Int.toNat (4 * (((n : Nat) : Int)))) au) (Int.toNat ((4 * (((n : Nat) : Int))) + 1)) st) (Int.toNat ((4 * (((n : Nat) : Int))) + 2)) ((-2))) (Int.toNat ((4 * (((n : Nat) : Int))) + 3)) pa)) := by rw [e11]; exact hu_s
  refine x_aload_n C dL_begins_38 3 rfl ?_
  refine x_iconst C dL_begins_39 0 (by decide) ?_
  refine x_dup2 C dL_begins_40 rfl rfl ?_
  have n14 : nq qA lA := vnt hq hl (p := (0, 5)) (q := (0, 20)) rfl rfl (by decide)
  have f13 : h1 qA = some (eI D 5 q) := by rw [e2, hu_n n14]; exact hq
  have f15 : h4 qA = some (eI D 5 q) := by rw [e5, hu_n n14]; exact f13
  have f16 : h7 qA = some (eI D 5 q) := by rw [e8, hu_n n14]; exact f15
  have f17 : h10 qA = some (eI D 5 q) := by rw [e11, hu_n n14]; exact f16
  refine x_iald C f17 ⟨by omega, by omega⟩ (by decide) dL_begins_41 ?_
  refine x_topv (show q (Int.toNat 0) = ((n : Nat) : Int) from by exact hn1) ?_
  refine x_iconst C dL_begins_42 1 (by decide) ?_
  refine x_iadd C dL_begins_43 ?_
  refine x_iast C f17 ⟨by omega, by omega⟩ (by decide) dL_begins_44 (x_hn (fun h18 e19 => ?_))
  have f20 : h18 qA = some (eI D 5 (fu q (Int.toNat 0) ((((n : Nat) : Int)) + 1))) := by rw [e19]; exact hu_s
  refine x_aload_n C dL_begins_45 3 rfl ?_
  refine x_iconst C dL_begins_46 0 (by decide) ?_
  refine x_iald C f20 ⟨by omega, by omega⟩ (by decide) dL_begins_47 ?_
  refine x_topv (show (fu q (Int.toNat 0) ((((n : Nat) : Int)) + 1)) (Int.toNat 0) = ((n + 1 : Nat) : Int) from by rw [show Int.toNat 0 = 0 from rfl, fu_s]; rfl) ?_
  refine x_iconst C dL_begins_48 1 (by decide) ?_
  refine x_isub C dL_begins_49 ?_
  refine x_iret C G dL_begins_50 ?_ (by decide) (by decide)
  refine ⟨svI (by omega), ?_⟩
  rw [e19, e11, e8, e5, e2]
  unfold lB
  rw [show Int.toNat (4 * ((n : Nat) : Int)) = 4 * n by omega, show Int.toNat (4 * ((n : Nat) : Int) + 1) = 4 * n + 1 by omega, show Int.toNat (4 * ((n : Nat) : Int) + 2) = 4 * n + 2 by omega, show Int.toNat (4 * ((n : Nat) : Int) + 3) = 4 * n + 3 by omega]
  simp only [hu_u]
  rfl

def rL (r : Nat → Int) (p : Nat) (x : B4) : Nat → Int := fu (fu (fu (fu r (6 * p) x.2.2.2) (6 * p + 2) x.1) (6 * p + 3) x.2.1) (6 * p + 4) ((x.2.2.1 : Nat) : Int)
def wL (w : Nat → Int) (k : Nat) (s n : Int) : Nat → Int := fu w (5 * k + 4) (if s = 2 ∧ (w (5 * k + 4) < 0 ∨ n < w (5 * k + 4)) then n else w (5 * k + 4))
theorem rL_v {r : Nat → Int} {p : Nat} {x : B4} : rL r p x (6 * p) = x.2.2.2 ∧ rL r p x (6 * p + 1) = r (6 * p + 1) ∧ rL r p x (6 * p + 2) = x.1 ∧ rL r p x (6 * p + 3) = x.2.1 ∧ rL r p x (6 * p + 4) = ((x.2.2.1 : Nat) : Int) ∧ rL r p x (6 * p + 5) = r (6 * p + 5) := by
  unfold rL fu
  refine ⟨?_, ?_, ?_, ?_, ?_, ?_⟩ <;> simp <;> omega

theorem hu2_of {h h' : vh} {a b : Nat} {x y : va_E} (ha : h' a = some x) (hb : h' b = some y) (fr : ∀ q, q ≠ a → q ≠ b → h' q = h q) : h' = hu (hu h a x) b y := by
  funext q
  by_cases q1 : q = b
  · rw [q1, hu_s]; exact hb
  · rw [hu_n q1]
    by_cases q2 : q = a
    · rw [q2, hu_s]; exact ha
    · rw [hu_n q2]; exact fr q q2 q1

theorem kL_lays_0 : Cond.constant "LedgeLevelsLaw" 54 (32768) ∈ wsL_lays := by decide +kernel
set_option maxRecDepth 100000 in
set_option maxHeartbeats 1000000 in
theorem c_L_lays {l : Launch} {D : va_G} {A : Nat → Prop} {h : vh} {wA rA p k : Nat} {w r : Nat → Int} {b n : Int} {x : B4} (hw : h wA = some (eI D 25 w)) (hr : h rA = some (eI D 18 r)) (hb : b = encB x) (hx : bOK x) (hx3 : b123 x) (hp : p < 3) (hk : r (6 * p + 1) = ((k : Nat) : Int) ∧ k < 5) (hn : r (6 * p + 5) = n ∧ 0 ≤ n ∧ n ≤ 1000) (hwr : -1 ≤ w (5 * k + 4) ∧ w (5 * k + 4) ≤ 1000) : MX l D A yL_lays wsL_lays { frames := 0, cells := 0, slots := 0, locals := 0 } [vI ((p : Nat) : Int), vI b, .ref wA, .ref rA] h (fun rv h' => rv = some (vI (kpR x)) ∧ h' = hu (hu h rA (eI D 18 (rL r p x))) wA (eI D 25 (wL w k x.2.2.2 n))) := by
  refine MX.of (cc := cL_lays) (maxL := 6) (ret := (some .int)) [(0, vI ((p : Nat) : Int)), (1, vI b), (2, .ref wA), (3, .ref rA)] (by decide +kernel) rfl rfl (Nat.le_of_ble_eq_true rfl) ?_
  intro κ C hkl G
  subst hkl
  have C : CX κ "LedgeLevelsLaw" "lays" cL_lays wsL_lays { frames := 0, cells := 0, slots := 0, locals := 0 } D A 6 := C
  have hiz : nq (D.1 20) (D.1 21) := cx_iz C
  obtain ⟨t1, t2, t3, t4, t5, t6, t7⟩ := hx
  have hx2 : b = x.1 + 128 * (x.2.1 + 4) + 1024 * ((x.2.2.1 : Nat) : Int) + stK x.2.2.2 := hb
  have hk3 : (x.2.2.2 = 1 ∧ stK x.2.2.2 = 0) ∨ (x.2.2.2 = 2 ∧ stK x.2.2.2 = 16384) ∨ (x.2.2.2 = 3 ∧ stK x.2.2.2 = 32768) := by
    rcases hx3 with q9 | q9 | q9 <;> rw [q9] <;> simp [stK]
  have hk1 := hk.1
  have hn1 := hn.1
  have ee0 : Int.toNat (6 * ((p : Nat) : Int)) = 6 * p := by omega
  have ee1 : Int.toNat (6 * ((p : Nat) : Int) + 1) = 6 * p + 1 := by omega
  have ee2 : Int.toNat (6 * ((p : Nat) : Int) + 2) = 6 * p + 2 := by omega
  have ee3 : Int.toNat (6 * ((p : Nat) : Int) + 3) = 6 * p + 3 := by omega
  have ee4 : Int.toNat (6 * ((p : Nat) : Int) + 4) = 6 * p + 4 := by omega
  have ee5 : Int.toNat (6 * ((p : Nat) : Int) + 5) = 6 * p + 5 := by omega
  have hv9 := rL_v (r := r) (p := p) (x := x)
  have C1 : ∀ (h1 : vh)  (uw : h1 wA = some (eI D 25 w)) (ur : h1 rA = some (eI D 18 (fu r (6 * p) x.2.2.2))) (hfr : ∀ q9, q9 ≠ rA → h1 q9 = h q9), X κ 0 0 h1 [(0, vI ((p : Nat) : Int)), (1, vI b), (2, .ref wA), (3, .ref rA), (4, vI (6 * ((p : Nat) : Int)))] 32 [] := by
    intro h1 uw ur hfr
    refine x_aload_n C dL_lays_32 3 rfl ?_
    refine x_iload C dL_lays_33 4 rfl ?_
    refine x_iconst C dL_lays_35 2 (by decide) ?_
    refine x_iadd C dL_lays_36 ?_
    refine x_iload_n C dL_lays_37 1 rfl ?_
    refine x_sipush C dL_lays_38 128 (by decide) ?_
    refine x_irem C dL_lays_41 (by omega) (by omega) (by omega) (by omega) ?_
    refine x_topv (show b % 128 = x.1 from by omega) ?_
    refine x_iast C ur ⟨by omega, by omega⟩ (by decide) dL_lays_42 (x_hn (fun h2 e3 => ?_))
    have f4 : h2 rA = some (eI D 18 (fu (fu r (6 * p) x.2.2.2) (Int.toNat ((6 * ((p : Nat) : Int)) + 2)) x.1)) := by rw [e3]; exact hu_s
    refine x_aload_n C dL_lays_43 3 rfl ?_
    refine x_iload C dL_lays_44 4 rfl ?_
    refine x_iconst C dL_lays_46 3 (by decide) ?_
    refine x_iadd C dL_lays_47 ?_
    refine x_iload_n C dL_lays_48 1 rfl ?_
    refine x_sipush C dL_lays_49 128 (by decide) ?_
    refine x_idiv C dL_lays_52 (by omega) (by omega) (by omega) (by omega) ?_
    refine x_bipush C dL_lays_53 8 (by decide) ?_
    refine x_irem C dL_lays_55 (by omega) (by omega) (by omega) (by omega) ?_
    refine x_iconst C dL_lays_56 4 (by decide) ?_
    refine x_isub C dL_lays_57 ?_
    refine x_topv (show ((b / 128) % 8) - 4 = x.2.1 from by omega) ?_
    refine x_iast C f4 ⟨by omega, by omega⟩ (by decide) dL_lays_58 (x_hn (fun h5 e6 => ?_))
    have f7 : h5 rA = some (eI D 18 (fu (fu (fu r (6 * p) x.2.2.2) (Int.toNat ((6 * ((p : Nat) : Int)) + 2)) x.1) (Int.toNat ((6 * ((p : Nat) : Int)) + 3)) x.2.1)) := by rw [e6]; exact hu_s
    refine x_aload_n C dL_lays_59 3 rfl ?_
    refine x_iload C dL_lays_60 4 rfl ?_
    refine x_iconst C dL_lays_62 4 (by decide) ?_
    refine x_iadd C dL_lays_63 ?_
    refine x_iload_n C dL_lays_64 1 rfl ?_
    refine x_sipush C dL_lays_65 1024 (by decide) ?_
    refine x_idiv C dL_lays_68 (by omega) (by omega) (by omega) (by omega) ?_
    refine x_bipush C dL_lays_69 8 (by decide) ?_
    refine x_irem C dL_lays_71 (by omega) (by omega) (by omega) (by omega) ?_
    refine x_topv (show (b / 1024) % 8 = ((x.2.2.1 : Nat) : Int) from by omega) ?_
    refine x_iast C f7 ⟨by omega, by omega⟩ (by decide) dL_lays_72 (x_hn (fun h8 e9 => ?_))
    have f10 : h8 rA = some (eI D 18 (fu (fu (fu (fu r (6 * p) x.2.2.2) (Int.toNat ((6 * ((p : Nat) : Int)) + 2)) x.1) (Int.toNat ((6 * ((p : Nat) : Int)) + 3)) x.2.1) (Int.toNat ((6 * ((p : Nat) : Int)) + 4)) (((x.2.2.1 : Nat) : Int)))) := by rw [e9]; exact hu_s
    have f11 : h8 rA = some (eI D 18 (rL r p x)) := by have q9 := f10; rw [ee2, ee3, ee4] at q9; exact q9
    refine x_iconst C dL_lays_73 5 (by decide) ?_
    refine x_aload_n C dL_lays_74 3 rfl ?_
    refine x_iload C dL_lays_75 4 rfl ?_
    refine x_iconst C dL_lays_77 1 (by decide) ?_
    refine x_iadd C dL_lays_78 ?_
    refine x_iald C f11 ⟨by omega, by omega⟩ (by decide) dL_lays_79 ?_
    refine x_topv (show (rL r p x) (Int.toNat ((6 * ((p : Nat) : Int)) + 1)) = ((k : Nat) : Int) from by rw [ee1, hv9.2.1]; exact hk1) ?_
    refine x_imul C dL_lays_80 ?_
    refine x_iconst C dL_lays_81 4 (by decide) ?_
    refine x_iadd C dL_lays_82 ?_
    refine x_istore C (ls' := [(0, vI ((p : Nat) : Int)), (1, vI b), (2, .ref wA), (3, .ref rA), (4, vI (6 * ((p : Nat) : Int))), (5, vI ((5 * (((k : Nat) : Int))) + 4))]) dL_lays_83 (by decide) rfl ?_
    refine x_aload_n C dL_lays_85 2 rfl ?_
    refine x_iload C dL_lays_86 5 rfl ?_
    refine x_aload_n C dL_lays_88 3 rfl ?_
    refine x_iload C dL_lays_89 4 rfl ?_
    refine x_iald C f11 ⟨by omega, by omega⟩ (by decide) dL_lays_91 ?_
    refine x_topv (show (rL r p x) (Int.toNat (6 * ((p : Nat) : Int))) = x.2.2.2 from by rw [ee0]; exact hv9.1) ?_
    refine x_iconst C dL_lays_92 2 (by decide) ?_
    refine x_icmp_ne (tgt := 125) C dL_lays_93 (by decide) (by omega) (by omega) (fun c12 => ?_) (fun c12 => ?_)
    · skip
      refine x_aload_n C dL_lays_125 2 rfl ?_
      refine x_iload C dL_lays_126 5 rfl ?_
      have n14 : nq wA rA := vnt uw ur (p := (0, 25)) (q := (0, 18)) rfl rfl (by decide)
      have f13 : h2 wA = some (eI D 25 w) := by rw [e3, hu_n n14]; exact uw
      have f15 : h5 wA = some (eI D 25 w) := by rw [e6, hu_n n14]; exact f13
      have f16 : h8 wA = some (eI D 25 w) := by rw [e9, hu_n n14]; exact f15
      refine x_iald C f16 ⟨by omega, by omega⟩ (by decide) dL_lays_128 ?_
      refine x_topv (show w (Int.toNat ((5 * (((k : Nat) : Int))) + 4)) = w (5 * k + 4) from by rw [show Int.toNat ((5 * ((k : Nat) : Int)) + 4) = 5 * k + 4 by omega]) ?_
      refine x_iast C f16 ⟨by omega, by omega⟩ (by decide) dL_lays_129 (x_hn (fun h17 e18 => ?_))
      have f19 : h17 wA = some (eI D 25 (fu w (Int.toNat ((5 * (((k : Nat) : Int))) + 4)) (w (5 * k + 4)))) := by rw [e18]; exact hu_s
      have f20 : h17 wA = some (eI D 25 (wL w k x.2.2.2 n)) := by have q9 := f19; rw [show Int.toNat ((5 * ((k : Nat) : Int)) + 4) = 5 * k + 4 by omega] at q9; unfold wL; first | (rw [if_pos ⟨by omega, by omega⟩]; exact q9) | (rw [if_neg (fun y9 => by omega)]; exact q9)
      refine x_aload_n C dL_lays_130 3 rfl ?_
      refine x_iload C dL_lays_131 4 rfl ?_
      have f21 : h17 rA = some (eI D 18 (rL r p x)) := by rw [e18, hu_n (Ne.symm n14)]; exact f11
      refine x_iald C f21 ⟨by omega, by omega⟩ (by decide) dL_lays_133 ?_
      refine x_topv (show (rL r p x) (Int.toNat (6 * ((p : Nat) : Int))) = x.2.2.2 from by rw [ee0]; exact hv9.1) ?_
      refine x_iconst C dL_lays_134 1 (by decide) ?_
      refine x_icmp_ne (tgt := 147) C dL_lays_135 (by decide) (by omega) (by omega) (fun c22 => ?_) (fun c22 => ?_)
      · skip
        refine x_aload_n C dL_lays_147 3 rfl ?_
        refine x_iload C dL_lays_148 4 rfl ?_
        refine x_iald C f21 ⟨by omega, by omega⟩ (by decide) dL_lays_150 ?_
        refine x_topv (show (rL r p x) (Int.toNat (6 * ((p : Nat) : Int))) = x.2.2.2 from by rw [ee0]; exact hv9.1) ?_
        refine x_iconst C dL_lays_151 2 (by decide) ?_
        refine x_icmp_ne (tgt := 160) C dL_lays_152 (by decide) (by omega) (by omega) (fun c23 => ?_) (fun c23 => ?_)
        · skip
          refine x_iconst C dL_lays_160 (-1) (by decide) ?_
          refine x_iret C G dL_lays_161 ?_ (by decide) (by decide)
          refine ⟨svI (by unfold kpR; first | (exfalso; omega) | (rw [if_pos (by omega)]; done) | (rw [if_neg (by omega), if_pos (by omega)]; done) | (rw [if_neg (by omega), if_neg (by omega)]; done)), hu2_of f21 f20 (fun q9 y1 y2 => ?_)⟩
          rw [e18, e9, e6, e3]
          simp only [hu_n y1, hu_n y2]
          exact hfr q9 y1
        · skip
          refine x_bipush C dL_lays_155 (-2) (by decide) ?_
          refine x_goto (tgt := 161) C dL_lays_157 (by decide) ?_
          refine x_iret C G dL_lays_161 ?_ (by decide) (by decide)
          refine ⟨svI (by unfold kpR; first | (exfalso; omega) | (rw [if_pos (by omega)]; done) | (rw [if_neg (by omega), if_pos (by omega)]; done) | (rw [if_neg (by omega), if_neg (by omega)]; done)), hu2_of f21 f20 (fun q9 y1 y2 => ?_)⟩
          rw [e18, e9, e6, e3]
          simp only [hu_n y1, hu_n y2]
          exact hfr q9 y1
      · skip
        refine x_aload_n C dL_lays_138 3 rfl ?_
        refine x_iload C dL_lays_139 4 rfl ?_
        refine x_iconst C dL_lays_141 2 (by decide) ?_
        refine x_iadd C dL_lays_142 ?_
        refine x_iald C f21 ⟨by omega, by omega⟩ (by decide) dL_lays_143 ?_
        refine x_topv (show (rL r p x) (Int.toNat ((6 * ((p : Nat) : Int)) + 2)) = x.1 from by rw [ee2]; exact hv9.2.2.1) ?_
        refine x_goto (tgt := 161) C dL_lays_144 (by decide) ?_
        refine x_iret C G dL_lays_161 ?_ (by decide) (by decide)
        refine ⟨svI (by unfold kpR; first | (exfalso; omega) | (rw [if_pos (by omega)]; done) | (rw [if_neg (by omega), if_pos (by omega)]; done) | (rw [if_neg (by omega), if_neg (by omega)]; done)), hu2_of f21 f20 (fun q9 y1 y2 => ?_)⟩
        rw [e18, e9, e6, e3]
        simp only [hu_n y1, hu_n y2]
        exact hfr q9 y1
    · skip
      refine x_aload_n C dL_lays_96 2 rfl ?_
      refine x_iload C dL_lays_97 5 rfl ?_
      have n25 : nq wA rA := vnt uw ur (p := (0, 25)) (q := (0, 18)) rfl rfl (by decide)
      have f24 : h2 wA = some (eI D 25 w) := by rw [e3, hu_n n25]; exact uw
      have f26 : h5 wA = some (eI D 25 w) := by rw [e6, hu_n n25]; exact f24
      have f27 : h8 wA = some (eI D 25 w) := by rw [e9, hu_n n25]; exact f26
      refine x_iald C f27 ⟨by omega, by omega⟩ (by decide) dL_lays_99 ?_
      refine x_topv (show w (Int.toNat ((5 * (((k : Nat) : Int))) + 4)) = w (5 * k + 4) from by rw [show Int.toNat ((5 * ((k : Nat) : Int)) + 4) = 5 * k + 4 by omega]) ?_
      refine x_if_lt (tgt := 116) C dL_lays_100 (by decide) (by omega) (fun c28 => ?_) (fun c28 => ?_)
      · skip
        refine x_aload_n C dL_lays_116 3 rfl ?_
        refine x_iload C dL_lays_117 4 rfl ?_
        refine x_iconst C dL_lays_119 5 (by decide) ?_
        refine x_iadd C dL_lays_120 ?_
        refine x_iald C f11 ⟨by omega, by omega⟩ (by decide) dL_lays_121 ?_
        refine x_topv (show (rL r p x) (Int.toNat ((6 * ((p : Nat) : Int)) + 5)) = n from by rw [ee5, hv9.2.2.2.2.2]; exact hn1) ?_
        refine x_goto (tgt := 129) C dL_lays_122 (by decide) ?_
        refine x_iast C f27 ⟨by omega, by omega⟩ (by decide) dL_lays_129 (x_hn (fun h29 e30 => ?_))
        have f31 : h29 wA = some (eI D 25 (fu w (Int.toNat ((5 * (((k : Nat) : Int))) + 4)) n)) := by rw [e30]; exact hu_s
        have f32 : h29 wA = some (eI D 25 (wL w k x.2.2.2 n)) := by have q9 := f31; rw [show Int.toNat ((5 * ((k : Nat) : Int)) + 4) = 5 * k + 4 by omega] at q9; unfold wL; first | (rw [if_pos ⟨by omega, by omega⟩]; exact q9) | (rw [if_neg (fun y9 => by omega)]; exact q9)
        refine x_aload_n C dL_lays_130 3 rfl ?_
        refine x_iload C dL_lays_131 4 rfl ?_
        have f33 : h29 rA = some (eI D 18 (rL r p x)) := by rw [e30, hu_n (Ne.symm n25)]; exact f11
        refine x_iald C f33 ⟨by omega, by omega⟩ (by decide) dL_lays_133 ?_
        refine x_topv (show (rL r p x) (Int.toNat (6 * ((p : Nat) : Int))) = x.2.2.2 from by rw [ee0]; exact hv9.1) ?_
        refine x_iconst C dL_lays_134 1 (by decide) ?_
        refine x_icmp_ne (tgt := 147) C dL_lays_135 (by decide) (by omega) (by omega) (fun c34 => ?_) (fun c34 => ?_)
        · skip
          refine x_aload_n C dL_lays_147 3 rfl ?_
          refine x_iload C dL_lays_148 4 rfl ?_
          refine x_iald C f33 ⟨by omega, by omega⟩ (by decide) dL_lays_150 ?_
          refine x_topv (show (rL r p x) (Int.toNat (6 * ((p : Nat) : Int))) = x.2.2.2 from by rw [ee0]; exact hv9.1) ?_
          refine x_iconst C dL_lays_151 2 (by decide) ?_
          refine x_icmp_ne (tgt := 160) C dL_lays_152 (by decide) (by omega) (by omega) (fun c35 => ?_) (fun c35 => ?_)
          · skip
            refine x_iconst C dL_lays_160 (-1) (by decide) ?_
            refine x_iret C G dL_lays_161 ?_ (by decide) (by decide)
            refine ⟨svI (by unfold kpR; first | (exfalso; omega) | (rw [if_pos (by omega)]; done) | (rw [if_neg (by omega), if_pos (by omega)]; done) | (rw [if_neg (by omega), if_neg (by omega)]; done)), hu2_of f33 f32 (fun q9 y1 y2 => ?_)⟩
            rw [e30, e9, e6, e3]
            simp only [hu_n y1, hu_n y2]
            exact hfr q9 y1
          · skip
            refine x_bipush C dL_lays_155 (-2) (by decide) ?_
            refine x_goto (tgt := 161) C dL_lays_157 (by decide) ?_
            refine x_iret C G dL_lays_161 ?_ (by decide) (by decide)
            refine ⟨svI (by unfold kpR; first | (exfalso; omega) | (rw [if_pos (by omega)]; done) | (rw [if_neg (by omega), if_pos (by omega)]; done) | (rw [if_neg (by omega), if_neg (by omega)]; done)), hu2_of f33 f32 (fun q9 y1 y2 => ?_)⟩
            rw [e30, e9, e6, e3]
            simp only [hu_n y1, hu_n y2]
            exact hfr q9 y1
        · skip
          refine x_aload_n C dL_lays_138 3 rfl ?_
          refine x_iload C dL_lays_139 4 rfl ?_
          refine x_iconst C dL_lays_141 2 (by decide) ?_
          refine x_iadd C dL_lays_142 ?_
          refine x_iald C f33 ⟨by omega, by omega⟩ (by decide) dL_lays_143 ?_
          refine x_topv (show (rL r p x) (Int.toNat ((6 * ((p : Nat) : Int)) + 2)) = x.1 from by rw [ee2]; exact hv9.2.2.1) ?_
          refine x_goto (tgt := 161) C dL_lays_144 (by decide) ?_
          refine x_iret C G dL_lays_161 ?_ (by decide) (by decide)
          refine ⟨svI (by unfold kpR; first | (exfalso; omega) | (rw [if_pos (by omega)]; done) | (rw [if_neg (by omega), if_pos (by omega)]; done) | (rw [if_neg (by omega), if_neg (by omega)]; done)), hu2_of f33 f32 (fun q9 y1 y2 => ?_)⟩
          rw [e30, e9, e6, e3]
          simp only [hu_n y1, hu_n y2]
          exact hfr q9 y1
      · skip
        refine x_aload_n C dL_lays_103 2 rfl ?_
        refine x_iload C dL_lays_104 5 rfl ?_
        refine x_iald C f27 ⟨by omega, by omega⟩ (by decide) dL_lays_106 ?_
        refine x_topv (show w (Int.toNat ((5 * (((k : Nat) : Int))) + 4)) = w (5 * k + 4) from by rw [show Int.toNat ((5 * ((k : Nat) : Int)) + 4) = 5 * k + 4 by omega]) ?_
        refine x_aload_n C dL_lays_107 3 rfl ?_
        refine x_iload C dL_lays_108 4 rfl ?_
        refine x_iconst C dL_lays_110 5 (by decide) ?_
        refine x_iadd C dL_lays_111 ?_
        refine x_iald C f11 ⟨by omega, by omega⟩ (by decide) dL_lays_112 ?_
        refine x_topv (show (rL r p x) (Int.toNat ((6 * ((p : Nat) : Int)) + 5)) = n from by rw [ee5, hv9.2.2.2.2.2]; exact hn1) ?_
        refine x_icmp_le (tgt := 125) C dL_lays_113 (by decide) (by omega) (by omega) (fun c36 => ?_) (fun c36 => ?_)
        · skip
          refine x_aload_n C dL_lays_125 2 rfl ?_
          refine x_iload C dL_lays_126 5 rfl ?_
          refine x_iald C f27 ⟨by omega, by omega⟩ (by decide) dL_lays_128 ?_
          refine x_topv (show w (Int.toNat ((5 * (((k : Nat) : Int))) + 4)) = w (5 * k + 4) from by rw [show Int.toNat ((5 * ((k : Nat) : Int)) + 4) = 5 * k + 4 by omega]) ?_
          refine x_iast C f27 ⟨by omega, by omega⟩ (by decide) dL_lays_129 (x_hn (fun h37 e38 => ?_))
          have f39 : h37 wA = some (eI D 25 (fu w (Int.toNat ((5 * (((k : Nat) : Int))) + 4)) (w (5 * k + 4)))) := by rw [e38]; exact hu_s
          have f40 : h37 wA = some (eI D 25 (wL w k x.2.2.2 n)) := by have q9 := f39; rw [show Int.toNat ((5 * ((k : Nat) : Int)) + 4) = 5 * k + 4 by omega] at q9; unfold wL; first | (rw [if_pos ⟨by omega, by omega⟩]; exact q9) | (rw [if_neg (fun y9 => by omega)]; exact q9)
          refine x_aload_n C dL_lays_130 3 rfl ?_
          refine x_iload C dL_lays_131 4 rfl ?_
          have f41 : h37 rA = some (eI D 18 (rL r p x)) := by rw [e38, hu_n (Ne.symm n25)]; exact f11
          refine x_iald C f41 ⟨by omega, by omega⟩ (by decide) dL_lays_133 ?_
          refine x_topv (show (rL r p x) (Int.toNat (6 * ((p : Nat) : Int))) = x.2.2.2 from by rw [ee0]; exact hv9.1) ?_
          refine x_iconst C dL_lays_134 1 (by decide) ?_
          refine x_icmp_ne (tgt := 147) C dL_lays_135 (by decide) (by omega) (by omega) (fun c42 => ?_) (fun c42 => ?_)
          · skip
            refine x_aload_n C dL_lays_147 3 rfl ?_
            refine x_iload C dL_lays_148 4 rfl ?_
            refine x_iald C f41 ⟨by omega, by omega⟩ (by decide) dL_lays_150 ?_
            refine x_topv (show (rL r p x) (Int.toNat (6 * ((p : Nat) : Int))) = x.2.2.2 from by rw [ee0]; exact hv9.1) ?_
            refine x_iconst C dL_lays_151 2 (by decide) ?_
            refine x_icmp_ne (tgt := 160) C dL_lays_152 (by decide) (by omega) (by omega) (fun c43 => ?_) (fun c43 => ?_)
            · skip
              refine x_iconst C dL_lays_160 (-1) (by decide) ?_
              refine x_iret C G dL_lays_161 ?_ (by decide) (by decide)
              refine ⟨svI (by unfold kpR; first | (exfalso; omega) | (rw [if_pos (by omega)]; done) | (rw [if_neg (by omega), if_pos (by omega)]; done) | (rw [if_neg (by omega), if_neg (by omega)]; done)), hu2_of f41 f40 (fun q9 y1 y2 => ?_)⟩
              rw [e38, e9, e6, e3]
              simp only [hu_n y1, hu_n y2]
              exact hfr q9 y1
            · skip
              refine x_bipush C dL_lays_155 (-2) (by decide) ?_
              refine x_goto (tgt := 161) C dL_lays_157 (by decide) ?_
              refine x_iret C G dL_lays_161 ?_ (by decide) (by decide)
              refine ⟨svI (by unfold kpR; first | (exfalso; omega) | (rw [if_pos (by omega)]; done) | (rw [if_neg (by omega), if_pos (by omega)]; done) | (rw [if_neg (by omega), if_neg (by omega)]; done)), hu2_of f41 f40 (fun q9 y1 y2 => ?_)⟩
              rw [e38, e9, e6, e3]
              simp only [hu_n y1, hu_n y2]
              exact hfr q9 y1
          · skip
            refine x_aload_n C dL_lays_138 3 rfl ?_
            refine x_iload C dL_lays_139 4 rfl ?_
            refine x_iconst C dL_lays_141 2 (by decide) ?_
            refine x_iadd C dL_lays_142 ?_
            refine x_iald C f41 ⟨by omega, by omega⟩ (by decide) dL_lays_143 ?_
            refine x_topv (show (rL r p x) (Int.toNat ((6 * ((p : Nat) : Int)) + 2)) = x.1 from by rw [ee2]; exact hv9.2.2.1) ?_
            refine x_goto (tgt := 161) C dL_lays_144 (by decide) ?_
            refine x_iret C G dL_lays_161 ?_ (by decide) (by decide)
            refine ⟨svI (by unfold kpR; first | (exfalso; omega) | (rw [if_pos (by omega)]; done) | (rw [if_neg (by omega), if_pos (by omega)]; done) | (rw [if_neg (by omega), if_neg (by omega)]; done)), hu2_of f41 f40 (fun q9 y1 y2 => ?_)⟩
            rw [e38, e9, e6, e3]
            simp only [hu_n y1, hu_n y2]
            exact hfr q9 y1
        · skip
          refine x_aload_n C dL_lays_116 3 rfl ?_
          refine x_iload C dL_lays_117 4 rfl ?_
          refine x_iconst C dL_lays_119 5 (by decide) ?_
          refine x_iadd C dL_lays_120 ?_
          refine x_iald C f11 ⟨by omega, by omega⟩ (by decide) dL_lays_121 ?_
          refine x_topv (show (rL r p x) (Int.toNat ((6 * ((p : Nat) : Int)) + 5)) = n from by rw [ee5, hv9.2.2.2.2.2]; exact hn1) ?_
          refine x_goto (tgt := 129) C dL_lays_122 (by decide) ?_
          refine x_iast C f27 ⟨by omega, by omega⟩ (by decide) dL_lays_129 (x_hn (fun h44 e45 => ?_))
          have f46 : h44 wA = some (eI D 25 (fu w (Int.toNat ((5 * (((k : Nat) : Int))) + 4)) n)) := by rw [e45]; exact hu_s
          have f47 : h44 wA = some (eI D 25 (wL w k x.2.2.2 n)) := by have q9 := f46; rw [show Int.toNat ((5 * ((k : Nat) : Int)) + 4) = 5 * k + 4 by omega] at q9; unfold wL; first | (rw [if_pos ⟨by omega, by omega⟩]; exact q9) | (rw [if_neg (fun y9 => by omega)]; exact q9)
          refine x_aload_n C dL_lays_130 3 rfl ?_
          refine x_iload C dL_lays_131 4 rfl ?_
          have f48 : h44 rA = some (eI D 18 (rL r p x)) := by rw [e45, hu_n (Ne.symm n25)]; exact f11
          refine x_iald C f48 ⟨by omega, by omega⟩ (by decide) dL_lays_133 ?_
          refine x_topv (show (rL r p x) (Int.toNat (6 * ((p : Nat) : Int))) = x.2.2.2 from by rw [ee0]; exact hv9.1) ?_
          refine x_iconst C dL_lays_134 1 (by decide) ?_
          refine x_icmp_ne (tgt := 147) C dL_lays_135 (by decide) (by omega) (by omega) (fun c49 => ?_) (fun c49 => ?_)
          · skip
            refine x_aload_n C dL_lays_147 3 rfl ?_
            refine x_iload C dL_lays_148 4 rfl ?_
            refine x_iald C f48 ⟨by omega, by omega⟩ (by decide) dL_lays_150 ?_
            refine x_topv (show (rL r p x) (Int.toNat (6 * ((p : Nat) : Int))) = x.2.2.2 from by rw [ee0]; exact hv9.1) ?_
            refine x_iconst C dL_lays_151 2 (by decide) ?_
            refine x_icmp_ne (tgt := 160) C dL_lays_152 (by decide) (by omega) (by omega) (fun c50 => ?_) (fun c50 => ?_)
            · skip
              refine x_iconst C dL_lays_160 (-1) (by decide) ?_
              refine x_iret C G dL_lays_161 ?_ (by decide) (by decide)
              refine ⟨svI (by unfold kpR; first | (exfalso; omega) | (rw [if_pos (by omega)]; done) | (rw [if_neg (by omega), if_pos (by omega)]; done) | (rw [if_neg (by omega), if_neg (by omega)]; done)), hu2_of f48 f47 (fun q9 y1 y2 => ?_)⟩
              rw [e45, e9, e6, e3]
              simp only [hu_n y1, hu_n y2]
              exact hfr q9 y1
            · skip
              refine x_bipush C dL_lays_155 (-2) (by decide) ?_
              refine x_goto (tgt := 161) C dL_lays_157 (by decide) ?_
              refine x_iret C G dL_lays_161 ?_ (by decide) (by decide)
              refine ⟨svI (by unfold kpR; first | (exfalso; omega) | (rw [if_pos (by omega)]; done) | (rw [if_neg (by omega), if_pos (by omega)]; done) | (rw [if_neg (by omega), if_neg (by omega)]; done)), hu2_of f48 f47 (fun q9 y1 y2 => ?_)⟩
              rw [e45, e9, e6, e3]
              simp only [hu_n y1, hu_n y2]
              exact hfr q9 y1
          · skip
            refine x_aload_n C dL_lays_138 3 rfl ?_
            refine x_iload C dL_lays_139 4 rfl ?_
            refine x_iconst C dL_lays_141 2 (by decide) ?_
            refine x_iadd C dL_lays_142 ?_
            refine x_iald C f48 ⟨by omega, by omega⟩ (by decide) dL_lays_143 ?_
            refine x_topv (show (rL r p x) (Int.toNat ((6 * ((p : Nat) : Int)) + 2)) = x.1 from by rw [ee2]; exact hv9.2.2.1) ?_
            refine x_goto (tgt := 161) C dL_lays_144 (by decide) ?_
            refine x_iret C G dL_lays_161 ?_ (by decide) (by decide)
            refine ⟨svI (by unfold kpR; first | (exfalso; omega) | (rw [if_pos (by omega)]; done) | (rw [if_neg (by omega), if_pos (by omega)]; done) | (rw [if_neg (by omega), if_neg (by omega)]; done)), hu2_of f48 f47 (fun q9 y1 y2 => ?_)⟩
            rw [e45, e9, e6, e3]
            simp only [hu_n y1, hu_n y2]
            exact hfr q9 y1
  refine x_bipush C dL_lays_0 6 (by decide) ?_
  refine x_iload_n C dL_lays_2 0 rfl ?_
  refine x_imul C dL_lays_3 ?_
  refine x_istore C (ls' := [(0, vI ((p : Nat) : Int)), (1, vI b), (2, .ref wA), (3, .ref rA), (4, vI (6 * (((p : Nat) : Int))))]) dL_lays_4 (by decide) rfl ?_
  refine x_aload_n C dL_lays_6 3 rfl ?_
  refine x_iload C dL_lays_7 4 rfl ?_
  refine x_iload_n C dL_lays_9 1 rfl ?_
  refine x_ldcI C (z := 32768) (by decide) kL_lays_0 dL_lays_10 ?_
  refine x_icmp_lt (tgt := 19) C dL_lays_12 (by decide) (by omega) (by omega) (fun c51 => ?_) (fun c51 => ?_)
  · skip
    refine x_iload_n C dL_lays_19 1 rfl ?_
    refine x_sipush C dL_lays_20 16384 (by decide) ?_
    refine x_icmp_lt (tgt := 30) C dL_lays_23 (by decide) (by omega) (by omega) (fun c52 => ?_) (fun c52 => ?_)
    · skip
      refine x_iconst C dL_lays_30 1 (by decide) ?_
      refine x_topv (show 1 = x.2.2.2 from by omega) ?_
      refine x_iast C hr ⟨by omega, by omega⟩ (by decide) dL_lays_31 (x_hn (fun h53 e54 => ?_))
      have f55 : h53 rA = some (eI D 18 (fu r (Int.toNat (6 * (((p : Nat) : Int)))) x.2.2.2)) := by rw [e54]; exact hu_s
      have n57 : nq wA rA := vnt hw hr (p := (0, 25)) (q := (0, 18)) rfl rfl (by decide)
      have f56 : h53 wA = some (eI D 25 w) := by rw [e54, hu_n n57]; exact hw
      exact C1 h53 f56 (by have q9 := f55; rw [ee0] at q9; exact q9) (fun q9 y1 => by rw [e54]; simp only [hu_n y1])
    · skip
      refine x_iconst C dL_lays_26 2 (by decide) ?_
      refine x_topv (show 2 = x.2.2.2 from by omega) ?_
      refine x_goto (tgt := 31) C dL_lays_27 (by decide) ?_
      refine x_iast C hr ⟨by omega, by omega⟩ (by decide) dL_lays_31 (x_hn (fun h58 e59 => ?_))
      have f60 : h58 rA = some (eI D 18 (fu r (Int.toNat (6 * (((p : Nat) : Int)))) x.2.2.2)) := by rw [e59]; exact hu_s
      have n62 : nq wA rA := vnt hw hr (p := (0, 25)) (q := (0, 18)) rfl rfl (by decide)
      have f61 : h58 wA = some (eI D 25 w) := by rw [e59, hu_n n62]; exact hw
      exact C1 h58 f61 (by have q9 := f60; rw [ee0] at q9; exact q9) (fun q9 y1 => by rw [e59]; simp only [hu_n y1])
  · skip
    refine x_iconst C dL_lays_15 3 (by decide) ?_
    refine x_topv (show 3 = x.2.2.2 from by omega) ?_
    refine x_goto (tgt := 31) C dL_lays_16 (by decide) ?_
    refine x_iast C hr ⟨by omega, by omega⟩ (by decide) dL_lays_31 (x_hn (fun h63 e64 => ?_))
    have f65 : h63 rA = some (eI D 18 (fu r (Int.toNat (6 * (((p : Nat) : Int)))) x.2.2.2)) := by rw [e64]; exact hu_s
    have n67 : nq wA rA := vnt hw hr (p := (0, 25)) (q := (0, 18)) rfl rfl (by decide)
    have f66 : h63 wA = some (eI D 25 w) := by rw [e64, hu_n n67]; exact hw
    exact C1 h63 f66 (by have q9 := f65; rw [ee0] at q9; exact q9) (fun q9 y1 => by rw [e64]; simp only [hu_n y1])


theorem vt_r {f : Nat → Int} {B : Int → Nat} (hB : ∀ p, B p < 8) {S : Nat → Int} (hS : ∀ j, 0 ≤ S j ∧ S j ≤ 4) {al : Nat} {w v : Int} (hv : -4 ≤ v ∧ v ≤ 3) : ∀ (n : Nat) (x : Int × Nat × Int), bX x → 0 ≤ (vt f B al S w v n x).1 ∧ (vt f B al S w v n x).1 ≤ 95 ∧ -4 ≤ (vt f B al S w v n x).2.1 ∧ (vt f B al S w v n x).2.1 ≤ 3 ∧ (vt f B al S w v n x).2.2.1 < 8 ∧ 0 ≤ (vt f B al S w v n x).2.2.2 ∧ (vt f B al S w v n x).2.2.2 ≤ 4
  | 0, x, hx => by
    obtain ⟨h1, h2, h3, h4, h5⟩ := hx
    unfold vt
    refine ⟨h1, h2, ?_, ?_, h3, h4, h5⟩ <;> (dsimp only; split <;> omega)
  | n + 1, x, hx => by
    have hc := cm_r (f := f) (p := x.1 + w) hB hx
    obtain ⟨h1, h2, h3, h4, h5⟩ := hx
    unfold vt
    split
    · have hs := strK_r hS (kAt f (x.1 + w))
      refine ⟨h1, h2, ?_, ?_, h3, h4, h5⟩ <;> (dsimp only; split <;> omega)
    · split
      · exact vt_r hB hS hv n _ hc
      · obtain ⟨g1, g2, g3, g4, g5⟩ := hc
        exact ⟨g1, g2, hv.1, hv.2, g3, g4, g5⟩
theorem sv_r {f : Nat → Int} {al : Nat} {inp c v : Int} {t : Nat} (hv : -4 ≤ v ∧ v ≤ 3) : -4 ≤ sv f al inp c v t ∧ sv f al inp c v t ≤ 3 := by
  unfold sv
  split
  · split <;> omega
  · exact hv
theorem mv_r {f : Nat → Int} {B : Int → Nat} (hB : ∀ p, B p < 8) {S : Nat → Int} (hS : ∀ j, 0 ≤ S j ∧ S j ≤ 4) {al : Nat} {inp c v : Int} {t : Nat} (hc : 0 ≤ c ∧ c ≤ 95) (hv : -4 ≤ v ∧ v ≤ 3) (ht : t < 8) : 0 ≤ (mv f B al S inp c v t).1 ∧ (mv f B al S inp c v t).1 ≤ 95 ∧ -4 ≤ (mv f B al S inp c v t).2.1 ∧ (mv f B al S inp c v t).2.1 ≤ 3 ∧ (mv f B al S inp c v t).2.2.1 < 8 ∧ 0 ≤ (mv f B al S inp c v t).2.2.2 ∧ (mv f B al S inp c v t).2.2.2 ≤ 4 := by
  have hs := sd_r (f := f) (al := al) (d := inp % 3 - 1) (x := (c, t, 1)) hB ⟨hc.1, hc.2, ht, by dsimp only; omega, by dsimp only; omega⟩
  have h2 := sv_r (f := f) (al := al) (inp := inp) (c := c) (t := t) hv
  unfold mv
  split
  · exact vt_r hB hS h2 _ _ hs
  · obtain ⟨g1, g2, g3, g4, g5⟩ := hs
    exact ⟨g1, g2, h2.1, h2.2, g3, g4, g5⟩

theorem kX0_move_0 : Cond.fieldLink "LedgeLevels$Body" 21 "LedgeLevels$Body" "fate" "I" ∈ wsX0_move := by decide +kernel
theorem kX0_move_1 : ∀ w ∈ wsX00, w ∈ wsX0_move := by decide +kernel
theorem kX0_move_2 : Cond.fieldLink "LedgeLevels$Body" 15 "LedgeLevels$Body" "speed" "I" ∈ wsX0_move := by decide +kernel
set_option maxRecDepth 100000 in
set_option maxHeartbeats 1000000 in
theorem c_X0_move {l : Launch} {D : va_G} {A : Nat → Prop} {h : vh} {b g ak aq as : Nat} {f q S : Nat → Int} {c v z : Int} {t al : Nat} (hb : h b = some (eO 0 [.ref as, vI c, vI v, vI ((t : Nat) : Int), vI 1])) (hg : h g = some (eO 1 [.ref ak, .ref aq, vI ((al : Nat) : Int)])) (hk : h ak = some (eI D 96 f)) (hqq : h aq = some (eI D 3 q)) (hSS : h as = some (eI D 3 S)) (hz : 0 ≤ z ∧ z ≤ 5) (hc : 0 ≤ c ∧ c ≤ 95) (hv : -4 ≤ v ∧ v ≤ 3) (hf : ∀ j, 0 ≤ f j ∧ f j ≤ 8) (hq : ∀ j, -1 ≤ q j ∧ q j ≤ 95) (hS : ∀ j, 0 ≤ S j ∧ S j ≤ 4) (ht : t < 8) (hal : al < 8) : MX l D A yX0_move wsX0_move { frames := 3, cells := 0, slots := 0, locals := 69 } [.ref b, .ref g, vI z] h (fun rv h' => rv = none ∧ h' = hu h b (eO 0 [.ref as, vI ((mv f (kbf f q) al S z c v t).1), vI ((mv f (kbf f q) al S z c v t).2.1), vI (((mv f (kbf f q) al S z c v t).2.2.1 : Nat) : Int), vI ((mv f (kbf f q) al S z c v t).2.2.2)])) := by
  refine MX.of (cc := cX0_move) (maxL := 3) (ret := none) [(0, .ref b), (1, .ref g), (2, vI z)] (by decide +kernel) rfl rfl (Nat.le_of_ble_eq_true rfl) ?_
  intro κ C hkl G
  subst hkl
  have C : CX κ "LedgeLevels$Body" "move" cX0_move wsX0_move { frames := 3, cells := 0, slots := 0, locals := 69 } D A 3 := C
  have hiz : nq (D.1 20) (D.1 21) := cx_iz C
  have nn0 : nq b g := vne hb hg (by intro q; have q2 := congrArg vtag q; simp [vtag] at q2)
  have mm0 : nq g b := Ne.symm nn0
  have nn1 : nq b ak := vne hb hk (by intro q; have q2 := congrArg vtag q; simp [vtag] at q2)
  have mm1 : nq ak b := Ne.symm nn1
  have nn2 : nq b aq := vne hb hqq (by intro q; have q2 := congrArg vtag q; simp [vtag] at q2)
  have mm2 : nq aq b := Ne.symm nn2
  have nn3 : nq g ak := vne hg hk (by intro q; have q2 := congrArg vtag q; simp [vtag] at q2)
  have mm3 : nq ak g := Ne.symm nn3
  have nn4 : nq g aq := vne hg hqq (by intro q; have q2 := congrArg vtag q; simp [vtag] at q2)
  have mm4 : nq aq g := Ne.symm nn4
  have hb9 := kbf_r f q
  have hv9 := sv_r (f := f) (al := al) (inp := z) (c := c) (t := t) hv
  refine x_aload_n C dX0_move_0 0 rfl ?_
  refine x_aload_n C dX0_move_1 1 rfl ?_
  refine x_callV C (n := 1) (qc := (RX0, TX0, 5)) (As := [.ref g]) (rest := []) (c_X0_stands hb hg hk (by omega) (by omega) (by assumption) (by omega) (by omega)) gX0_move_X0_stands (by decide +kernel) hb rfl rfl rfl rfl (Nat.le_of_ble_eq_true rfl) ⟨by decide, by decide⟩ ⟨by decide, by decide⟩ dX0_move_2 (fun rv1 h2 hp3 => ?_)
  obtain ⟨rfl, e4⟩ := hp3
  obtain rfl := e4.symm
  have hbr := bI_01 (0 ≤ v ∧ sol f al t (c + 12))
  refine x_if_eq (tgt := 23) C dX0_move_5 (by decide) (by omega) (fun c5 => ?_) (fun c5 => ?_)
  · skip
    have ST : ∀ (v1 : Int) (h6 : vh)  (fb : h6 b = some (eO 0 [.ref as, vI c, vI v1, vI ((t : Nat) : Int), vI 1])) (fg : h6 g = some (eO 1 [.ref ak, .ref aq, vI ((al : Nat) : Int)])) (fk : h6 ak = some (eI D 96 f)) (fq : h6 aq = some (eI D 3 q)) (fS : h6 as = some (eI D 3 S)) (hv1 : v1 = sv f al z c v t) (he : h6 = hu h b (eO 0 [.ref as, vI c, vI v1, vI ((t : Nat) : Int), vI 1])), X κ 0 0 h6 [(0, .ref b), (1, .ref g), (2, vI z)] 23 [] := by
      intro v1 h6 fb fg fk fq fS hv1 he
      refine x_aload_n C dX0_move_23 0 rfl ?_
      refine x_aload_n C dX0_move_24 1 rfl ?_
      refine x_iload_n C dX0_move_25 2 rfl ?_
      refine x_iconst C dX0_move_26 3 (by decide) ?_
      refine x_irem C dX0_move_27 (by omega) (by omega) (by omega) (by omega) ?_
      refine x_iconst C dX0_move_28 1 (by decide) ?_
      refine x_isub C dX0_move_29 ?_
      refine x_callV C (n := 2) (qc := (RX0, TX0, 5)) (As := [.ref g, vI ((z % 3) - 1)]) (rest := []) (c_X0_goSideways fb fg fk fq (by omega) (by omega) (by omega) (by assumption) (by assumption) (by omega) (by omega)) gX0_move_X0_goSideways (by decide +kernel) fb rfl rfl rfl rfl (Nat.le_of_ble_eq_true rfl) ⟨by decide, by decide⟩ ⟨by decide, by decide⟩ dX0_move_30 (fun rv7 h8 hp9 => ?_)
      obtain ⟨rfl, e10⟩ := hp9
      have f11 : h8 b = some (eO 0 [.ref as, vI ((sd f (kbf f q) al ((z % 3) - 1) (c, t, 1)).1), vI v1, vI (((sd f (kbf f q) al ((z % 3) - 1) (c, t, 1)).2.1 : Nat) : Int), vI ((sd f (kbf f q) al ((z % 3) - 1) (c, t, 1)).2.2)]) := by rw [e10]; exact hu_s
      have hcm := sd_r (f := f) (al := al) (d := z % 3 - 1) (x := (c, t, 1)) hb9 ⟨hc.1, hc.2, ht, by dsimp only; omega, by dsimp only; omega⟩
      obtain ⟨k1, k2, k3, k4, k5⟩ := hcm
      refine x_aload_n C dX0_move_33 0 rfl ?_
      refine x_get C (v := vI ((sd f (kbf f q) al ((z % 3) - 1) (c, t, 1)).2.2)) f11 (T := TX0) rfl kX0_move_1 4 (by decide) kX0_move_0 rfl dX0_move_34 ?_
      refine x_iconst C dX0_move_37 1 (by decide) ?_
      refine x_icmp_ne (tgt := 46) C dX0_move_38 (by decide) (by omega) (by omega) (fun c12 => ?_) (fun c12 => ?_)
      · skip
        refine x_vret C G dX0_move_46 ?_ (by decide) (by decide)
        refine ⟨rfl, ?_⟩
        first
          | (have hg1 : (sd f (kbf f q) al (z % 3 - 1) (c, t, 1)).2.2 = 1 := by assumption
             rw [e10, he, hu_u]
             unfold mv
             rw [if_pos hg1, ← hv1]
             simp only [hu_u]
             rw [e3_1 hg1])
          | (have hg1 : ¬ (sd f (kbf f q) al (z % 3 - 1) (c, t, 1)).2.2 = 1 := by assumption
             rw [e10, he, hu_u]
             unfold mv
             rw [if_neg hg1, ← hv1])
      · skip
        have hs1 : (sd f (kbf f q) al (z % 3 - 1) (c, t, 1)).2.2 = 1 := by omega
        refine x_aload_n C dX0_move_41 0 rfl ?_
        refine x_aload_n C dX0_move_42 1 rfl ?_
        have n14 : nq g b := vnt fg fb (p := (3, 1)) (q := (3, 0)) rfl rfl (by decide)
        have f13 : h8 g = some (eO 1 [.ref ak, .ref aq, vI ((al : Nat) : Int)]) := by rw [e10, hu_n n14]; exact fg
        have n16 : nq ak b := vnt fk fb (p := (0, 96)) (q := (3, 0)) rfl rfl (by decide)
        have f15 : h8 ak = some (eI D 96 f) := by rw [e10, hu_n n16]; exact fk
        have n18 : nq aq b := vnt fq fb (p := (0, 3)) (q := (3, 0)) rfl rfl (by decide)
        have f17 : h8 aq = some (eI D 3 q) := by rw [e10, hu_n n18]; exact fq
        have n20 : nq as b := vnt fS fb (p := (0, 3)) (q := (3, 0)) rfl rfl (by decide)
        have f19 : h8 as = some (eI D 3 S) := by rw [e10, hu_n n20]; exact fS
        refine x_callV C (n := 1) (qc := (RX0, TX0, 5)) (As := [.ref g]) (rest := []) (c_X0_goUpOrDown (by have q9 := f11; rw [hs1] at q9; exact q9) f13 f15 f17 f19 (by omega) (by omega) (by assumption) (by assumption) (by assumption) (by omega) (by omega)) gX0_move_X0_goUpOrDown (by decide +kernel) f11 rfl rfl rfl rfl (Nat.le_of_ble_eq_true rfl) ⟨by decide, by decide⟩ ⟨by decide, by decide⟩ dX0_move_43 (fun rv21 h22 hp23 => ?_)
        obtain ⟨rfl, e24⟩ := hp23
        have f25 : h22 b = some (eO 0 [.ref as, vI ((vt f (kbf f q) al S (if v1 < 0 then -12 else 12) v1 (vab v1) (((sd f (kbf f q) al ((z % 3) - 1) (c, t, 1)).1), ((sd f (kbf f q) al ((z % 3) - 1) (c, t, 1)).2.1), 1)).1), vI ((vt f (kbf f q) al S (if v1 < 0 then -12 else 12) v1 (vab v1) (((sd f (kbf f q) al ((z % 3) - 1) (c, t, 1)).1), ((sd f (kbf f q) al ((z % 3) - 1) (c, t, 1)).2.1), 1)).2.1), vI (((vt f (kbf f q) al S (if v1 < 0 then -12 else 12) v1 (vab v1) (((sd f (kbf f q) al ((z % 3) - 1) (c, t, 1)).1), ((sd f (kbf f q) al ((z % 3) - 1) (c, t, 1)).2.1), 1)).2.2.1 : Nat) : Int), vI ((vt f (kbf f q) al S (if v1 < 0 then -12 else 12) v1 (vab v1) (((sd f (kbf f q) al ((z % 3) - 1) (c, t, 1)).1), ((sd f (kbf f q) al ((z % 3) - 1) (c, t, 1)).2.1), 1)).2.2.2)]) := by rw [e24]; exact hu_s
        refine x_vret C G dX0_move_46 ?_ (by decide) (by decide)
        refine ⟨rfl, ?_⟩
        first
          | (have hg1 : (sd f (kbf f q) al (z % 3 - 1) (c, t, 1)).2.2 = 1 := by assumption
             rw [e24, e10, he, hu_u]
             unfold mv
             rw [if_pos hg1, ← hv1]
             simp only [hu_u]
             rw [e3_1 hg1])
          | (have hg1 : ¬ (sd f (kbf f q) al (z % 3 - 1) (c, t, 1)).2.2 = 1 := by assumption
             rw [e24, e10, he, hu_u]
             unfold mv
             rw [if_neg hg1, ← hv1])
    exact ST v h hb hg hk hqq hSS (by unfold sv; split <;> first | (split <;> omega) | omega | rfl | (exfalso; have := bI_t (by assumption : 0 ≤ v ∧ sol f al t (c + 12)); omega) | (exfalso; have := bI_f (by assumption : ¬ (0 ≤ v ∧ sol f al t (c + 12))); omega)) (by first | rw [hu_i hb] | rw [] | rw [hu_i hb])
  · skip
    refine x_aload_n C dX0_move_8 0 rfl ?_
    refine x_iload_n C dX0_move_9 2 rfl ?_
    refine x_iconst C dX0_move_10 3 (by decide) ?_
    refine x_icmp_lt (tgt := 19) C dX0_move_11 (by decide) (by omega) (by omega) (fun c26 => ?_) (fun c26 => ?_)
    · skip
      refine x_iconst C dX0_move_19 0 (by decide) ?_
      refine x_put C hb (T := TX0) rfl tyX0_ok nmX0 kX0_move_1 2 (by decide) kX0_move_2 rfl (fs' := [.ref as, vI c, vI 0, vI ((t : Nat) : Int), vI 1]) rfl rfl (by simp) rfl dX0_move_20 (x_hn (fun h27 e28 => ?_))
      have f29 : h27 b = some (eO 0 [.ref as, vI c, vI 0, vI ((t : Nat) : Int), vI 1]) := by rw [e28]; exact hu_s
      have ST : ∀ (v1 : Int) (h30 : vh)  (fb : h30 b = some (eO 0 [.ref as, vI c, vI v1, vI ((t : Nat) : Int), vI 1])) (fg : h30 g = some (eO 1 [.ref ak, .ref aq, vI ((al : Nat) : Int)])) (fk : h30 ak = some (eI D 96 f)) (fq : h30 aq = some (eI D 3 q)) (fS : h30 as = some (eI D 3 S)) (hv1 : v1 = sv f al z c v t) (he : h30 = hu h b (eO 0 [.ref as, vI c, vI v1, vI ((t : Nat) : Int), vI 1])), X κ 0 0 h30 [(0, .ref b), (1, .ref g), (2, vI z)] 23 [] := by
        intro v1 h30 fb fg fk fq fS hv1 he
        refine x_aload_n C dX0_move_23 0 rfl ?_
        refine x_aload_n C dX0_move_24 1 rfl ?_
        refine x_iload_n C dX0_move_25 2 rfl ?_
        refine x_iconst C dX0_move_26 3 (by decide) ?_
        refine x_irem C dX0_move_27 (by omega) (by omega) (by omega) (by omega) ?_
        refine x_iconst C dX0_move_28 1 (by decide) ?_
        refine x_isub C dX0_move_29 ?_
        refine x_callV C (n := 2) (qc := (RX0, TX0, 5)) (As := [.ref g, vI ((z % 3) - 1)]) (rest := []) (c_X0_goSideways fb fg fk fq (by omega) (by omega) (by omega) (by assumption) (by assumption) (by omega) (by omega)) gX0_move_X0_goSideways (by decide +kernel) fb rfl rfl rfl rfl (Nat.le_of_ble_eq_true rfl) ⟨by decide, by decide⟩ ⟨by decide, by decide⟩ dX0_move_30 (fun rv31 h32 hp33 => ?_)
        obtain ⟨rfl, e34⟩ := hp33
        have f35 : h32 b = some (eO 0 [.ref as, vI ((sd f (kbf f q) al ((z % 3) - 1) (c, t, 1)).1), vI v1, vI (((sd f (kbf f q) al ((z % 3) - 1) (c, t, 1)).2.1 : Nat) : Int), vI ((sd f (kbf f q) al ((z % 3) - 1) (c, t, 1)).2.2)]) := by rw [e34]; exact hu_s
        have hcm := sd_r (f := f) (al := al) (d := z % 3 - 1) (x := (c, t, 1)) hb9 ⟨hc.1, hc.2, ht, by dsimp only; omega, by dsimp only; omega⟩
        obtain ⟨k1, k2, k3, k4, k5⟩ := hcm
        refine x_aload_n C dX0_move_33 0 rfl ?_
        refine x_get C (v := vI ((sd f (kbf f q) al ((z % 3) - 1) (c, t, 1)).2.2)) f35 (T := TX0) rfl kX0_move_1 4 (by decide) kX0_move_0 rfl dX0_move_34 ?_
        refine x_iconst C dX0_move_37 1 (by decide) ?_
        refine x_icmp_ne (tgt := 46) C dX0_move_38 (by decide) (by omega) (by omega) (fun c36 => ?_) (fun c36 => ?_)
        · skip
          refine x_vret C G dX0_move_46 ?_ (by decide) (by decide)
          refine ⟨rfl, ?_⟩
          first
            | (have hg1 : (sd f (kbf f q) al (z % 3 - 1) (c, t, 1)).2.2 = 1 := by assumption
               rw [e34, he, hu_u]
               unfold mv
               rw [if_pos hg1, ← hv1]
               simp only [hu_u]
               rw [e3_1 hg1])
            | (have hg1 : ¬ (sd f (kbf f q) al (z % 3 - 1) (c, t, 1)).2.2 = 1 := by assumption
               rw [e34, he, hu_u]
               unfold mv
               rw [if_neg hg1, ← hv1])
        · skip
          have hs1 : (sd f (kbf f q) al (z % 3 - 1) (c, t, 1)).2.2 = 1 := by omega
          refine x_aload_n C dX0_move_41 0 rfl ?_
          refine x_aload_n C dX0_move_42 1 rfl ?_
          have n38 : nq g b := vnt fg fb (p := (3, 1)) (q := (3, 0)) rfl rfl (by decide)
          have f37 : h32 g = some (eO 1 [.ref ak, .ref aq, vI ((al : Nat) : Int)]) := by rw [e34, hu_n n38]; exact fg
          have n40 : nq ak b := vnt fk fb (p := (0, 96)) (q := (3, 0)) rfl rfl (by decide)
          have f39 : h32 ak = some (eI D 96 f) := by rw [e34, hu_n n40]; exact fk
          have n42 : nq aq b := vnt fq fb (p := (0, 3)) (q := (3, 0)) rfl rfl (by decide)
          have f41 : h32 aq = some (eI D 3 q) := by rw [e34, hu_n n42]; exact fq
          have n44 : nq as b := vnt fS fb (p := (0, 3)) (q := (3, 0)) rfl rfl (by decide)
          have f43 : h32 as = some (eI D 3 S) := by rw [e34, hu_n n44]; exact fS
          refine x_callV C (n := 1) (qc := (RX0, TX0, 5)) (As := [.ref g]) (rest := []) (c_X0_goUpOrDown (by have q9 := f35; rw [hs1] at q9; exact q9) f37 f39 f41 f43 (by omega) (by omega) (by assumption) (by assumption) (by assumption) (by omega) (by omega)) gX0_move_X0_goUpOrDown (by decide +kernel) f35 rfl rfl rfl rfl (Nat.le_of_ble_eq_true rfl) ⟨by decide, by decide⟩ ⟨by decide, by decide⟩ dX0_move_43 (fun rv45 h46 hp47 => ?_)
          obtain ⟨rfl, e48⟩ := hp47
          have f49 : h46 b = some (eO 0 [.ref as, vI ((vt f (kbf f q) al S (if v1 < 0 then -12 else 12) v1 (vab v1) (((sd f (kbf f q) al ((z % 3) - 1) (c, t, 1)).1), ((sd f (kbf f q) al ((z % 3) - 1) (c, t, 1)).2.1), 1)).1), vI ((vt f (kbf f q) al S (if v1 < 0 then -12 else 12) v1 (vab v1) (((sd f (kbf f q) al ((z % 3) - 1) (c, t, 1)).1), ((sd f (kbf f q) al ((z % 3) - 1) (c, t, 1)).2.1), 1)).2.1), vI (((vt f (kbf f q) al S (if v1 < 0 then -12 else 12) v1 (vab v1) (((sd f (kbf f q) al ((z % 3) - 1) (c, t, 1)).1), ((sd f (kbf f q) al ((z % 3) - 1) (c, t, 1)).2.1), 1)).2.2.1 : Nat) : Int), vI ((vt f (kbf f q) al S (if v1 < 0 then -12 else 12) v1 (vab v1) (((sd f (kbf f q) al ((z % 3) - 1) (c, t, 1)).1), ((sd f (kbf f q) al ((z % 3) - 1) (c, t, 1)).2.1), 1)).2.2.2)]) := by rw [e48]; exact hu_s
          refine x_vret C G dX0_move_46 ?_ (by decide) (by decide)
          refine ⟨rfl, ?_⟩
          first
            | (have hg1 : (sd f (kbf f q) al (z % 3 - 1) (c, t, 1)).2.2 = 1 := by assumption
               rw [e48, e34, he, hu_u]
               unfold mv
               rw [if_pos hg1, ← hv1]
               simp only [hu_u]
               rw [e3_1 hg1])
            | (have hg1 : ¬ (sd f (kbf f q) al (z % 3 - 1) (c, t, 1)).2.2 = 1 := by assumption
               rw [e48, e34, he, hu_u]
               unfold mv
               rw [if_neg hg1, ← hv1])
      have n51 : nq g b := vnt hg hb (p := (3, 1)) (q := (3, 0)) rfl rfl (by decide)
      have f50 : h27 g = some (eO 1 [.ref ak, .ref aq, vI ((al : Nat) : Int)]) := by rw [e28, hu_n n51]; exact hg
      have n53 : nq ak b := vnt hk hb (p := (0, 96)) (q := (3, 0)) rfl rfl (by decide)
      have f52 : h27 ak = some (eI D 96 f) := by rw [e28, hu_n n53]; exact hk
      have n55 : nq aq b := vnt hqq hb (p := (0, 3)) (q := (3, 0)) rfl rfl (by decide)
      have f54 : h27 aq = some (eI D 3 q) := by rw [e28, hu_n n55]; exact hqq
      have n57 : nq as b := vnt hSS hb (p := (0, 3)) (q := (3, 0)) rfl rfl (by decide)
      have f56 : h27 as = some (eI D 3 S) := by rw [e28, hu_n n57]; exact hSS
      exact ST 0 h27 f29 f50 f52 f54 f56 (by unfold sv; split <;> first | (split <;> omega) | omega | rfl | (exfalso; have := bI_t (by assumption : 0 ≤ v ∧ sol f al t (c + 12)); omega) | (exfalso; have := bI_f (by assumption : ¬ (0 ≤ v ∧ sol f al t (c + 12))); omega)) (by first | rw [e28, hu_i hb] | rw [e28] | rw [hu_i hb])
    · skip
      refine x_bipush C dX0_move_14 (-2) (by decide) ?_
      refine x_goto (tgt := 20) C dX0_move_16 (by decide) ?_
      refine x_put C hb (T := TX0) rfl tyX0_ok nmX0 kX0_move_1 2 (by decide) kX0_move_2 rfl (fs' := [.ref as, vI c, vI (-2), vI ((t : Nat) : Int), vI 1]) rfl rfl (by simp) rfl dX0_move_20 (x_hn (fun h58 e59 => ?_))
      have f60 : h58 b = some (eO 0 [.ref as, vI c, vI (-2), vI ((t : Nat) : Int), vI 1]) := by rw [e59]; exact hu_s
      have ST : ∀ (v1 : Int) (h61 : vh)  (fb : h61 b = some (eO 0 [.ref as, vI c, vI v1, vI ((t : Nat) : Int), vI 1])) (fg : h61 g = some (eO 1 [.ref ak, .ref aq, vI ((al : Nat) : Int)])) (fk : h61 ak = some (eI D 96 f)) (fq : h61 aq = some (eI D 3 q)) (fS : h61 as = some (eI D 3 S)) (hv1 : v1 = sv f al z c v t) (he : h61 = hu h b (eO 0 [.ref as, vI c, vI v1, vI ((t : Nat) : Int), vI 1])), X κ 0 0 h61 [(0, .ref b), (1, .ref g), (2, vI z)] 23 [] := by
        intro v1 h61 fb fg fk fq fS hv1 he
        refine x_aload_n C dX0_move_23 0 rfl ?_
        refine x_aload_n C dX0_move_24 1 rfl ?_
        refine x_iload_n C dX0_move_25 2 rfl ?_
        refine x_iconst C dX0_move_26 3 (by decide) ?_
        refine x_irem C dX0_move_27 (by omega) (by omega) (by omega) (by omega) ?_
        refine x_iconst C dX0_move_28 1 (by decide) ?_
        refine x_isub C dX0_move_29 ?_
        refine x_callV C (n := 2) (qc := (RX0, TX0, 5)) (As := [.ref g, vI ((z % 3) - 1)]) (rest := []) (c_X0_goSideways fb fg fk fq (by omega) (by omega) (by omega) (by assumption) (by assumption) (by omega) (by omega)) gX0_move_X0_goSideways (by decide +kernel) fb rfl rfl rfl rfl (Nat.le_of_ble_eq_true rfl) ⟨by decide, by decide⟩ ⟨by decide, by decide⟩ dX0_move_30 (fun rv62 h63 hp64 => ?_)
        obtain ⟨rfl, e65⟩ := hp64
        have f66 : h63 b = some (eO 0 [.ref as, vI ((sd f (kbf f q) al ((z % 3) - 1) (c, t, 1)).1), vI v1, vI (((sd f (kbf f q) al ((z % 3) - 1) (c, t, 1)).2.1 : Nat) : Int), vI ((sd f (kbf f q) al ((z % 3) - 1) (c, t, 1)).2.2)]) := by rw [e65]; exact hu_s
        have hcm := sd_r (f := f) (al := al) (d := z % 3 - 1) (x := (c, t, 1)) hb9 ⟨hc.1, hc.2, ht, by dsimp only; omega, by dsimp only; omega⟩
        obtain ⟨k1, k2, k3, k4, k5⟩ := hcm
        refine x_aload_n C dX0_move_33 0 rfl ?_
        refine x_get C (v := vI ((sd f (kbf f q) al ((z % 3) - 1) (c, t, 1)).2.2)) f66 (T := TX0) rfl kX0_move_1 4 (by decide) kX0_move_0 rfl dX0_move_34 ?_
        refine x_iconst C dX0_move_37 1 (by decide) ?_
        refine x_icmp_ne (tgt := 46) C dX0_move_38 (by decide) (by omega) (by omega) (fun c67 => ?_) (fun c67 => ?_)
        · skip
          refine x_vret C G dX0_move_46 ?_ (by decide) (by decide)
          refine ⟨rfl, ?_⟩
          first
            | (have hg1 : (sd f (kbf f q) al (z % 3 - 1) (c, t, 1)).2.2 = 1 := by assumption
               rw [e65, he, hu_u]
               unfold mv
               rw [if_pos hg1, ← hv1]
               simp only [hu_u]
               rw [e3_1 hg1])
            | (have hg1 : ¬ (sd f (kbf f q) al (z % 3 - 1) (c, t, 1)).2.2 = 1 := by assumption
               rw [e65, he, hu_u]
               unfold mv
               rw [if_neg hg1, ← hv1])
        · skip
          have hs1 : (sd f (kbf f q) al (z % 3 - 1) (c, t, 1)).2.2 = 1 := by omega
          refine x_aload_n C dX0_move_41 0 rfl ?_
          refine x_aload_n C dX0_move_42 1 rfl ?_
          have n69 : nq g b := vnt fg fb (p := (3, 1)) (q := (3, 0)) rfl rfl (by decide)
          have f68 : h63 g = some (eO 1 [.ref ak, .ref aq, vI ((al : Nat) : Int)]) := by rw [e65, hu_n n69]; exact fg
          have n71 : nq ak b := vnt fk fb (p := (0, 96)) (q := (3, 0)) rfl rfl (by decide)
          have f70 : h63 ak = some (eI D 96 f) := by rw [e65, hu_n n71]; exact fk
          have n73 : nq aq b := vnt fq fb (p := (0, 3)) (q := (3, 0)) rfl rfl (by decide)
          have f72 : h63 aq = some (eI D 3 q) := by rw [e65, hu_n n73]; exact fq
          have n75 : nq as b := vnt fS fb (p := (0, 3)) (q := (3, 0)) rfl rfl (by decide)
          have f74 : h63 as = some (eI D 3 S) := by rw [e65, hu_n n75]; exact fS
          refine x_callV C (n := 1) (qc := (RX0, TX0, 5)) (As := [.ref g]) (rest := []) (c_X0_goUpOrDown (by have q9 := f66; rw [hs1] at q9; exact q9) f68 f70 f72 f74 (by omega) (by omega) (by assumption) (by assumption) (by assumption) (by omega) (by omega)) gX0_move_X0_goUpOrDown (by decide +kernel) f66 rfl rfl rfl rfl (Nat.le_of_ble_eq_true rfl) ⟨by decide, by decide⟩ ⟨by decide, by decide⟩ dX0_move_43 (fun rv76 h77 hp78 => ?_)
          obtain ⟨rfl, e79⟩ := hp78
          have f80 : h77 b = some (eO 0 [.ref as, vI ((vt f (kbf f q) al S (if v1 < 0 then -12 else 12) v1 (vab v1) (((sd f (kbf f q) al ((z % 3) - 1) (c, t, 1)).1), ((sd f (kbf f q) al ((z % 3) - 1) (c, t, 1)).2.1), 1)).1), vI ((vt f (kbf f q) al S (if v1 < 0 then -12 else 12) v1 (vab v1) (((sd f (kbf f q) al ((z % 3) - 1) (c, t, 1)).1), ((sd f (kbf f q) al ((z % 3) - 1) (c, t, 1)).2.1), 1)).2.1), vI (((vt f (kbf f q) al S (if v1 < 0 then -12 else 12) v1 (vab v1) (((sd f (kbf f q) al ((z % 3) - 1) (c, t, 1)).1), ((sd f (kbf f q) al ((z % 3) - 1) (c, t, 1)).2.1), 1)).2.2.1 : Nat) : Int), vI ((vt f (kbf f q) al S (if v1 < 0 then -12 else 12) v1 (vab v1) (((sd f (kbf f q) al ((z % 3) - 1) (c, t, 1)).1), ((sd f (kbf f q) al ((z % 3) - 1) (c, t, 1)).2.1), 1)).2.2.2)]) := by rw [e79]; exact hu_s
          refine x_vret C G dX0_move_46 ?_ (by decide) (by decide)
          refine ⟨rfl, ?_⟩
          first
            | (have hg1 : (sd f (kbf f q) al (z % 3 - 1) (c, t, 1)).2.2 = 1 := by assumption
               rw [e79, e65, he, hu_u]
               unfold mv
               rw [if_pos hg1, ← hv1]
               simp only [hu_u]
               rw [e3_1 hg1])
            | (have hg1 : ¬ (sd f (kbf f q) al (z % 3 - 1) (c, t, 1)).2.2 = 1 := by assumption
               rw [e79, e65, he, hu_u]
               unfold mv
               rw [if_neg hg1, ← hv1])
      have n82 : nq g b := vnt hg hb (p := (3, 1)) (q := (3, 0)) rfl rfl (by decide)
      have f81 : h58 g = some (eO 1 [.ref ak, .ref aq, vI ((al : Nat) : Int)]) := by rw [e59, hu_n n82]; exact hg
      have n84 : nq ak b := vnt hk hb (p := (0, 96)) (q := (3, 0)) rfl rfl (by decide)
      have f83 : h58 ak = some (eI D 96 f) := by rw [e59, hu_n n84]; exact hk
      have n86 : nq aq b := vnt hqq hb (p := (0, 3)) (q := (3, 0)) rfl rfl (by decide)
      have f85 : h58 aq = some (eI D 3 q) := by rw [e59, hu_n n86]; exact hqq
      have n88 : nq as b := vnt hSS hb (p := (0, 3)) (q := (3, 0)) rfl rfl (by decide)
      have f87 : h58 as = some (eI D 3 S) := by rw [e59, hu_n n88]; exact hSS
      exact ST ((-2)) h58 f60 f81 f83 f85 f87 (by unfold sv; split <;> first | (split <;> omega) | omega | rfl | (exfalso; have := bI_t (by assumption : 0 ≤ v ∧ sol f al t (c + 12)); omega) | (exfalso; have := bI_f (by assumption : ¬ (0 ≤ v ∧ sol f al t (c + 12))); omega)) (by first | rw [e59, hu_i hb] | rw [e59] | rw [hu_i hb])

theorem iI_shl {z : Int} (k : Nat) (s : Int32) (hs : (s.toBitVec.smod 32).toNat = k) (h0 : 0 ≤ z) (h1 : z * 2 ^ k < 4294967296) : iI z <<< s = iI (z * 2 ^ k) := by
  obtain ⟨n, rfl⟩ := Int.eq_ofNat_of_zero_le h0
  have h2 : n * 2 ^ k < 2 ^ 32 := by
    have : ((n * 2 ^ k : Nat) : Int) < 4294967296 := by rw [Int.natCast_mul, Int.natCast_pow]; exact h1
    omega
  rw [iI_nat, pk_shlN s k hs h2, ← iI_nat, Int.natCast_mul, Int.natCast_pow]
  rfl
theorem iI_shr {n : Nat} (k : Nat) (s : Int32) (hs : (s.toBitVec.smod 32).toNat = k) (h : n < 2147483648) : iI (n : Int) >>> s = iI ((n / 2 ^ k : Nat) : Int) := by
  rw [iI_nat, pk_shrN (by omega) s k hs, ← iI_nat]
theorem and7 (n : Nat) : n &&& 7 = n % 8 := Nat.and_two_pow_sub_one_eq_mod n 3
theorem or64 {a b : Nat} (h : b < 64) : 64 * a ||| b = 64 * a + b := (Nat.two_pow_add_eq_or_of_lt (i := 6) h a).symm
theorem or8' {a b : Nat} (h : b < 8) : 8 * a ||| b = 8 * a + b := (Nat.two_pow_add_eq_or_of_lt (i := 3) h a).symm
/-- a body that goes on, as a number below 6144 -/
def pkc (c v : Int) (t : Nat) : Nat := 64 * c.toNat + 8 * (v + 4).toNat + t

theorem kX0_placeAtStart_0 : Cond.fieldLink "LedgeLevels$Body" 15 "LedgeLevels$Body" "speed" "I" ∈ wsX0_placeAtStart := by decide +kernel
theorem kX0_placeAtStart_1 : ∀ w ∈ wsX00, w ∈ wsX0_placeAtStart := by decide +kernel
theorem kX0_placeAtStart_2 : Cond.fieldLink "LedgeLevels$Body" 18 "LedgeLevels$Body" "taken" "I" ∈ wsX0_placeAtStart := by decide +kernel
theorem kX0_placeAtStart_3 : Cond.fieldLink "LedgeLevels$Body" 21 "LedgeLevels$Body" "fate" "I" ∈ wsX0_placeAtStart := by decide +kernel
set_option maxRecDepth 100000 in
set_option maxHeartbeats 1000000 in
theorem c_X0_placeAtStart {l : Launch} {D : va_G} {A : Nat → Prop} {h : vh} {b g ak aq as : Nat} {f q : Nat → Int} {z c0 v0 s0 : Int} {al t0 : Nat} (hb : h b = some (eO 0 [.ref as, vI c0, vI v0, vI ((t0 : Nat) : Int), vI s0])) (hg : h g = some (eO 1 [.ref ak, .ref aq, vI ((al : Nat) : Int)])) (hk : h ak = some (eI D 96 f)) (hqq : h aq = some (eI D 3 q)) (hz : 0 ≤ z ∧ z ≤ 95) (hf : ∀ j, 0 ≤ f j ∧ f j ≤ 8) (hq : ∀ j, -1 ≤ q j ∧ q j ≤ 95) : MX l D A yX0_placeAtStart wsX0_placeAtStart { frames := 2, cells := 0, slots := 0, locals := 45 } [.ref b, .ref g, vI z] h (fun rv h' => rv = none ∧ h' = hu h b (eO 0 [.ref as, vI ((cm f (kbf f q) z (z, 0, 1)).1), vI 0, vI (((cm f (kbf f q) z (z, 0, 1)).2.1 : Nat) : Int), vI ((cm f (kbf f q) z (z, 0, 1)).2.2)])) := by
  refine MX.of (cc := cX0_placeAtStart) (maxL := 3) (ret := none) [(0, .ref b), (1, .ref g), (2, vI z)] (by decide +kernel) rfl rfl (Nat.le_of_ble_eq_true rfl) ?_
  intro κ C hkl G
  subst hkl
  have C : CX κ "LedgeLevels$Body" "placeAtStart" cX0_placeAtStart wsX0_placeAtStart { frames := 2, cells := 0, slots := 0, locals := 45 } D A 3 := C
  have hiz : nq (D.1 20) (D.1 21) := cx_iz C
  have nn0 : nq b g := vne hb hg (by intro q; have q2 := congrArg vtag q; simp [vtag] at q2)
  have mm0 : nq g b := Ne.symm nn0
  have nn1 : nq b ak := vne hb hk (by intro q; have q2 := congrArg vtag q; simp [vtag] at q2)
  have mm1 : nq ak b := Ne.symm nn1
  have nn2 : nq b aq := vne hb hqq (by intro q; have q2 := congrArg vtag q; simp [vtag] at q2)
  have mm2 : nq aq b := Ne.symm nn2
  have nn3 : nq g ak := vne hg hk (by intro q; have q2 := congrArg vtag q; simp [vtag] at q2)
  have mm3 : nq ak g := Ne.symm nn3
  have nn4 : nq g aq := vne hg hqq (by intro q; have q2 := congrArg vtag q; simp [vtag] at q2)
  have mm4 : nq aq g := Ne.symm nn4
  refine x_aload_n C dX0_placeAtStart_0 0 rfl ?_
  refine x_iconst C dX0_placeAtStart_1 0 (by decide) ?_
  refine x_put C hb (T := TX0) rfl tyX0_ok nmX0 kX0_placeAtStart_1 2 (by decide) kX0_placeAtStart_0 rfl (fs' := [.ref as, vI c0, vI 0, vI ((t0 : Nat) : Int), vI s0]) rfl rfl (by simp) rfl dX0_placeAtStart_2 (x_hn (fun h1 e2 => ?_))
  have f3 : h1 b = some (eO 0 [.ref as, vI c0, vI 0, vI ((t0 : Nat) : Int), vI s0]) := by rw [e2]; exact hu_s
  refine x_aload_n C dX0_placeAtStart_5 0 rfl ?_
  refine x_iconst C dX0_placeAtStart_6 0 (by decide) ?_
  refine x_put C f3 (T := TX0) rfl tyX0_ok nmX0 kX0_placeAtStart_1 3 (by decide) kX0_placeAtStart_2 rfl (fs' := [.ref as, vI c0, vI 0, vI 0, vI s0]) rfl rfl (by simp) rfl dX0_placeAtStart_7 (x_hn (fun h4 e5 => ?_))
  have f6 : h4 b = some (eO 0 [.ref as, vI c0, vI 0, vI 0, vI s0]) := by rw [e5]; exact hu_s
  refine x_aload_n C dX0_placeAtStart_10 0 rfl ?_
  refine x_iconst C dX0_placeAtStart_11 1 (by decide) ?_
  refine x_put C f6 (T := TX0) rfl tyX0_ok nmX0 kX0_placeAtStart_1 4 (by decide) kX0_placeAtStart_3 rfl (fs' := [.ref as, vI c0, vI 0, vI 0, vI 1]) rfl rfl (by simp) rfl dX0_placeAtStart_12 (x_hn (fun h7 e8 => ?_))
  have f9 : h7 b = some (eO 0 [.ref as, vI c0, vI 0, vI 0, vI 1]) := by rw [e8]; exact hu_s
  refine x_aload_n C dX0_placeAtStart_15 0 rfl ?_
  refine x_aload_n C dX0_placeAtStart_16 1 rfl ?_
  refine x_iload_n C dX0_placeAtStart_17 2 rfl ?_
  have n11 : nq g b := vnt hg hb (p := (3, 1)) (q := (3, 0)) rfl rfl (by decide)
  have f10 : h1 g = some (eO 1 [.ref ak, .ref aq, vI ((al : Nat) : Int)]) := by rw [e2, hu_n n11]; exact hg
  have f12 : h4 g = some (eO 1 [.ref ak, .ref aq, vI ((al : Nat) : Int)]) := by rw [e5, hu_n n11]; exact f10
  have f13 : h7 g = some (eO 1 [.ref ak, .ref aq, vI ((al : Nat) : Int)]) := by rw [e8, hu_n n11]; exact f12
  have n15 : nq ak b := vnt hk hb (p := (0, 96)) (q := (3, 0)) rfl rfl (by decide)
  have f14 : h1 ak = some (eI D 96 f) := by rw [e2, hu_n n15]; exact hk
  have f16 : h4 ak = some (eI D 96 f) := by rw [e5, hu_n n15]; exact f14
  have f17 : h7 ak = some (eI D 96 f) := by rw [e8, hu_n n15]; exact f16
  have n19 : nq aq b := vnt hqq hb (p := (0, 3)) (q := (3, 0)) rfl rfl (by decide)
  have f18 : h1 aq = some (eI D 3 q) := by rw [e2, hu_n n19]; exact hqq
  have f20 : h4 aq = some (eI D 3 q) := by rw [e5, hu_n n19]; exact f18
  have f21 : h7 aq = some (eI D 3 q) := by rw [e8, hu_n n19]; exact f20
  refine x_callV C (n := 2) (qc := (RX0, TX0, 5)) (As := [.ref g, vI z]) (rest := []) (c_X0_comeTo f9 f13 f17 f21 (by omega) (by assumption) (by assumption)) gX0_placeAtStart_X0_comeTo (by decide +kernel) f9 rfl rfl rfl rfl (Nat.le_of_ble_eq_true rfl) ⟨by decide, by decide⟩ ⟨by decide, by decide⟩ dX0_placeAtStart_18 (fun rv22 h23 hp24 => ?_)
  obtain ⟨rfl, e25⟩ := hp24
  have f26 : h23 b = some (eO 0 [.ref as, vI ((cm f (kbf f q) z (c0, 0, 1)).1), vI 0, vI (((cm f (kbf f q) z (c0, 0, 1)).2.1 : Nat) : Int), vI ((cm f (kbf f q) z (c0, 0, 1)).2.2)]) := by rw [e25]; exact hu_s
  refine x_vret C G dX0_placeAtStart_21 ?_ (by decide) (by decide)
  have e9 : cm f (kbf f q) z (c0, 0, 1) = cm f (kbf f q) z (z, 0, 1) := by unfold cm; rw [if_pos (show 0 ≤ z ∧ z < 96 by omega), if_pos (show 0 ≤ z ∧ z < 96 by omega)]
  refine ⟨rfl, ?_⟩
  rw [e25, e8, e5, e2]
  simp only [hu_u, e9]

theorem kX0_packed_0 : Cond.fieldLink "LedgeLevels$Body" 9 "LedgeLevels$Body" "cell" "I" ∈ wsX0_packed := by decide +kernel
theorem kX0_packed_1 : ∀ w ∈ wsX00, w ∈ wsX0_packed := by decide +kernel
theorem kX0_packed_2 : Cond.fieldLink "LedgeLevels$Body" 15 "LedgeLevels$Body" "speed" "I" ∈ wsX0_packed := by decide +kernel
theorem kX0_packed_3 : Cond.fieldLink "LedgeLevels$Body" 18 "LedgeLevels$Body" "taken" "I" ∈ wsX0_packed := by decide +kernel
set_option maxRecDepth 100000 in
set_option maxHeartbeats 1000000 in
theorem c_X0_packed {l : Launch} {D : va_G} {A : Nat → Prop} {h : vh} {b : Nat} {x1 x2 : Value} {c v : Int} {t : Nat} (hb : h b = some (eO 0 [x1, vI c, vI v, vI ((t : Nat) : Int), x2])) (hc : 0 ≤ c ∧ c ≤ 95) (hv : -4 ≤ v ∧ v ≤ 3) (ht : t < 8) : MX l D A yX0_packed wsX0_packed { frames := 0, cells := 0, slots := 0, locals := 0 } [.ref b] h (fun rv h' => rv = some (vI ((pkc c v t : Nat) : Int)) ∧ h' = h) := by
  refine MX.of (cc := cX0_packed) (maxL := 1) (ret := (some .int)) [(0, .ref b)] (by decide +kernel) rfl rfl (Nat.le_of_ble_eq_true rfl) ?_
  intro κ C hkl G
  subst hkl
  have C : CX κ "LedgeLevels$Body" "packed" cX0_packed wsX0_packed { frames := 0, cells := 0, slots := 0, locals := 0 } D A 1 := C
  have hiz : nq (D.1 20) (D.1 21) := cx_iz C
  refine x_aload_n C dX0_packed_0 0 rfl ?_
  refine x_get C (v := vI c) hb (T := TX0) rfl kX0_packed_1 1 (by decide) kX0_packed_0 rfl dX0_packed_1 ?_
  refine x_bipush C dX0_packed_4 6 (by decide) ?_
  refine x_ishlv C (((64 * c.toNat : Nat) : Int)) (by rw [iI_shl 6 _ (by decide) (by omega) (by omega)]; congr 1; omega) dX0_packed_6 ?_
  refine x_aload_n C dX0_packed_7 0 rfl ?_
  refine x_get C (v := vI v) hb (T := TX0) rfl kX0_packed_1 2 (by decide) kX0_packed_2 rfl dX0_packed_8 ?_
  refine x_iconst C dX0_packed_11 4 (by decide) ?_
  refine x_iadd C dX0_packed_12 ?_
  refine x_iconst C dX0_packed_13 3 (by decide) ?_
  refine x_ishlv C (((8 * (v + 4).toNat : Nat) : Int)) (by rw [iI_shl 3 _ (by decide) (by omega) (by omega)]; congr 1; omega) dX0_packed_14 ?_
  refine x_iorv C ((((64 * c.toNat) ||| (8 * (v + 4).toNat) : Nat) : Int)) (iI_or (64 * c.toNat) (8 * (v + 4).toNat)) dX0_packed_15 ?_
  refine x_topv (show (((64 * c.toNat) ||| (8 * (v + 4).toNat) : Nat) : Int) = ((8 * (8 * c.toNat + (v + 4).toNat) : Nat) : Int) from by rw [or64 (by omega)]; congr 1; omega) ?_
  refine x_aload_n C dX0_packed_16 0 rfl ?_
  refine x_get C (v := vI ((t : Nat) : Int)) hb (T := TX0) rfl kX0_packed_1 3 (by decide) kX0_packed_3 rfl dX0_packed_17 ?_
  refine x_iorv C ((((8 * (8 * c.toNat + (v + 4).toNat)) ||| t : Nat) : Int)) (iI_or (8 * (8 * c.toNat + (v + 4).toNat)) t) dX0_packed_20 ?_
  refine x_topv (show (((8 * (8 * c.toNat + (v + 4).toNat)) ||| t : Nat) : Int) = ((pkc c v t : Nat) : Int) from by rw [or8' (by omega)]; unfold pkc; congr 1; omega) ?_
  refine x_iret C G dX0_packed_21 ?_ (by decide) (by decide)
  exact ⟨rfl, rfl⟩

theorem kX0_unpack_0 : Cond.fieldLink "LedgeLevels$Body" 9 "LedgeLevels$Body" "cell" "I" ∈ wsX0_unpack := by decide +kernel
theorem kX0_unpack_1 : ∀ w ∈ wsX00, w ∈ wsX0_unpack := by decide +kernel
theorem kX0_unpack_2 : Cond.fieldLink "LedgeLevels$Body" 15 "LedgeLevels$Body" "speed" "I" ∈ wsX0_unpack := by decide +kernel
theorem kX0_unpack_3 : Cond.fieldLink "LedgeLevels$Body" 18 "LedgeLevels$Body" "taken" "I" ∈ wsX0_unpack := by decide +kernel
theorem kX0_unpack_4 : Cond.fieldLink "LedgeLevels$Body" 21 "LedgeLevels$Body" "fate" "I" ∈ wsX0_unpack := by decide +kernel
set_option maxRecDepth 100000 in
set_option maxHeartbeats 1000000 in
theorem c_X0_unpack {l : Launch} {D : va_G} {A : Nat → Prop} {h : vh} {b n : Nat} {x1 x2 x3 x4 x5 : Value} (hb : h b = some (eO 0 [x1, x2, x3, x4, x5])) (hn : n < 6144) : MX l D A yX0_unpack wsX0_unpack { frames := 0, cells := 0, slots := 0, locals := 0 } [.ref b, vI ((n : Nat) : Int)] h (fun rv h' => rv = none ∧ h' = hu h b (eO 0 [x1, vI ((n / 64 : Nat) : Int), vI (((n / 8 % 8 : Nat) : Int) - 4), vI ((n % 8 : Nat) : Int), vI 1])) := by
  refine MX.of (cc := cX0_unpack) (maxL := 2) (ret := none) [(0, .ref b), (1, vI ((n : Nat) : Int))] (by decide +kernel) rfl rfl (Nat.le_of_ble_eq_true rfl) ?_
  intro κ C hkl G
  subst hkl
  have C : CX κ "LedgeLevels$Body" "unpack" cX0_unpack wsX0_unpack { frames := 0, cells := 0, slots := 0, locals := 0 } D A 2 := C
  have hiz : nq (D.1 20) (D.1 21) := cx_iz C
  refine x_aload_n C dX0_unpack_0 0 rfl ?_
  refine x_iload_n C dX0_unpack_1 1 rfl ?_
  refine x_bipush C dX0_unpack_2 6 (by decide) ?_
  refine x_ishrv C (((n / 64 : Nat) : Int)) (iI_shr 6 _ (by decide) (by omega)) dX0_unpack_4 ?_
  refine x_put C hb (T := TX0) rfl tyX0_ok nmX0 kX0_unpack_1 1 (by decide) kX0_unpack_0 rfl (fs' := [x1, vI ((n / 64 : Nat) : Int), x3, x4, x5]) rfl rfl (by simp) rfl dX0_unpack_5 (x_hn (fun h1 e2 => ?_))
  have f3 : h1 b = some (eO 0 [x1, vI ((n / 64 : Nat) : Int), x3, x4, x5]) := by rw [e2]; exact hu_s
  refine x_aload_n C dX0_unpack_8 0 rfl ?_
  refine x_iload_n C dX0_unpack_9 1 rfl ?_
  refine x_iconst C dX0_unpack_10 3 (by decide) ?_
  refine x_ishrv C (((n / 8 : Nat) : Int)) (iI_shr 3 _ (by decide) (by omega)) dX0_unpack_11 ?_
  refine x_bipush C dX0_unpack_12 7 (by decide) ?_
  refine x_iandv C ((((n / 8) &&& 7 : Nat) : Int)) (iI_and (n / 8) 7) dX0_unpack_14 ?_
  refine x_topv (show (((n / 8) &&& 7 : Nat) : Int) = ((n / 8 % 8 : Nat) : Int) from by rw [and7]) ?_
  refine x_iconst C dX0_unpack_15 4 (by decide) ?_
  refine x_isub C dX0_unpack_16 ?_
  refine x_put C f3 (T := TX0) rfl tyX0_ok nmX0 kX0_unpack_1 2 (by decide) kX0_unpack_2 rfl (fs' := [x1, vI ((n / 64 : Nat) : Int), vI ((((n / 8 % 8 : Nat) : Int)) - 4), x4, x5]) rfl rfl (by simp) rfl dX0_unpack_17 (x_hn (fun h4 e5 => ?_))
  have f6 : h4 b = some (eO 0 [x1, vI ((n / 64 : Nat) : Int), vI ((((n / 8 % 8 : Nat) : Int)) - 4), x4, x5]) := by rw [e5]; exact hu_s
  refine x_aload_n C dX0_unpack_20 0 rfl ?_
  refine x_iload_n C dX0_unpack_21 1 rfl ?_
  refine x_bipush C dX0_unpack_22 7 (by decide) ?_
  refine x_iandv C (((n &&& 7 : Nat) : Int)) (iI_and n 7) dX0_unpack_24 ?_
  refine x_topv (show ((n &&& 7 : Nat) : Int) = ((n % 8 : Nat) : Int) from by rw [and7]) ?_
  refine x_put C f6 (T := TX0) rfl tyX0_ok nmX0 kX0_unpack_1 3 (by decide) kX0_unpack_3 rfl (fs' := [x1, vI ((n / 64 : Nat) : Int), vI ((((n / 8 % 8 : Nat) : Int)) - 4), vI ((n % 8 : Nat) : Int), x5]) rfl rfl (by simp) rfl dX0_unpack_25 (x_hn (fun h7 e8 => ?_))
  have f9 : h7 b = some (eO 0 [x1, vI ((n / 64 : Nat) : Int), vI ((((n / 8 % 8 : Nat) : Int)) - 4), vI ((n % 8 : Nat) : Int), x5]) := by rw [e8]; exact hu_s
  refine x_aload_n C dX0_unpack_28 0 rfl ?_
  refine x_iconst C dX0_unpack_29 1 (by decide) ?_
  refine x_put C f9 (T := TX0) rfl tyX0_ok nmX0 kX0_unpack_1 4 (by decide) kX0_unpack_4 rfl (fs' := [x1, vI ((n / 64 : Nat) : Int), vI ((((n / 8 % 8 : Nat) : Int)) - 4), vI ((n % 8 : Nat) : Int), vI 1]) rfl rfl (by simp) rfl dX0_unpack_30 (x_hn (fun h10 e11 => ?_))
  have f12 : h10 b = some (eO 0 [x1, vI ((n / 64 : Nat) : Int), vI ((((n / 8 % 8 : Nat) : Int)) - 4), vI ((n % 8 : Nat) : Int), vI 1]) := by rw [e11]; exact hu_s
  refine x_vret C G dX0_unpack_33 ?_ (by decide) (by decide)
  refine ⟨rfl, ?_⟩
  rw [e11, e8, e5, e2]
  simp only [hu_u]

theorem kX0_init_0 : Cond.methodLink "LedgeLevels$Body" 3 Lib.objectInit ∈ wsX0_init := by decide +kernel
theorem kX0_init_1 : Cond.instanceMethod Lib.objectInit ∈ wsX0_init := by decide +kernel
theorem kX0_init_2 : Cond.code Lib.objectInit ⟨#[0xb1]⟩ 1 none ∈ wsX0_init := by decide +kernel
theorem kX0_init_3 : Cond.fieldLink "LedgeLevels$Body" 9 "LedgeLevels$Body" "cell" "I" ∈ wsX0_init := by decide +kernel
theorem kX0_init_4 : ∀ w ∈ wsX00, w ∈ wsX0_init := by decide +kernel
theorem kX0_init_5 : Cond.fieldLink "LedgeLevels$Body" 15 "LedgeLevels$Body" "speed" "I" ∈ wsX0_init := by decide +kernel
theorem kX0_init_6 : Cond.fieldLink "LedgeLevels$Body" 18 "LedgeLevels$Body" "taken" "I" ∈ wsX0_init := by decide +kernel
theorem kX0_init_7 : Cond.fieldLink "LedgeLevels$Body" 21 "LedgeLevels$Body" "fate" "I" ∈ wsX0_init := by decide +kernel
theorem kX0_init_8 : Cond.fieldLink "LedgeLevels$Body" 24 "LedgeLevels$Body" "strengths" "[I" ∈ wsX0_init := by decide +kernel
set_option maxRecDepth 100000 in
set_option maxHeartbeats 1000000 in
theorem c_X0_init {l : Launch} {D : va_G} {A : Nat → Prop} {h : vh} {b as : Nat} (hb : h b = some (eO 0 [.null, vI 0, vI 0, vI 0, vI 0]))  : MX l D A yX0_init wsX0_init { frames := 1, cells := 0, slots := 0, locals := 20 } [.ref b, .ref as] h (fun rv h' => rv = none ∧ h' = hu h b (eO 0 [.ref as, vI 0, vI 0, vI ((0 : Nat) : Int), vI 1])) := by
  refine MX.of (cc := cX0_init) (maxL := 2) (ret := none) [(0, .ref b), (1, .ref as)] (by decide +kernel) rfl rfl (Nat.le_of_ble_eq_true rfl) ?_
  intro κ C hkl G
  subst hkl
  have C : CX κ "LedgeLevels$Body" "<init>" cX0_init wsX0_init { frames := 1, cells := 0, slots := 0, locals := 20 } D A 2 := C
  have hiz : nq (D.1 20) (D.1 21) := cx_iz C
  refine x_aload_n C dX0_init_0 0 rfl ?_
  refine x_objInit C kX0_init_0 kX0_init_1 kX0_init_2 (by decide) (by decide) dX0_init_1 ?_
  refine x_aload_n C dX0_init_4 0 rfl ?_
  refine x_iconst C dX0_init_5 0 (by decide) ?_
  refine x_put C hb (T := TX0) rfl tyX0_ok nmX0 kX0_init_4 1 (by decide) kX0_init_3 rfl (fs' := [.null, vI 0, vI 0, vI 0, vI 0]) rfl rfl (by simp) rfl dX0_init_6 (x_hn (fun h1 e2 => ?_))
  have f3 : h1 b = some (eO 0 [.null, vI 0, vI 0, vI 0, vI 0]) := by rw [e2]; exact hu_s
  refine x_aload_n C dX0_init_9 0 rfl ?_
  refine x_iconst C dX0_init_10 0 (by decide) ?_
  refine x_put C f3 (T := TX0) rfl tyX0_ok nmX0 kX0_init_4 2 (by decide) kX0_init_5 rfl (fs' := [.null, vI 0, vI 0, vI 0, vI 0]) rfl rfl (by simp) rfl dX0_init_11 (x_hn (fun h4 e5 => ?_))
  have f6 : h4 b = some (eO 0 [.null, vI 0, vI 0, vI 0, vI 0]) := by rw [e5]; exact hu_s
  refine x_aload_n C dX0_init_14 0 rfl ?_
  refine x_iconst C dX0_init_15 0 (by decide) ?_
  refine x_put C f6 (T := TX0) rfl tyX0_ok nmX0 kX0_init_4 3 (by decide) kX0_init_6 rfl (fs' := [.null, vI 0, vI 0, vI 0, vI 0]) rfl rfl (by simp) rfl dX0_init_16 (x_hn (fun h7 e8 => ?_))
  have f9 : h7 b = some (eO 0 [.null, vI 0, vI 0, vI 0, vI 0]) := by rw [e8]; exact hu_s
  refine x_aload_n C dX0_init_19 0 rfl ?_
  refine x_iconst C dX0_init_20 1 (by decide) ?_
  refine x_put C f9 (T := TX0) rfl tyX0_ok nmX0 kX0_init_4 4 (by decide) kX0_init_7 rfl (fs' := [.null, vI 0, vI 0, vI 0, vI 1]) rfl rfl (by simp) rfl dX0_init_21 (x_hn (fun h10 e11 => ?_))
  have f12 : h10 b = some (eO 0 [.null, vI 0, vI 0, vI 0, vI 1]) := by rw [e11]; exact hu_s
  refine x_aload_n C dX0_init_24 0 rfl ?_
  refine x_aload_n C dX0_init_25 1 rfl ?_
  refine x_putF C f12 (T := TX0) rfl tyX0_ok nmX0 kX0_init_4 0 (by decide) kX0_init_8 rfl rfl rfl (fs' := [.ref as, vI 0, vI 0, vI 0, vI 1]) rfl rfl (by simp) rfl dX0_init_26 (x_hn (fun h13 e14 => ?_))
  have f15 : h13 b = some (eO 0 [.ref as, vI 0, vI 0, vI 0, vI 1]) := by rw [e14]; exact hu_s
  refine x_vret C G dX0_init_29 ?_ (by decide) (by decide)
  refine ⟨rfl, ?_⟩
  rw [e14, e11, e8, e5, e2]
  simp only [hu_u]
  rfl


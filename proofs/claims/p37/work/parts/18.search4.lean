/-! ===== the second way: all rows of inputs ===== -/
abbrev PQ : Type := Nat × (Nat → Int)
def eQ (n : Nat) (σ : PQ) : PQ := if σ.1 < 6144 then (σ.1 + 1, fu σ.2 σ.1 n) else σ
def wS (T : Int → B4) (go : Int) : Nat → PQ → PQ
  | 0, σ => σ
  | j + 1, σ => if go ≠ 0 ∧ (T j).2.2.2 = 1 then eQ (cd (T j)) (wS T go j σ) else wS T go j σ
theorem wS_spec {T : Int → B4} (hT : ∀ i : Nat, bOK (T i)) {go : Int} {σ : PQ} (hm : σ.1 ≤ 6100) (hQ : ∀ j, 0 ≤ σ.2 j ∧ σ.2 j ≤ 6143) : ∀ j, j ≤ 6 → (σ.1 ≤ (wS T go j σ).1 ∧ (wS T go j σ).1 ≤ σ.1 + j ∧ (∀ a, 0 ≤ (wS T go j σ).2 a ∧ (wS T go j σ).2 a ≤ 6143) ∧ (∀ a, a < σ.1 → (wS T go j σ).2 a = σ.2 a) ∧ (go = 0 → (wS T go j σ).1 = σ.1) ∧
    (∀ a, σ.1 ≤ a → a < (wS T go j σ).1 → ∃ i, i < j ∧ (T ((i : Nat) : Int)).2.2.2 = 1 ∧ (wS T go j σ).2 a = cd (T ((i : Nat) : Int))) ∧ (go ≠ 0 → ∀ i, i < j → (T ((i : Nat) : Int)).2.2.2 = 1 → ∃ a, σ.1 ≤ a ∧ a < (wS T go j σ).1 ∧ (wS T go j σ).2 a = cd (T ((i : Nat) : Int))))
  | 0, _ => ⟨Nat.le_refl _, Nat.le_refl _, hQ, fun _ _ => rfl, fun _ => rfl, fun a h1 h2 => absurd h2 (by unfold wS; omega), fun _ i hi => absurd hi (Nat.not_lt_zero _)⟩
  | j + 1, hj => by
    obtain ⟨g1, g2, g3, g4, g5, g6, g7⟩ := wS_spec (go := go) hT hm hQ j (by omega)
    have hc := cd_lt (hT j)
    unfold wS
    by_cases q : go ≠ 0 ∧ (T ((j : Nat) : Int)).2.2.2 = 1
    · rw [if_pos q]
      unfold eQ
      rw [if_pos (by omega)]
      refine ⟨by dsimp only; omega, by dsimp only; omega, fun a => ?_, fun a ha => ?_, fun z => absurd z q.1, fun a h1 h2 => ?_, fun _ i hi hs => ?_⟩
      · dsimp only; unfold fu; split
        · omega
        · exact g3 a
      · dsimp only; rw [fu_n (by omega)]; exact g4 a ha
      · dsimp only at h2 ⊢
        by_cases q9 : a = (wS T go j σ).1
        · exact ⟨j, by omega, q.2, by rw [q9]; exact fu_s⟩
        · obtain ⟨i, i1, i2, i3⟩ := g6 a h1 (by omega)
          exact ⟨i, by omega, i2, by rw [fu_n q9]; exact i3⟩
      · dsimp only
        by_cases q9 : i = j
        · subst q9
          exact ⟨(wS T go i σ).1, g1, by omega, fu_s⟩
        · obtain ⟨a, a1, a2, a3⟩ := g7 q.1 i (by omega) hs
          exact ⟨a, a1, by omega, by rw [fu_n (by omega)]; exact a3⟩
    · rw [if_neg q]
      refine ⟨g1, by omega, g3, g4, g5, fun a h1 h2 => ?_, fun hgo i hi hs => ?_⟩
      · obtain ⟨i, i1, i2⟩ := g6 a h1 h2
        exact ⟨i, by omega, i2⟩
      · by_cases q9 : i = j
        · subst q9; exact absurd ⟨hgo, hs⟩ q
        · exact g7 hgo i (by omega) hs
def FoundM (T : Nat → Nat → B4) (x0 : B4) (most r : Int) : Prop := (r = -1 ∧ ∀ d : Nat, (d : Int) ≤ most → ¬ Win T x0 d) ∨ ∃ d : Nat, (d : Int) ≤ most ∧ r = d ∧ Win T x0 d ∧ ∀ e, e < d → ¬ Win T x0 e
theorem FoundM.of {T : Nat → Nat → B4} {x0 : B4} {most r w : Int} (hf : Found T x0 w) (hm : FoundM T x0 most r) : r = if w ≤ most then w else -1 := by
  rcases hf with ⟨h1, h2⟩ | ⟨d, h1, h2, h3⟩ <;> rcases hm with ⟨g1, g2⟩ | ⟨e, g0, g1, g2, g3⟩
  · split <;> omega
  · exact absurd g2 (h2 e)
  · split
    · exact absurd h2 (g2 d (by omega))
    · exact g1
  · have : d = e := by
      rcases Nat.lt_trichotomy d e with q | q | q
      · exact absurd h2 (g3 d q)
      · exact q
      · exact absurd g2 (h3 e q)
    subst this
    rw [if_pos (by omega), g1, h1]

theorem hu_ab {h : vh} {a b c : Nat} {x x' y z : va_E} (ab : nq a b) (ac : nq a c) : hu (hu (hu (hu h a x) b y) c z) a x' = hu (hu (hu h a x') b y) c z := by
  funext q
  by_cases q1 : q = a
  · subst q1; simp only [hu, if_neg (show ¬ q = c from ac), if_neg (show ¬ q = b from ab), if_true]
  · simp only [hu, if_neg q1]
theorem hu3' {h : vh} {x y z : Nat} {e1 e2 e3 d1 d2 d3 : va_E} : hu (hu (hu (hu (hu (hu h x e1) y e2) z e3) x d1) y d2) z d3 = hu (hu (hu h x d1) y d2) z d3 := by
  funext b
  by_cases b1 : b = z
  · simp only [hu, if_pos b1]
  · by_cases b2 : b = y
    · simp only [hu, if_neg b1, if_pos b2]
    · by_cases b3 : b = x
      · simp only [hu, if_neg b1, if_neg b2, if_pos b3]
      · simp only [hu, if_neg b1, if_neg b2, if_neg b3]

theorem kX5_winsByOneMore_0 : Cond.fieldLink "LedgeLevels$Search" 37 "LedgeLevels$Search" "body" "LLedgeLevels$Body;" ∈ wsX5_winsByOneMore := by decide +kernel
theorem kX5_winsByOneMore_1 : ∀ w ∈ wsX50, w ∈ wsX5_winsByOneMore := by decide +kernel
theorem kX5_winsByOneMore_2 : Cond.fieldLinkNest "LedgeLevels$Search" 70 "LedgeLevels$Body" "fate" "I" "LedgeLevels" ∈ nwAll := by decide +kernel
theorem kX5_winsByOneMore_3 : ∀ w ∈ wsX00, w ∈ wsX5_winsByOneMore := by decide +kernel
set_option maxRecDepth 100000 in
set_option maxHeartbeats 1000000 in
theorem c_X5_winsByOneMore {l : Launch} {D : va_G} {A : Nat → Prop} {h : vh} {o sb sq g ak aq as : Nat} {Qf f q S : Nat → Int} {c0 v0 s0 go : Int} {m t0 al n : Nat} {x1 x2 x3 x4 : Value} (ho : h o = some (eO 5 [.ref sb, .ref sq, x1, x2, x3, vI ((m : Nat) : Int), x4])) (hQ : h sq = some (eI D 6144 Qf)) (hb : h sb = some (eO 0 [.ref as, vI c0, vI v0, vI ((t0 : Nat) : Int), vI s0])) (hg : h g = some (eO 1 [.ref ak, .ref aq, vI ((al : Nat) : Int)])) (hk : h ak = some (eI D 96 f)) (hqq : h aq = some (eI D 3 q)) (hSS : h as = some (eI D 3 S)) (hn : n < 6144) (hm : m ≤ 6100) (rQ : ∀ j, 0 ≤ Qf j ∧ Qf j ≤ 6143) (hgo : 0 ≤ go ∧ go ≤ 1) (hf : ∀ j, 0 ≤ f j ∧ f j ≤ 8) (hq : ∀ j, -1 ≤ q j ∧ q j ≤ 95) (hS : ∀ j, 0 ≤ S j ∧ S j ≤ 4) (hal : al < 8) : MX l D A yX5_winsByOneMore wsX5_winsByOneMore { frames := 4, cells := 0, slots := 0, locals := 91 } [.ref o, .ref g, vI ((n : Nat) : Int), vI go] h (fun rv h' => ∃ (c1 v1 s1 : Int) (t1 j9 : Nat), rv = some (vI (bI (∃ i : Nat, i < 6 ∧ (mvn f q al S n i).2.2.2 = 2))) ∧ h' = hu (hu (hu h sb (eO 0 [.ref as, vI c1, vI v1, vI ((t1 : Nat) : Int), vI s1])) sq (eI D 6144 ((wS (mvn f q al S n) go (j9) (m, Qf)).2))) o (eO 5 [.ref sb, .ref sq, x1, x2, x3, vI (((wS (mvn f q al S n) go (j9) (m, Qf)).1 : Nat) : Int), x4]) ∧ (j9 ≤ 6 ∧ (¬ (∃ i : Nat, i < 6 ∧ (mvn f q al S n i).2.2.2 = 2) → j9 = 6))) := by
  refine MX.of (cc := cX5_winsByOneMore) (maxL := 5) (ret := (some .boolean)) [(0, .ref o), (1, .ref g), (2, vI ((n : Nat) : Int)), (3, vI go)] (by decide +kernel) rfl rfl (Nat.le_of_ble_eq_true rfl) ?_
  intro κ C hkl G
  subst hkl
  have C : CX κ "LedgeLevels$Search" "winsByOneMore" cX5_winsByOneMore wsX5_winsByOneMore { frames := 4, cells := 0, slots := 0, locals := 91 } D A 5 := C
  have hiz : nq (D.1 20) (D.1 21) := cx_iz C
  have nn_o_sq : nq o sq := vnt ho hQ (p := (3, 5)) (q := (0, 6144)) rfl rfl (by decide)
  have nn_sq_o : nq sq o := Ne.symm nn_o_sq
  have nn_o_sb : nq o sb := vnt ho hb (p := (3, 5)) (q := (3, 0)) rfl rfl (by decide)
  have nn_sb_o : nq sb o := Ne.symm nn_o_sb
  have nn_sq_sb : nq sq sb := vnt hQ hb (p := (0, 6144)) (q := (3, 0)) rfl rfl (by decide)
  have nn_sb_sq : nq sb sq := Ne.symm nn_sq_sb
  have hWs := wS_spec (T := mvn f q al S n) (go := go) (fun i => mvn_ok hS hn i) (σ := (m, Qf)) hm rQ
  refine x_iconst C dX5_winsByOneMore_0 0 (by decide) ?_
  refine x_istore C (ls' := [(0, .ref o), (1, .ref g), (2, vI ((n : Nat) : Int)), (3, vI go), (4, vI 0)]) dX5_winsByOneMore_1 (by decide) rfl ?_
  have LP : ∀ (N : Nat) (i t1 : Nat) (c1 v1 s1 : Int) (h1 : vh)  (f0 : h1 o = some (eO 5 [.ref sb, .ref sq, x1, x2, x3, vI (((wS (mvn f q al S n) go (i) (m, Qf)).1 : Nat) : Int), x4])) (f1 : h1 sq = some (eI D 6144 ((wS (mvn f q al S n) go (i) (m, Qf)).2))) (f2 : h1 sb = some (eO 0 [.ref as, vI c1, vI v1, vI ((t1 : Nat) : Int), vI s1])) (ug : h1 g = some (eO 1 [.ref ak, .ref aq, vI ((al : Nat) : Int)])) (uk : h1 ak = some (eI D 96 f)) (uqq : h1 aq = some (eI D 3 q)) (uSS : h1 as = some (eI D 3 S)) (hi : i ≤ 6) (hm9 : 6 - i < N) (hno : ∀ j : Nat, j < i → (mvn f q al S n j).2.2.2 ≠ 2) (he : h1 = hu (hu (hu h sb (eO 0 [.ref as, vI c1, vI v1, vI ((t1 : Nat) : Int), vI s1])) sq (eI D 6144 ((wS (mvn f q al S n) go (i) (m, Qf)).2))) o (eO 5 [.ref sb, .ref sq, x1, x2, x3, vI (((wS (mvn f q al S n) go (i) (m, Qf)).1 : Nat) : Int), x4])), X κ 0 0 h1 [(0, .ref o), (1, .ref g), (2, vI ((n : Nat) : Int)), (3, vI go), (4, vI ((i : Nat) : Int))] 3 [] := by
    intro N
    induction N with
    | zero => intro i t1 c1 v1 s1 h1 f0 f1 f2 ug uk uqq uSS hi hm9 hno he; exfalso; omega
    | succ N ihLP =>
      intro i t1 c1 v1 s1 h1 f0 f1 f2 ug uk uqq uSS hi hm9 hno he
      have hWi := hWs i hi
      refine x_iload C dX5_winsByOneMore_3 4 rfl ?_
      refine x_bipush C dX5_winsByOneMore_5 6 (by decide) ?_
      refine x_icmp_ge (tgt := 73) C dX5_winsByOneMore_7 (by decide) (by omega) (by omega) (fun c2 => ?_) (fun c2 => ?_)
      · skip
        refine x_iconst C dX5_winsByOneMore_73 0 (by decide) ?_
        refine x_zret C G dX5_winsByOneMore_74 (by first | exact Or.inl rfl | exact Or.inr rfl) ?_ (by decide) (by decide)
        have hw9 : ¬ ∃ i : Nat, i < 6 ∧ (mvn f q al S n i).2.2.2 = 2 := fun z => by obtain ⟨a, a1, a2⟩ := z; exact hno a (by omega) a2
        rw [bI_f hw9]
        obtain rfl : i = 6 := by omega
        exact ⟨c1, v1, s1, t1, 6, rfl, he, Nat.le_refl _, fun _ => rfl⟩
      · skip
        refine x_aload_n C dX5_winsByOneMore_10 0 rfl ?_
        refine x_get C (v := .ref sb) f0 (T := TX5) rfl kX5_winsByOneMore_1 0 (by decide) kX5_winsByOneMore_0 rfl dX5_winsByOneMore_11 ?_
        refine x_iload_n C dX5_winsByOneMore_14 2 rfl ?_
        refine x_callV C (n := 1) (qc := (RX0, TX0, 5)) (As := [vI ((n : Nat) : Int)]) (rest := []) (c_X0_unpack f2 (by omega)) gX5_winsByOneMore_X0_unpack (by decide +kernel) f2 rfl rfl rfl rfl (Nat.le_of_ble_eq_true rfl) ⟨by decide, by decide⟩ ⟨by decide, by decide⟩ dX5_winsByOneMore_15 (fun rv3 h4 hp5 => ?_)
        obtain ⟨rfl, e6⟩ := hp5
        have f7 : h4 sb = some (eO 0 [.ref as, vI ((n / 64 : Nat) : Int), vI (((n / 8 % 8 : Nat) : Int) - 4), vI ((n % 8 : Nat) : Int), vI 1]) := by rw [e6]; exact hu_s
        refine x_aload_n C dX5_winsByOneMore_18 0 rfl ?_
        have n9 : nq o sb := vnt f0 f2 (p := (3, 5)) (q := (3, 0)) rfl rfl (by decide)
        have f8 : h4 o = some (eO 5 [.ref sb, .ref sq, x1, x2, x3, vI (((wS (mvn f q al S n) go (i) (m, Qf)).1 : Nat) : Int), x4]) := by rw [e6, hu_n n9]; exact f0
        refine x_get C (v := .ref sb) f8 (T := TX5) rfl kX5_winsByOneMore_1 0 (by decide) kX5_winsByOneMore_0 rfl dX5_winsByOneMore_19 ?_
        refine x_aload_n C dX5_winsByOneMore_22 1 rfl ?_
        refine x_iload C dX5_winsByOneMore_23 4 rfl ?_
        have n11 : nq g sb := vnt ug f2 (p := (3, 1)) (q := (3, 0)) rfl rfl (by decide)
        have f10 : h4 g = some (eO 1 [.ref ak, .ref aq, vI ((al : Nat) : Int)]) := by rw [e6, hu_n n11]; exact ug
        have n13 : nq ak sb := vnt uk f2 (p := (0, 96)) (q := (3, 0)) rfl rfl (by decide)
        have f12 : h4 ak = some (eI D 96 f) := by rw [e6, hu_n n13]; exact uk
        have n15 : nq aq sb := vnt uqq f2 (p := (0, 3)) (q := (3, 0)) rfl rfl (by decide)
        have f14 : h4 aq = some (eI D 3 q) := by rw [e6, hu_n n15]; exact uqq
        have n17 : nq as sb := vnt uSS f2 (p := (0, 3)) (q := (3, 0)) rfl rfl (by decide)
        have f16 : h4 as = some (eI D 3 S) := by rw [e6, hu_n n17]; exact uSS
        refine x_callV C (n := 2) (qc := (RX0, TX0, 5)) (As := [.ref g, vI ((i : Nat) : Int)]) (rest := []) (c_X0_move f7 f10 f12 f14 f16 (by omega) (by omega) (by omega) (by assumption) (by assumption) (by assumption) (by omega) (by omega)) gX5_winsByOneMore_X0_move (by decide +kernel) f7 rfl rfl rfl rfl (Nat.le_of_ble_eq_true rfl) ⟨by decide, by decide⟩ ⟨by decide, by decide⟩ dX5_winsByOneMore_25 (fun rv18 h19 hp20 => ?_)
        obtain ⟨rfl, e21⟩ := hp20
        rw [show (mv f (kbf f q) al S (((i : Nat) : Int)) (((n / 64 : Nat) : Int)) (((n / 8 % 8 : Nat) : Int) - 4) (n % 8)) = (mvn f q al S n ((i : Nat) : Int)) from rfl] at e21
        have f22 : h19 sb = some (eO 0 [.ref as, vI ((mvn f q al S n ((i : Nat) : Int)).1), vI ((mvn f q al S n ((i : Nat) : Int)).2.1), vI (((mvn f q al S n ((i : Nat) : Int)).2.2.1 : Nat) : Int), vI ((mvn f q al S n ((i : Nat) : Int)).2.2.2)]) := by rw [e21]; exact hu_s
        obtain ⟨b1, b2, b3, b4, b5, b6, b7⟩ := mvn_ok (f := f) (q := q) (al := al) hS hn ((i : Nat) : Int)
        refine x_aload_n C dX5_winsByOneMore_28 0 rfl ?_
        have f23 : h19 o = some (eO 5 [.ref sb, .ref sq, x1, x2, x3, vI (((wS (mvn f q al S n) go (i) (m, Qf)).1 : Nat) : Int), x4]) := by rw [e21, hu_n n9]; exact f8
        refine x_get C (v := .ref sb) f23 (T := TX5) rfl kX5_winsByOneMore_1 0 (by decide) kX5_winsByOneMore_0 rfl dX5_winsByOneMore_29 ?_
        refine x_getN (host := "LedgeLevels") C (v := vI ((mvn f q al S n ((i : Nat) : Int)).2.2.2)) f22 (T := TX0) rfl kX5_winsByOneMore_3 4 (by decide) kX5_winsByOneMore_2 rfl dX5_winsByOneMore_32 ?_
        refine x_iconst C dX5_winsByOneMore_35 2 (by decide) ?_
        refine x_icmp_ne (tgt := 41) C dX5_winsByOneMore_36 (by decide) (by omega) (by omega) (fun c24 => ?_) (fun c24 => ?_)
        · skip
          refine x_iload_n C dX5_winsByOneMore_41 3 rfl ?_
          refine x_if_eq (tgt := 67) C dX5_winsByOneMore_42 (by decide) (by omega) (fun c25 => ?_) (fun c25 => ?_)
          · skip
            refine x_iinc C (x := ((i : Nat) : Int)) (ls' := [(0, .ref o), (1, .ref g), (2, vI ((n : Nat) : Int)), (3, vI go), (4, vI ((((i : Nat) : Int)) + 1))]) dX5_winsByOneMore_67 4 rfl (by decide) rfl ?_
            refine x_goto (tgt := 3) C dX5_winsByOneMore_70 (by decide) ?_
            have n27 : nq sq sb := vnt f1 f2 (p := (0, 6144)) (q := (3, 0)) rfl rfl (by decide)
            have f26 : h4 sq = some (eI D 6144 ((wS (mvn f q al S n) go (i) (m, Qf)).2)) := by rw [e6, hu_n n27]; exact f1
            have f28 : h19 sq = some (eI D 6144 ((wS (mvn f q al S n) go (i) (m, Qf)).2)) := by rw [e21, hu_n n27]; exact f26
            have f29 : h19 g = some (eO 1 [.ref ak, .ref aq, vI ((al : Nat) : Int)]) := by rw [e21, hu_n n11]; exact f10
            have f30 : h19 ak = some (eI D 96 f) := by rw [e21, hu_n n13]; exact f12
            have f31 : h19 aq = some (eI D 3 q) := by rw [e21, hu_n n15]; exact f14
            have f32 : h19 as = some (eI D 3 S) := by rw [e21, hu_n n17]; exact f16
            have hif : wS (mvn f q al S n) go (i + 1) (m, Qf) = if go ≠ 0 ∧ (mvn f q al S n ((i : Nat) : Int)).2.2.2 = 1 then eQ (cd (mvn f q al S n ((i : Nat) : Int))) (wS (mvn f q al S n) go i (m, Qf)) else wS (mvn f q al S n) go i (m, Qf) := rfl
            have hif2 : (go ≠ 0 ∧ (mvn f q al S n ((i : Nat) : Int)).2.2.2 = 1 ∧ wS (mvn f q al S n) go (i + 1) (m, Qf) = eQ (cd (mvn f q al S n ((i : Nat) : Int))) (wS (mvn f q al S n) go i (m, Qf))) ∨ (¬ (go ≠ 0 ∧ (mvn f q al S n ((i : Nat) : Int)).2.2.2 = 1) ∧ wS (mvn f q al S n) go (i + 1) (m, Qf) = wS (mvn f q al S n) go i (m, Qf)) := by
              by_cases q9 : go ≠ 0 ∧ (mvn f q al S n ((i : Nat) : Int)).2.2.2 = 1
              · rw [if_pos q9] at hif; exact Or.inl ⟨q9.1, q9.2, hif⟩
              · rw [if_neg q9] at hif; exact Or.inr ⟨q9, hif⟩
            have hstep : wS (mvn f q al S n) go (i + 1) (m, Qf) = (wS (mvn f q al S n) go i (m, Qf)) := by
              rcases hif2 with ⟨a1, a2, a3⟩ | ⟨a1, a3⟩
              · exact a3.trans (by first | rfl | (exfalso; omega))
              · exact a3.trans (by first | rfl | (exfalso; exact a1 ⟨by assumption, by assumption⟩))
            exact ihLP (i + 1) ((mvn f q al S n ((i : Nat) : Int)).2.2.1) ((mvn f q al S n ((i : Nat) : Int)).1) ((mvn f q al S n ((i : Nat) : Int)).2.1) ((mvn f q al S n ((i : Nat) : Int)).2.2.2) h19 (by rw [hstep]; exact f23) (by rw [hstep]; exact f28) f22 f29 f30 f31 f32 (by omega) (by omega) (fun j hj => by
    rcases (show j < i ∨ j = i by omega) with q9 | q9
    · exact hno j q9
    · rw [q9]; assumption) (by rw [hstep, e21, e6, he]; simp only [hu_u]; exact hu_ab nn_sb_sq nn_sb_o)
          · skip
            refine x_aload_n C dX5_winsByOneMore_45 0 rfl ?_
            refine x_get C (v := .ref sb) f23 (T := TX5) rfl kX5_winsByOneMore_1 0 (by decide) kX5_winsByOneMore_0 rfl dX5_winsByOneMore_46 ?_
            refine x_getN (host := "LedgeLevels") C (v := vI ((mvn f q al S n ((i : Nat) : Int)).2.2.2)) f22 (T := TX0) rfl kX5_winsByOneMore_3 4 (by decide) kX5_winsByOneMore_2 rfl dX5_winsByOneMore_49 ?_
            refine x_iconst C dX5_winsByOneMore_52 1 (by decide) ?_
            refine x_icmp_ne (tgt := 67) C dX5_winsByOneMore_53 (by decide) (by omega) (by omega) (fun c33 => ?_) (fun c33 => ?_)
            · skip
              refine x_iinc C (x := ((i : Nat) : Int)) (ls' := [(0, .ref o), (1, .ref g), (2, vI ((n : Nat) : Int)), (3, vI go), (4, vI ((((i : Nat) : Int)) + 1))]) dX5_winsByOneMore_67 4 rfl (by decide) rfl ?_
              refine x_goto (tgt := 3) C dX5_winsByOneMore_70 (by decide) ?_
              have n35 : nq sq sb := vnt f1 f2 (p := (0, 6144)) (q := (3, 0)) rfl rfl (by decide)
              have f34 : h4 sq = some (eI D 6144 ((wS (mvn f q al S n) go (i) (m, Qf)).2)) := by rw [e6, hu_n n35]; exact f1
              have f36 : h19 sq = some (eI D 6144 ((wS (mvn f q al S n) go (i) (m, Qf)).2)) := by rw [e21, hu_n n35]; exact f34
              have f37 : h19 g = some (eO 1 [.ref ak, .ref aq, vI ((al : Nat) : Int)]) := by rw [e21, hu_n n11]; exact f10
              have f38 : h19 ak = some (eI D 96 f) := by rw [e21, hu_n n13]; exact f12
              have f39 : h19 aq = some (eI D 3 q) := by rw [e21, hu_n n15]; exact f14
              have f40 : h19 as = some (eI D 3 S) := by rw [e21, hu_n n17]; exact f16
              have hif : wS (mvn f q al S n) go (i + 1) (m, Qf) = if go ≠ 0 ∧ (mvn f q al S n ((i : Nat) : Int)).2.2.2 = 1 then eQ (cd (mvn f q al S n ((i : Nat) : Int))) (wS (mvn f q al S n) go i (m, Qf)) else wS (mvn f q al S n) go i (m, Qf) := rfl
              have hif2 : (go ≠ 0 ∧ (mvn f q al S n ((i : Nat) : Int)).2.2.2 = 1 ∧ wS (mvn f q al S n) go (i + 1) (m, Qf) = eQ (cd (mvn f q al S n ((i : Nat) : Int))) (wS (mvn f q al S n) go i (m, Qf))) ∨ (¬ (go ≠ 0 ∧ (mvn f q al S n ((i : Nat) : Int)).2.2.2 = 1) ∧ wS (mvn f q al S n) go (i + 1) (m, Qf) = wS (mvn f q al S n) go i (m, Qf)) := by
                by_cases q9 : go ≠ 0 ∧ (mvn f q al S n ((i : Nat) : Int)).2.2.2 = 1
                · rw [if_pos q9] at hif; exact Or.inl ⟨q9.1, q9.2, hif⟩
                · rw [if_neg q9] at hif; exact Or.inr ⟨q9, hif⟩
              have hstep : wS (mvn f q al S n) go (i + 1) (m, Qf) = (wS (mvn f q al S n) go i (m, Qf)) := by
                rcases hif2 with ⟨a1, a2, a3⟩ | ⟨a1, a3⟩
                · exact a3.trans (by first | rfl | (exfalso; omega))
                · exact a3.trans (by first | rfl | (exfalso; exact a1 ⟨by assumption, by assumption⟩))
              exact ihLP (i + 1) ((mvn f q al S n ((i : Nat) : Int)).2.2.1) ((mvn f q al S n ((i : Nat) : Int)).1) ((mvn f q al S n ((i : Nat) : Int)).2.1) ((mvn f q al S n ((i : Nat) : Int)).2.2.2) h19 (by rw [hstep]; exact f23) (by rw [hstep]; exact f36) f22 f37 f38 f39 f40 (by omega) (by omega) (fun j hj => by
    rcases (show j < i ∨ j = i by omega) with q9 | q9
    · exact hno j q9
    · rw [q9]; assumption) (by rw [hstep, e21, e6, he]; simp only [hu_u]; exact hu_ab nn_sb_sq nn_sb_o)
            · skip
              refine x_aload_n C dX5_winsByOneMore_56 0 rfl ?_
              refine x_aload_n C dX5_winsByOneMore_57 0 rfl ?_
              refine x_get C (v := .ref sb) f23 (T := TX5) rfl kX5_winsByOneMore_1 0 (by decide) kX5_winsByOneMore_0 rfl dX5_winsByOneMore_58 ?_
              refine x_callV C (n := 0) (qc := (RX0, TX0, 5)) (As := []) (rest := [.ref o]) (c_X0_packed f22 (by omega) (by omega) (by omega)) gX5_winsByOneMore_X0_packed (by decide +kernel) f22 rfl rfl rfl rfl (Nat.le_of_ble_eq_true rfl) ⟨by decide, by decide⟩ ⟨by decide, by decide⟩ dX5_winsByOneMore_61 (fun rv41 h42 hp43 => ?_)
              obtain ⟨rfl, e44⟩ := hp43
              obtain rfl := e44.symm
              refine x_topv (show ((pkc ((mvn f q al S n ((i : Nat) : Int)).1) ((mvn f q al S n ((i : Nat) : Int)).2.1) ((mvn f q al S n ((i : Nat) : Int)).2.2.1) : Nat) : Int) = ((cd (mvn f q al S n ((i : Nat) : Int)) : Nat) : Int) from by rfl) ?_
              have n46 : nq sq sb := vnt f1 f2 (p := (0, 6144)) (q := (3, 0)) rfl rfl (by decide)
              have f45 : h4 sq = some (eI D 6144 ((wS (mvn f q al S n) go (i) (m, Qf)).2)) := by rw [e6, hu_n n46]; exact f1
              have f47 : h19 sq = some (eI D 6144 ((wS (mvn f q al S n) go (i) (m, Qf)).2)) := by rw [e21, hu_n n46]; exact f45
              refine x_callV C (n := 1) (qc := (RX5, TX5, 7)) (As := [vI ((cd (mvn f q al S n ((i : Nat) : Int)) : Nat) : Int)]) (rest := []) (c_X5_enqueue f23 f47 (by omega) (cd_lt (mvn_ok hS hn ((i : Nat) : Int)))) gX5_winsByOneMore_X5_enqueue (by decide +kernel) f23 rfl rfl rfl rfl (Nat.le_of_ble_eq_true rfl) ⟨by decide, by decide⟩ ⟨by decide, by decide⟩ dX5_winsByOneMore_64 (fun rv48 h49 hp50 => ?_)
              obtain ⟨rfl, e51⟩ := hp50
              have f52 : h49 o = some (eO 5 [.ref sb, .ref sq, x1, x2, x3, vI ((if ((wS (mvn f q al S n) go (i) (m, Qf)).1) < 6144 then ((wS (mvn f q al S n) go (i) (m, Qf)).1) + 1 else ((wS (mvn f q al S n) go (i) (m, Qf)).1) : Nat) : Int), x4]) := by rw [e51]; exact hu_s
              have n54 : nq sq o := vnt f47 f23 (p := (0, 6144)) (q := (3, 5)) rfl rfl (by decide)
              have f53 : h49 sq = some (eI D 6144 (if ((wS (mvn f q al S n) go (i) (m, Qf)).1) < 6144 then fu ((wS (mvn f q al S n) go (i) (m, Qf)).2) ((wS (mvn f q al S n) go (i) (m, Qf)).1) (cd (mvn f q al S n ((i : Nat) : Int))) else ((wS (mvn f q al S n) go (i) (m, Qf)).2))) := by rw [e51, hu_n n54]; exact hu_s
              refine x_iinc C (x := ((i : Nat) : Int)) (ls' := [(0, .ref o), (1, .ref g), (2, vI ((n : Nat) : Int)), (3, vI go), (4, vI ((((i : Nat) : Int)) + 1))]) dX5_winsByOneMore_67 4 rfl (by decide) rfl ?_
              refine x_goto (tgt := 3) C dX5_winsByOneMore_70 (by decide) ?_
              have f55 : h49 sb = some (eO 0 [.ref as, vI ((mvn f q al S n ((i : Nat) : Int)).1), vI ((mvn f q al S n ((i : Nat) : Int)).2.1), vI (((mvn f q al S n ((i : Nat) : Int)).2.2.1 : Nat) : Int), vI ((mvn f q al S n ((i : Nat) : Int)).2.2.2)]) := by rw [e51, hu_n (Ne.symm n9), hu_n (Ne.symm n46)]; exact f22
              have f56 : h19 g = some (eO 1 [.ref ak, .ref aq, vI ((al : Nat) : Int)]) := by rw [e21, hu_n n11]; exact f10
              have n58 : nq g o := vnt f56 f23 (p := (3, 1)) (q := (3, 5)) rfl rfl (by decide)
              have n59 : nq g sq := vnt f56 f47 (p := (3, 1)) (q := (0, 6144)) rfl rfl (by decide)
              have f57 : h49 g = some (eO 1 [.ref ak, .ref aq, vI ((al : Nat) : Int)]) := by rw [e51, hu_n n58, hu_n n59]; exact f56
              have f60 : h19 ak = some (eI D 96 f) := by rw [e21, hu_n n13]; exact f12
              have n62 : nq ak o := vnt f60 f23 (p := (0, 96)) (q := (3, 5)) rfl rfl (by decide)
              have n63 : nq ak sq := vnt f60 f47 (p := (0, 96)) (q := (0, 6144)) rfl rfl (by decide)
              have f61 : h49 ak = some (eI D 96 f) := by rw [e51, hu_n n62, hu_n n63]; exact f60
              have f64 : h19 aq = some (eI D 3 q) := by rw [e21, hu_n n15]; exact f14
              have n66 : nq aq o := vnt f64 f23 (p := (0, 3)) (q := (3, 5)) rfl rfl (by decide)
              have n67 : nq aq sq := vnt f64 f47 (p := (0, 3)) (q := (0, 6144)) rfl rfl (by decide)
              have f65 : h49 aq = some (eI D 3 q) := by rw [e51, hu_n n66, hu_n n67]; exact f64
              have f68 : h19 as = some (eI D 3 S) := by rw [e21, hu_n n17]; exact f16
              have n70 : nq as o := vnt f68 f23 (p := (0, 3)) (q := (3, 5)) rfl rfl (by decide)
              have n71 : nq as sq := vnt f68 f47 (p := (0, 3)) (q := (0, 6144)) rfl rfl (by decide)
              have f69 : h49 as = some (eI D 3 S) := by rw [e51, hu_n n70, hu_n n71]; exact f68
              have hif : wS (mvn f q al S n) go (i + 1) (m, Qf) = if go ≠ 0 ∧ (mvn f q al S n ((i : Nat) : Int)).2.2.2 = 1 then eQ (cd (mvn f q al S n ((i : Nat) : Int))) (wS (mvn f q al S n) go i (m, Qf)) else wS (mvn f q al S n) go i (m, Qf) := rfl
              have hif2 : (go ≠ 0 ∧ (mvn f q al S n ((i : Nat) : Int)).2.2.2 = 1 ∧ wS (mvn f q al S n) go (i + 1) (m, Qf) = eQ (cd (mvn f q al S n ((i : Nat) : Int))) (wS (mvn f q al S n) go i (m, Qf))) ∨ (¬ (go ≠ 0 ∧ (mvn f q al S n ((i : Nat) : Int)).2.2.2 = 1) ∧ wS (mvn f q al S n) go (i + 1) (m, Qf) = wS (mvn f q al S n) go i (m, Qf)) := by
                by_cases q9 : go ≠ 0 ∧ (mvn f q al S n ((i : Nat) : Int)).2.2.2 = 1
                · rw [if_pos q9] at hif; exact Or.inl ⟨q9.1, q9.2, hif⟩
                · rw [if_neg q9] at hif; exact Or.inr ⟨q9, hif⟩
              have hstep : wS (mvn f q al S n) go (i + 1) (m, Qf) = eQ (cd (mvn f q al S n ((i : Nat) : Int))) (wS (mvn f q al S n) go i (m, Qf)) := by
                rcases hif2 with ⟨a1, a2, a3⟩ | ⟨a1, a3⟩
                · exact a3.trans (by first | rfl | (exfalso; omega))
                · exact a3.trans (by first | rfl | (exfalso; exact a1 ⟨by assumption, by assumption⟩))
              have hlt9 : (wS (mvn f q al S n) go i (m, Qf)).1 < 6144 := by omega
              have heq9 : eQ (cd (mvn f q al S n ((i : Nat) : Int))) (wS (mvn f q al S n) go i (m, Qf)) = ((wS (mvn f q al S n) go i (m, Qf)).1 + 1, fu (wS (mvn f q al S n) go i (m, Qf)).2 (wS (mvn f q al S n) go i (m, Qf)).1 ((cd (mvn f q al S n ((i : Nat) : Int)) : Nat) : Int)) := by unfold eQ; rw [if_pos hlt9]
              rw [heq9] at hstep
              exact ihLP (i + 1) ((mvn f q al S n ((i : Nat) : Int)).2.2.1) ((mvn f q al S n ((i : Nat) : Int)).1) ((mvn f q al S n ((i : Nat) : Int)).2.1) ((mvn f q al S n ((i : Nat) : Int)).2.2.2) h49 (by rw [hstep]; have q9 := f52; rw [if_pos hlt9] at q9; exact q9) (by rw [hstep]; have q9 := f53; rw [if_pos hlt9] at q9; exact q9) f55 f57 f61 f65 f69 (by omega) (by omega) (fun j hj => by
    rcases (show j < i ∨ j = i by omega) with q9 | q9
    · exact hno j q9
    · rw [q9]; assumption) (by rw [hstep, e51, e21, e6, he, if_pos hlt9, if_pos hlt9]; simp only [hu_u]; exact hu3')
        · skip
          refine x_iconst C dX5_winsByOneMore_39 1 (by decide) ?_
          refine x_zret C G dX5_winsByOneMore_40 (by first | exact Or.inl rfl | exact Or.inr rfl) ?_ (by decide) (by decide)
          have hw9 : ∃ i : Nat, i < 6 ∧ (mvn f q al S n i).2.2.2 = 2 := ⟨i, by omega, by assumption⟩
          rw [bI_t hw9]
          exact ⟨(mvn f q al S n ((i : Nat) : Int)).1, (mvn f q al S n ((i : Nat) : Int)).2.1, (mvn f q al S n ((i : Nat) : Int)).2.2.2, (mvn f q al S n ((i : Nat) : Int)).2.2.1, i, rfl, by rw [e21, e6, he]; simp only [hu_u]; exact hu_ab nn_sb_sq nn_sb_o, by omega, fun z => absurd hw9 z⟩
  exact LP (7) 0 t0 c0 v0 s0 h ho hQ hb hg hk hqq hSS (by omega) (by omega) (fun j hj => by omega) (by show h = hu (hu (hu h sb (eO 0 [.ref as, vI c0, vI v0, vI ((t0 : Nat) : Int), vI s0])) sq (eI D 6144 Qf)) o (eO 5 [.ref sb, .ref sq, x1, x2, x3, vI ((m : Nat) : Int), x4]); rw [hu_i hb, hu_i hQ, hu_i ho])


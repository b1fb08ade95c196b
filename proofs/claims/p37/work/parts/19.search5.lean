theorem Rch_s {T : Nat → Nat → B4} {x0 : B4} : ∀ d p, Rch T x0 d p → x0.2.2.2 = 1
  | 0, _, h => h.1
  | d + 1, _, h => by obtain ⟨p, hp, _⟩ := h; exact Rch_s d p hp
/-- one more place of the queue is tried: what the queue's end says of the codes that come out of the places so far -/
def rowA (T : Nat → Nat → B4) (Q : Nat → Int) (nx ix en m : Nat) : Prop := ∀ p' : Nat, (∃ j, nx ≤ j ∧ j < ix ∧ ∃ i, i < 6 ∧ (T (Q j).toNat i).2.2.2 = 1 ∧ p' = cd (T (Q j).toNat i)) ↔ ∃ j', en ≤ j' ∧ j' < m ∧ Q j' = (p' : Int)
theorem rowA.step {T : Nat → Nat → B4} {T1 : Int → B4} {Q : Nat → Int} {nx ix en m n : Nat} {go : Int} (h : rowA T Q nx ix en m) (hix : nx ≤ ix) (hen : ix < en) (hem : en ≤ m) (hgo : go ≠ 0) (hm : m ≤ 6100) (hQ : ∀ j, 0 ≤ Q j ∧ Q j ≤ 6143) (hn : Q ix = (n : Int)) (hT1 : ∀ i : Nat, T1 ((i : Nat) : Int) = T n i) (hok : ∀ i : Nat, bOK (T1 i)) :
    rowA T (wS T1 go 6 (m, Q)).2 nx (ix + 1) en (wS T1 go 6 (m, Q)).1 := by
  obtain ⟨g1, g2, g3, g4, g5, g6, g7⟩ := wS_spec (go := go) hok (σ := (m, Q)) hm hQ 6 (Nat.le_refl _)
  dsimp only at g1 g2 g4 g5 g6 g7
  have hnn : (Q ix).toNat = n := by rw [hn]; rfl
  intro p'
  constructor
  · rintro ⟨j, j1, j2, i, i1, i2, i3⟩
    rw [g4 j (by omega)] at i2 i3
    by_cases q : j = ix
    · subst q
      rw [hnn, ← hT1] at i2 i3
      obtain ⟨a, a1, a2, a3⟩ := g7 hgo i i1 i2
      exact ⟨a, by omega, a2, by rw [a3, i3]⟩
    · obtain ⟨j', b1, b2, b3⟩ := (h p').mp ⟨j, j1, by omega, i, i1, i2, i3⟩
      exact ⟨j', b1, by omega, by rw [g4 j' b2]; exact b3⟩
  · rintro ⟨j', b1, b2, b3⟩
    rcases Nat.lt_or_ge j' m with q | q
    · rw [g4 j' q] at b3
      obtain ⟨j, j1, j2, i, i1, i2, i3⟩ := (h p').mpr ⟨j', b1, q, b3⟩
      exact ⟨j, j1, by omega, i, i1, by rw [g4 j (by omega)]; exact ⟨i2, i3⟩⟩
    · obtain ⟨i, i1, i2, i3⟩ := g6 j' q b2
      rw [hT1] at i2 i3
      refine ⟨ix, hix, by omega, i, i1, ?_⟩
      rw [g4 ix (by omega), hnn]
      exact ⟨i2, by omega⟩

theorem rowA.next {T : Nat → Nat → B4} {x0 : B4} {Q : Nat → Int} {nx en m st : Nat} (h : rowA T Q nx en en m) (hs : 1 ≤ st) (hQ : ∀ j, 0 ≤ Q j ∧ Q j ≤ 6143) (hsg : ∀ p : Nat, Rch T x0 (st - 1) p ↔ ∃ j, nx ≤ j ∧ j < en ∧ Q j = (p : Int)) : ∀ p : Nat, Rch T x0 st p ↔ ∃ j, en ≤ j ∧ j < m ∧ Q j = (p : Int) := by
  obtain ⟨s, rfl⟩ : ∃ s, st = s + 1 := ⟨st - 1, by omega⟩
  intro p
  rw [← h p]
  constructor
  · rintro ⟨p', hp', i, i1, i2, i3⟩
    obtain ⟨j, j1, j2, j3⟩ := (hsg p').mp hp'
    exact ⟨j, j1, j2, i, i1, by rw [j3]; exact ⟨i2, i3⟩⟩
  · rintro ⟨j, j1, j2, i, i1, i2, i3⟩
    exact ⟨(Q j).toNat, (hsg _).mpr ⟨j, j1, j2, by have := hQ j; omega⟩, i, i1, i2, i3⟩
theorem rowA.no {T : Nat → Nat → B4} {x0 : B4} {Q : Nat → Int} {nx en st : Nat} (hs : 1 ≤ st) (hsg : ∀ p : Nat, Rch T x0 (st - 1) p ↔ ∃ j, nx ≤ j ∧ j < en ∧ Q j = (p : Int)) (hnw : ∀ j, nx ≤ j → j < en → ∀ i, i < 6 → (T (Q j).toNat i).2.2.2 ≠ 2) : ¬ Win T x0 st := by
  obtain ⟨s, rfl⟩ : ∃ s, st = s + 1 := ⟨st - 1, by omega⟩
  rintro ⟨p', hp', i, i1, i2⟩
  obtain ⟨j, j1, j2, j3⟩ := (hsg p').mp hp'
  exact hnw j j1 j2 i i1 (by rw [j3]; exact i2)
theorem hu_cyc {h : vh} {a b o : Nat} {x y z : va_E} (ab : nq a b) (ao : nq a o) (bo : nq b o) : hu (hu (hu h o z) b y) a x = hu (hu (hu h a x) b y) o z := by
  funext q
  by_cases q1 : q = o
  · have h1 : ¬ q = a := fun e => ao (e.symm.trans q1)
    have h2 : ¬ q = b := fun e => bo (e.symm.trans q1)
    simp only [hu, if_neg h1, if_neg h2, if_pos q1]
  · by_cases q2 : q = b
    · have h1 : ¬ q = a := fun e => ab (e.symm.trans q2)
      simp only [hu, if_neg h1, if_pos q2, if_neg q1]
    · simp only [hu, if_neg q2, if_neg q1]
theorem hu_o5 {h : vh} {a b c o : Nat} {x y z v w : va_E} (ab : nq a b) : hu (hu (hu (hu (hu h o x) b y) a z) c w) o v = hu (hu (hu (hu h a z) b y) c w) o v := by
  funext q
  by_cases q1 : q = o
  · simp only [hu, if_pos q1]
  · by_cases q2 : q = c
    · simp only [hu, if_neg q1, if_pos q2]
    · by_cases q3 : q = b
      · have h1 : ¬ q = a := fun e => ab (e.symm.trans q3)
        simp only [hu, if_neg q1, if_neg q2, if_pos q3, if_neg h1]
      · simp only [hu, if_neg q1, if_neg q2, if_neg q3]
theorem hu_rows {h : vh} {a b c o : Nat} {x y z v x' z' v' : va_E} (ab : nq a b) : hu (hu (hu (hu (hu (hu (hu h a x) b y) c z) o v) a x') c z') o v' = hu (hu (hu (hu h a x') b y) c z') o v' := by
  funext q
  by_cases q1 : q = o
  · simp only [hu, if_pos q1]
  · by_cases q2 : q = c
    · simp only [hu, if_neg q1, if_pos q2]
    · by_cases q3 : q = b
      · have h1 : ¬ q = a := fun e => ab (e.symm.trans q3)
        simp only [hu, if_neg q1, if_neg q2, if_pos q3, if_neg h1]
      · by_cases q4 : q = a
        · simp only [hu, if_neg q1, if_neg q2, if_neg q3, if_pos q4]
        · simp only [hu, if_neg q1, if_neg q2, if_neg q3, if_neg q4]

theorem kX5_fewestStepsByRows_0 : Cond.fieldLink "LedgeLevels$Search" 37 "LedgeLevels$Search" "body" "LLedgeLevels$Body;" ∈ wsX5_fewestStepsByRows := by decide +kernel
theorem kX5_fewestStepsByRows_1 : ∀ w ∈ wsX50, w ∈ wsX5_fewestStepsByRows := by decide +kernel
theorem kX5_fewestStepsByRows_2 : Cond.fieldLinkNest "LedgeLevels$Search" 70 "LedgeLevels$Body" "fate" "I" "LedgeLevels" ∈ nwAll := by decide +kernel
theorem kX5_fewestStepsByRows_3 : ∀ w ∈ wsX00, w ∈ wsX5_fewestStepsByRows := by decide +kernel
theorem kX5_fewestStepsByRows_4 : Cond.fieldLink "LedgeLevels$Search" 26 "LedgeLevels$Search" "tail" "I" ∈ wsX5_fewestStepsByRows := by decide +kernel
set_option maxRecDepth 100000 in
set_option maxHeartbeats 1000000 in
theorem c_X5_fewestStepsByRows {l : Launch} {D : va_G} {A : Nat → Prop} {h : vh} {o sb sq sn sr g ak aq as : Nat} {Qf Nf Rz f q S : Nat → Int} {num w c0 v0 s0 z e : Int} {m t0 al : Nat} (ho : h o = some (eO 5 [.ref sb, .ref sq, .ref sn, .ref sr, vI num, vI ((m : Nat) : Int), vI w])) (hQ : h sq = some (eI D 6144 Qf)) (hR : h sr = some (eZ D 96 Rz)) (hb : h sb = some (eO 0 [.ref as, vI c0, vI v0, vI ((t0 : Nat) : Int), vI s0])) (hg : h g = some (eO 1 [.ref ak, .ref aq, vI ((al : Nat) : Int)])) (hk : h ak = some (eI D 96 f)) (hqq : h aq = some (eI D 3 q)) (hSS : h as = some (eI D 3 S)) (hz : 0 ≤ z ∧ z ≤ 95) (he9 : 0 ≤ e ∧ e ≤ 5) (hok : SSok num (m, Qf, Nf, Rz, w)) (hnum : 0 ≤ num ∧ num ≤ 900000) (hf : ∀ j, 0 ≤ f j ∧ f j ≤ 8) (hq : ∀ j, -1 ≤ q j ∧ q j ≤ 95) (hS : ∀ j, 0 ≤ S j ∧ S j ≤ 4) (hal : al < 8) : MX l D A yX5_fewestStepsByRows wsX5_fewestStepsByRows { frames := 5, cells := 0, slots := 0, locals := 115 } [.ref o, .ref g, vI z, vI e] h (fun rv h' => ∃ (c1 v1 s1 r1 : Int) (t1 m1 : Nat) (Q1 : Nat → Int), rv = some (vI r1) ∧ h' = hu (hu (hu (hu h sb (eO 0 [.ref as, vI c1, vI v1, vI ((t1 : Nat) : Int), vI s1])) sr (eZ D 96 (rz0 Rz 96))) sq (eI D 6144 Q1)) o (eO 5 [.ref sb, .ref sq, .ref sn, .ref sr, vI (num + 1), vI ((m1 : Nat) : Int), vI (-1)]) ∧ (FoundM (TT f q al S) (X0 f q z) e r1) ∧ (SSok (num + 1) (m1, Q1, Nf, rz0 Rz 96, -1))) := by
  refine MX.of (cc := cX5_fewestStepsByRows) (maxL := 8) (ret := (some .int)) [(0, .ref o), (1, .ref g), (2, vI z), (3, vI e)] (by decide +kernel) rfl rfl (Nat.le_of_ble_eq_true rfl) ?_
  intro κ C hkl G
  subst hkl
  have C : CX κ "LedgeLevels$Search" "fewestStepsByRows" cX5_fewestStepsByRows wsX5_fewestStepsByRows { frames := 5, cells := 0, slots := 0, locals := 115 } D A 8 := C
  have hiz : nq (D.1 20) (D.1 21) := cx_iz C
  have hTok := TT_ok (f := f) (q := q) (al := al) hS
  have hXok := X0_ok (f := f) (q := q) hz
  have hXb := X0_b (f := f) (q := q) (z := z)
  obtain ⟨y1, y2, y3, y4, y5, y6, y7⟩ := id hXok
  have nn_o_sq : nq o sq := vnt ho hQ (p := (3, 5)) (q := (0, 6144)) rfl rfl (by decide)
  have nn_sq_o : nq sq o := Ne.symm nn_o_sq
  have nn_o_sr : nq o sr := vnt ho hR (p := (3, 5)) (q := (0, 96)) rfl rfl (by decide)
  have nn_sr_o : nq sr o := Ne.symm nn_o_sr
  have nn_o_sb : nq o sb := vnt ho hb (p := (3, 5)) (q := (3, 0)) rfl rfl (by decide)
  have nn_sb_o : nq sb o := Ne.symm nn_o_sb
  have nn_sq_sr : nq sq sr := vnt hQ hR (p := (0, 6144)) (q := (0, 96)) rfl rfl (by decide)
  have nn_sr_sq : nq sr sq := Ne.symm nn_sq_sr
  have nn_sq_sb : nq sq sb := vnt hQ hb (p := (0, 6144)) (q := (3, 0)) rfl rfl (by decide)
  have nn_sb_sq : nq sb sq := Ne.symm nn_sq_sb
  have nn_sr_sb : nq sr sb := vnt hR hb (p := (0, 96)) (q := (3, 0)) rfl rfl (by decide)
  have nn_sb_sr : nq sb sr := Ne.symm nn_sr_sb
  refine x_aload_n C dX5_fewestStepsByRows_0 0 rfl ?_
  refine x_callV C (n := 0) (qc := (RX5, TX5, 7)) (As := []) (rest := []) (c_X5_restart ho hR (by omega)) gX5_fewestStepsByRows_X5_restart (by decide +kernel) ho rfl rfl rfl rfl (Nat.le_of_ble_eq_true rfl) ⟨by decide, by decide⟩ ⟨by decide, by decide⟩ dX5_fewestStepsByRows_1 (fun rv1 h2 hp3 => ?_)
  obtain ⟨rfl, e4⟩ := hp3
  have f5 : h2 sr = some (eZ D 96 (rz0 Rz 96)) := by rw [e4]; exact hu_s
  have n7 : nq o sr := vnt ho hR (p := (3, 5)) (q := (0, 96)) rfl rfl (by decide)
  have f6 : h2 o = some (eO 5 [.ref sb, .ref sq, .ref sn, .ref sr, vI (num + 1), vI ((0 : Nat) : Int), vI (-1)]) := by rw [e4, hu_n n7]; exact hu_s
  refine x_aload_n C dX5_fewestStepsByRows_4 0 rfl ?_
  refine x_get C (v := .ref sb) f6 (T := TX5) rfl kX5_fewestStepsByRows_1 0 (by decide) kX5_fewestStepsByRows_0 rfl dX5_fewestStepsByRows_5 ?_
  refine x_aload_n C dX5_fewestStepsByRows_8 1 rfl ?_
  refine x_iload_n C dX5_fewestStepsByRows_9 2 rfl ?_
  have n9 : nq sb sr := vnt hb hR (p := (3, 0)) (q := (0, 96)) rfl rfl (by decide)
  have n10 : nq sb o := vnt hb ho (p := (3, 0)) (q := (3, 5)) rfl rfl (by decide)
  have f8 : h2 sb = some (eO 0 [.ref as, vI c0, vI v0, vI ((t0 : Nat) : Int), vI s0]) := by rw [e4, hu_n n9, hu_n n10]; exact hb
  have n12 : nq g sr := vnt hg hR (p := (3, 1)) (q := (0, 96)) rfl rfl (by decide)
  have n13 : nq g o := vnt hg ho (p := (3, 1)) (q := (3, 5)) rfl rfl (by decide)
  have f11 : h2 g = some (eO 1 [.ref ak, .ref aq, vI ((al : Nat) : Int)]) := by rw [e4, hu_n n12, hu_n n13]; exact hg
  have n15 : nq ak sr := viz hk hR hiz
  have n16 : nq ak o := vnt hk ho (p := (0, 96)) (q := (3, 5)) rfl rfl (by decide)
  have f14 : h2 ak = some (eI D 96 f) := by rw [e4, hu_n n15, hu_n n16]; exact hk
  have n18 : nq aq sr := vnt hqq hR (p := (0, 3)) (q := (0, 96)) rfl rfl (by decide)
  have n19 : nq aq o := vnt hqq ho (p := (0, 3)) (q := (3, 5)) rfl rfl (by decide)
  have f17 : h2 aq = some (eI D 3 q) := by rw [e4, hu_n n18, hu_n n19]; exact hqq
  refine x_callV C (n := 2) (qc := (RX0, TX0, 5)) (As := [.ref g, vI z]) (rest := []) (c_X0_placeAtStart f8 f11 f14 f17 (by omega) (by assumption) (by assumption)) gX5_fewestStepsByRows_X0_placeAtStart (by decide +kernel) f8 rfl rfl rfl rfl (Nat.le_of_ble_eq_true rfl) ⟨by decide, by decide⟩ ⟨by decide, by decide⟩ dX5_fewestStepsByRows_10 (fun rv20 h21 hp22 => ?_)
  obtain ⟨rfl, e23⟩ := hp22
  rw [show (cm f (kbf f q) z (z, 0, 1)).1 = (X0 f q z).1 from rfl] at e23
  rw [show (cm f (kbf f q) z (z, 0, 1)).2.1 = (X0 f q z).2.2.1 from rfl] at e23
  rw [show (cm f (kbf f q) z (z, 0, 1)).2.2 = (X0 f q z).2.2.2 from rfl] at e23
  have f24 : h21 sb = some (eO 0 [.ref as, vI ((X0 f q z).1), vI 0, vI (((X0 f q z).2.2.1 : Nat) : Int), vI ((X0 f q z).2.2.2)]) := by rw [e23]; exact hu_s
  refine x_aload_n C dX5_fewestStepsByRows_13 0 rfl ?_
  have f25 : h21 o = some (eO 5 [.ref sb, .ref sq, .ref sn, .ref sr, vI (num + 1), vI ((0 : Nat) : Int), vI (-1)]) := by rw [e23, hu_n (Ne.symm n10)]; exact f6
  refine x_get C (v := .ref sb) f25 (T := TX5) rfl kX5_fewestStepsByRows_1 0 (by decide) kX5_fewestStepsByRows_0 rfl dX5_fewestStepsByRows_14 ?_
  refine x_getN (host := "LedgeLevels") C (v := vI ((X0 f q z).2.2.2)) f24 (T := TX0) rfl kX5_fewestStepsByRows_3 4 (by decide) kX5_fewestStepsByRows_2 rfl dX5_fewestStepsByRows_17 ?_
  refine x_iconst C dX5_fewestStepsByRows_20 1 (by decide) ?_
  refine x_icmp_eq (tgt := 41) C dX5_fewestStepsByRows_21 (by decide) (by omega) (by omega) (fun c26 => ?_) (fun c26 => ?_)
  · skip
    refine x_aload_n C dX5_fewestStepsByRows_41 0 rfl ?_
    refine x_aload_n C dX5_fewestStepsByRows_42 0 rfl ?_
    refine x_get C (v := .ref sb) f25 (T := TX5) rfl kX5_fewestStepsByRows_1 0 (by decide) kX5_fewestStepsByRows_0 rfl dX5_fewestStepsByRows_43 ?_
    refine x_callV C (n := 0) (qc := (RX0, TX0, 5)) (As := []) (rest := [.ref o]) (c_X0_packed f24 (by omega) (by omega) (by omega)) gX5_fewestStepsByRows_X0_packed (by decide +kernel) f24 rfl rfl rfl rfl (Nat.le_of_ble_eq_true rfl) ⟨by decide, by decide⟩ ⟨by decide, by decide⟩ dX5_fewestStepsByRows_46 (fun rv27 h28 hp29 => ?_)
    obtain ⟨rfl, e30⟩ := hp29
    obtain rfl := e30.symm
    refine x_topv (show ((pkc ((X0 f q z).1) 0 ((X0 f q z).2.2.1) : Nat) : Int) = ((cd (X0 f q z) : Nat) : Int) from by rfl) ?_
    have n32 : nq sq sr := vnt hQ hR (p := (0, 6144)) (q := (0, 96)) rfl rfl (by decide)
    have n33 : nq sq o := vnt hQ ho (p := (0, 6144)) (q := (3, 5)) rfl rfl (by decide)
    have f31 : h2 sq = some (eI D 6144 Qf) := by rw [e4, hu_n n32, hu_n n33]; exact hQ
    have n35 : nq sq sb := vnt f31 f8 (p := (0, 6144)) (q := (3, 0)) rfl rfl (by decide)
    have f34 : h21 sq = some (eI D 6144 Qf) := by rw [e23, hu_n n35]; exact f31
    refine x_callV C (n := 1) (qc := (RX5, TX5, 7)) (As := [vI ((cd (X0 f q z) : Nat) : Int)]) (rest := []) (c_X5_enqueue f25 f34 (by omega) (cd_lt hXok)) gX5_fewestStepsByRows_X5_enqueue (by decide +kernel) f25 rfl rfl rfl rfl (Nat.le_of_ble_eq_true rfl) ⟨by decide, by decide⟩ ⟨by decide, by decide⟩ dX5_fewestStepsByRows_49 (fun rv36 h37 hp38 => ?_)
    obtain ⟨rfl, e39⟩ := hp38
    rw [show (if 0 < 6144 then fu Qf 0 (cd (X0 f q z)) else Qf) = (fu Qf 0 ((cd (X0 f q z) : Nat) : Int)) from rfl] at e39
    rw [show (if 0 < 6144 then 0 + 1 else 0) = 1 from rfl] at e39
    have f40 : h37 o = some (eO 5 [.ref sb, .ref sq, .ref sn, .ref sr, vI (num + 1), vI ((1 : Nat) : Int), vI (-1)]) := by rw [e39]; exact hu_s
    have f41 : h37 sq = some (eI D 6144 ((fu Qf 0 ((cd (X0 f q z) : Nat) : Int)))) := by rw [e39, hu_n n33]; exact hu_s
    refine x_iconst C dX5_fewestStepsByRows_52 0 (by decide) ?_
    refine x_istore C (ls' := [(0, .ref o), (1, .ref g), (2, vI z), (3, vI e), (4, vI 0)]) dX5_fewestStepsByRows_53 (by decide) rfl ?_
    refine x_iconst C dX5_fewestStepsByRows_55 1 (by decide) ?_
    refine x_istore C (ls' := [(0, .ref o), (1, .ref g), (2, vI z), (3, vI e), (4, vI 0), (5, vI 1)]) dX5_fewestStepsByRows_56 (by decide) rfl ?_
    have OUT : ∀ (N : Nat) (m1 nx st t1 : Nat) (Q1 : Nat → Int) (c1 v1 s1 : Int) (h42 : vh)  (f0 : h42 o = some (eO 5 [.ref sb, .ref sq, .ref sn, .ref sr, vI (num + 1), vI ((m1 : Nat) : Int), vI (-1)])) (f1 : h42 sq = some (eI D 6144 Q1)) (f2 : h42 sb = some (eO 0 [.ref as, vI c1, vI v1, vI ((t1 : Nat) : Int), vI s1])) (f3 : h42 g = some (eO 1 [.ref ak, .ref aq, vI ((al : Nat) : Int)])) (f4 : h42 ak = some (eI D 96 f)) (f5 : h42 aq = some (eI D 3 q)) (f6 : h42 as = some (eI D 3 S)) (hQ1 : ∀ j, 0 ≤ Q1 j ∧ Q1 j ≤ 6143) (hst : 1 ≤ st ∧ ((st : Nat) : Int) ≤ e + 1) (hnx : nx ≤ m1) (hmb : m1 ≤ 1560) (hpw : 5 * m1 + 1 ≤ 6 ^ st) (hqw : m1 - nx ≤ 6 ^ (st - 1)) (hno : ∀ d, d < st → ¬ Win (TT f q al S) (X0 f q z) d) (hseg : ((st : Nat) : Int) ≤ e → ∀ p : Nat, Rch (TT f q al S) (X0 f q z) (st - 1) p ↔ ∃ j, nx ≤ j ∧ j < m1 ∧ Q1 j = (p : Int)) (hm9 : 7 - st < N) (he : h42 = hu (hu (hu (hu h sb (eO 0 [.ref as, vI c1, vI v1, vI ((t1 : Nat) : Int), vI s1])) sr (eZ D 96 (rz0 Rz 96))) sq (eI D 6144 Q1)) o (eO 5 [.ref sb, .ref sq, .ref sn, .ref sr, vI (num + 1), vI ((m1 : Nat) : Int), vI (-1)])), X κ 0 0 h42 [(0, .ref o), (1, .ref g), (2, vI z), (3, vI e), (4, vI ((nx : Nat) : Int)), (5, vI ((st : Nat) : Int))] 58 [] := by
      intro N
      induction N with
      | zero => intro m1 nx st t1 Q1 c1 v1 s1 h42 f0 f1 f2 f3 f4 f5 f6 hQ1 hst hnx hmb hpw hqw hno hseg hm9 he; exfalso; omega
      | succ N ihOUT =>
        intro m1 nx st t1 Q1 c1 v1 s1 h42 f0 f1 f2 f3 f4 f5 f6 hQ1 hst hnx hmb hpw hqw hno hseg hm9 he
        refine x_iload C dX5_fewestStepsByRows_58 5 rfl ?_
        refine x_iload_n C dX5_fewestStepsByRows_60 3 rfl ?_
        refine x_icmp_gt (tgt := 125) C dX5_fewestStepsByRows_61 (by decide) (by omega) (by omega) (fun c43 => ?_) (fun c43 => ?_)
        · skip
          refine x_iconst C dX5_fewestStepsByRows_125 (-1) (by decide) ?_
          refine x_iret C G dX5_fewestStepsByRows_126 ?_ (by decide) (by decide)
          refine ⟨c1, v1, s1, -1, t1, m1, Q1, rfl, he, Or.inl ⟨rfl, fun d hd => hno d (by omega)⟩, ⟨by show m1 ≤ 6144; omega, hQ1, fun j => by have := hok.2.2.1 j; dsimp only at this ⊢; omega, fun j => by have := hok.2.2.2.1 j; dsimp only at this ⊢; unfold rz0; split <;> omega, by show (-1 : Int) ≤ -1; decide, by show (-1 : Int) ≤ 7000; decide⟩⟩
        · skip
          refine x_aload_n C dX5_fewestStepsByRows_64 0 rfl ?_
          refine x_get C (v := vI ((m1 : Nat) : Int)) f0 (T := TX5) rfl kX5_fewestStepsByRows_1 5 (by decide) kX5_fewestStepsByRows_4 rfl dX5_fewestStepsByRows_65 ?_
          refine x_istore C (ls' := [(0, .ref o), (1, .ref g), (2, vI z), (3, vI e), (4, vI ((nx : Nat) : Int)), (5, vI ((st : Nat) : Int)), (6, vI ((m1 : Nat) : Int))]) dX5_fewestStepsByRows_68 (by decide) rfl ?_
          refine x_iload C dX5_fewestStepsByRows_70 4 rfl ?_
          refine x_istore C (ls' := [(0, .ref o), (1, .ref g), (2, vI z), (3, vI e), (4, vI ((nx : Nat) : Int)), (5, vI ((st : Nat) : Int)), (6, vI ((m1 : Nat) : Int)), (7, vI ((nx : Nat) : Int))]) dX5_fewestStepsByRows_72 (by decide) rfl ?_
          have INN : ∀ (M : Nat) (en m2 ix t2 : Nat) (Q2 : Nat → Int) (c2 v2 s2 : Int) (h44 : vh)  (u0 : h44 o = some (eO 5 [.ref sb, .ref sq, .ref sn, .ref sr, vI (num + 1), vI ((m2 : Nat) : Int), vI (-1)])) (u1 : h44 sq = some (eI D 6144 Q2)) (u2 : h44 sb = some (eO 0 [.ref as, vI c2, vI v2, vI ((t2 : Nat) : Int), vI s2])) (u3 : h44 g = some (eO 1 [.ref ak, .ref aq, vI ((al : Nat) : Int)])) (u4 : h44 ak = some (eI D 96 f)) (u5 : h44 aq = some (eI D 3 q)) (u6 : h44 as = some (eI D 3 S)) (hQ2 : ∀ j, 0 ≤ Q2 j ∧ Q2 j ≤ 6143) (hix : nx ≤ ix ∧ ix ≤ en ∧ en ≤ m2) (hm2 : m2 ≤ en + 6 * (ix - nx)) (hen : 5 * en + 1 ≤ 6 ^ st ∧ en - nx ≤ 6 ^ (st - 1)) (hsg : ∀ p : Nat, Rch (TT f q al S) (X0 f q z) (st - 1) p ↔ ∃ j, nx ≤ j ∧ j < en ∧ Q2 j = (p : Int)) (hnw : ∀ j, nx ≤ j → j < ix → ∀ i, i < 6 → (TT f q al S (Q2 j).toNat i).2.2.2 ≠ 2) (hap : ((st : Nat) : Int) < e → rowA (TT f q al S) Q2 nx ix en m2) (hge : ¬ ((st : Nat) : Int) < e → m2 = en) (hm8 : en - ix < M) (he2 : h44 = hu (hu (hu (hu h sb (eO 0 [.ref as, vI c2, vI v2, vI ((t2 : Nat) : Int), vI s2])) sr (eZ D 96 (rz0 Rz 96))) sq (eI D 6144 Q2)) o (eO 5 [.ref sb, .ref sq, .ref sn, .ref sr, vI (num + 1), vI ((m2 : Nat) : Int), vI (-1)])), X κ 0 0 h44 [(0, .ref o), (1, .ref g), (2, vI z), (3, vI e), (4, vI ((nx : Nat) : Int)), (5, vI ((st : Nat) : Int)), (6, vI ((en : Nat) : Int)), (7, vI ((ix : Nat) : Int))] 74 [] := by
            intro M
            induction M with
            | zero => intro en m2 ix t2 Q2 c2 v2 s2 h44 u0 u1 u2 u3 u4 u5 u6 hQ2 hix hm2 hen hsg hnw hap hge hm8 he2; exfalso; omega
            | succ M ihINN =>
              intro en m2 ix t2 Q2 c2 v2 s2 h44 u0 u1 u2 u3 u4 u5 u6 hQ2 hix hm2 hen hsg hnw hap hge hm8 he2
              have h6a : 6 ^ st ≤ 7776 := Nat.pow_le_pow_right (by decide) (show st ≤ 5 by omega)
              have h6c : 6 ^ st = 6 * 6 ^ (st - 1) := by
                obtain ⟨s9, hs9⟩ : ∃ s9, st = s9 + 1 := ⟨st - 1, by omega⟩
                rw [hs9, Nat.add_sub_cancel, Nat.pow_succ, Nat.mul_comm]
              have h6e : 6 ^ (st + 1) = 6 * 6 ^ st := by rw [Nat.pow_succ, Nat.mul_comm]
              have hm6 : m2 ≤ 1560 := by
                by_cases q9 : ((st : Nat) : Int) < e
                · have q8 : 6 ^ (st - 1) ≤ 216 := Nat.pow_le_pow_right (by decide) (show st - 1 ≤ 3 by omega)
                  omega
                · have q8 := hge q9
                  omega
              refine x_iload C dX5_fewestStepsByRows_74 7 rfl ?_
              refine x_iload C dX5_fewestStepsByRows_76 6 rfl ?_
              refine x_icmp_ge (tgt := 115) C dX5_fewestStepsByRows_78 (by decide) (by omega) (by omega) (fun c45 => ?_) (fun c45 => ?_)
              · skip
                refine x_iload C dX5_fewestStepsByRows_115 6 rfl ?_
                refine x_istore C (ls' := [(0, .ref o), (1, .ref g), (2, vI z), (3, vI e), (4, vI ((en : Nat) : Int)), (5, vI ((st : Nat) : Int)), (6, vI ((en : Nat) : Int)), (7, vI ((ix : Nat) : Int))]) dX5_fewestStepsByRows_117 (by decide) rfl ?_
                refine x_iinc C (x := ((st : Nat) : Int)) (ls' := [(0, .ref o), (1, .ref g), (2, vI z), (3, vI e), (4, vI ((en : Nat) : Int)), (5, vI ((((st : Nat) : Int)) + 1)), (6, vI ((en : Nat) : Int)), (7, vI ((ix : Nat) : Int))]) dX5_fewestStepsByRows_119 5 rfl (by decide) rfl ?_
                refine x_goto (tgt := 58) C dX5_fewestStepsByRows_122 (by decide) ?_
                refine x_sub [0, 1, 2, 3, 4, 5] (ls' := [(0, .ref o), (1, .ref g), (2, vI z), (3, vI e), (4, vI ((en : Nat) : Int)), (5, vI ((((st : Nat) : Int)) + 1))]) rfl ?_
                obtain rfl : en = ix := by omega
                have hst9 : 1 ≤ st := hst.1
                exact ihOUT m2 en (st + 1) t2 Q2 c2 v2 s2 h44 u0 u1 u2 u3 u4 u5 u6 (hQ2) (by omega) (by omega) (hm6) (by
    by_cases q9 : ((st : Nat) : Int) < e
    · omega
    · have := hge q9; omega) (show m2 - en ≤ 6 ^ st by omega) (fun d hd => by
    rcases (show d < st ∨ d = st by omega) with q9 | q9
    · exact hno d q9
    · rw [q9]; exact rowA.no hst9 hsg hnw) (fun q9 => rowA.next (hap (by omega)) hst9 hQ2 hsg) (by omega) (he2)
              · skip
                refine x_aload_n C dX5_fewestStepsByRows_81 0 rfl ?_
                refine x_aload_n C dX5_fewestStepsByRows_82 1 rfl ?_
                refine x_aload_n C dX5_fewestStepsByRows_83 0 rfl ?_
                refine x_iload C dX5_fewestStepsByRows_84 7 rfl ?_
                refine x_callV C (n := 1) (qc := (RX5, TX5, 7)) (As := [vI ((ix : Nat) : Int)]) (rest := [.ref g, .ref o]) (c_X5_queuedAt u0 u1 (by omega)) gX5_fewestStepsByRows_X5_queuedAt (by decide +kernel) u0 rfl rfl rfl rfl (Nat.le_of_ble_eq_true rfl) ⟨by decide, by decide⟩ ⟨by decide, by decide⟩ dX5_fewestStepsByRows_86 (fun rv46 h47 hp48 => ?_)
                obtain ⟨rfl, e49⟩ := hp48
                obtain rfl := e49.symm
                refine x_topv (show Q2 ix = (((Q2 ix).toNat : Nat) : Int) from by have := hQ2 ix; omega) ?_
                refine x_iload C dX5_fewestStepsByRows_89 5 rfl ?_
                refine x_iload_n C dX5_fewestStepsByRows_91 3 rfl ?_
                refine x_icmp_ge (tgt := 99) C dX5_fewestStepsByRows_92 (by decide) (by omega) (by omega) (fun c50 => ?_) (fun c50 => ?_)
                · skip
                  refine x_iconst C dX5_fewestStepsByRows_99 0 (by decide) ?_
                  refine x_callV C (n := 3) (qc := (RX5, TX5, 7)) (As := [.ref g, vI (((Q2 ix).toNat : Nat) : Int), vI 0]) (rest := []) (c_X5_winsByOneMore u0 u1 u2 u3 u4 u5 u6 (by have := hQ2 ix; omega) (by omega) (hQ2) (by omega) (by assumption) (by assumption) (by assumption) (by omega)) gX5_fewestStepsByRows_X5_winsByOneMore (by decide +kernel) u0 rfl rfl rfl rfl (Nat.le_of_ble_eq_true rfl) ⟨by decide, by decide⟩ ⟨by decide, by decide⟩ dX5_fewestStepsByRows_100 (fun rv51 h52 hp53 => ?_)
                  obtain ⟨c_55, v_56, s_57, t_58, j_59, rfl, e54, hj9_100⟩ := hp53
                  have f60 : h52 o = some (eO 5 [.ref sb, .ref sq, .ref sn, .ref sr, vI (num + 1), vI (((wS (mvn f q al S ((Q2 ix).toNat)) 0 (j_59) (m2, Q2)).1 : Nat) : Int), vI (-1)]) := by rw [e54]; exact hu_s
                  have f61 : h52 sq = some (eI D 6144 ((wS (mvn f q al S ((Q2 ix).toNat)) 0 (j_59) (m2, Q2)).2)) := by rw [e54, hu_n n33]; exact hu_s
                  have f62 : h52 sb = some (eO 0 [.ref as, vI c_55, vI v_56, vI ((t_58 : Nat) : Int), vI s_57]) := by rw [e54, hu_n n10, hu_n (Ne.symm n35)]; exact hu_s
                  have hbr := bI_01 (∃ i : Nat, i < 6 ∧ (mvn f q al S (Q2 ix).toNat i).2.2.2 = 2)
                  have hn9 : (Q2 ix).toNat < 6144 := by have := hQ2 ix; omega
                  have hws := fun go : Int => wS_spec (T := mvn f q al S (Q2 ix).toNat) (go := go) (fun i => mvn_ok hS hn9 i) (σ := (m2, Q2)) (show m2 ≤ 6100 by omega) hQ2 j_59 hj9_100.1
                  refine x_if_eq (tgt := 109) C dX5_fewestStepsByRows_103 (by decide) (by omega) (fun c63 => ?_) (fun c63 => ?_)
                  · skip
                    refine x_iinc C (x := ((ix : Nat) : Int)) (ls' := [(0, .ref o), (1, .ref g), (2, vI z), (3, vI e), (4, vI ((nx : Nat) : Int)), (5, vI ((st : Nat) : Int)), (6, vI ((en : Nat) : Int)), (7, vI ((((ix : Nat) : Int)) + 1))]) dX5_fewestStepsByRows_109 7 rfl (by decide) rfl ?_
                    refine x_goto (tgt := 74) C dX5_fewestStepsByRows_112 (by decide) ?_
                    have n65 : nq g sq := vnt u3 u1 (p := (3, 1)) (q := (0, 6144)) rfl rfl (by decide)
                    have n66 : nq g sb := vnt u3 u2 (p := (3, 1)) (q := (3, 0)) rfl rfl (by decide)
                    have f64 : h52 g = some (eO 1 [.ref ak, .ref aq, vI ((al : Nat) : Int)]) := by rw [e54, hu_n n13, hu_n n65, hu_n n66]; exact u3
                    have n68 : nq ak sq := vnt u4 u1 (p := (0, 96)) (q := (0, 6144)) rfl rfl (by decide)
                    have n69 : nq ak sb := vnt u4 u2 (p := (0, 96)) (q := (3, 0)) rfl rfl (by decide)
                    have f67 : h52 ak = some (eI D 96 f) := by rw [e54, hu_n n16, hu_n n68, hu_n n69]; exact u4
                    have n71 : nq aq sq := vnt u5 u1 (p := (0, 3)) (q := (0, 6144)) rfl rfl (by decide)
                    have n72 : nq aq sb := vnt u5 u2 (p := (0, 3)) (q := (3, 0)) rfl rfl (by decide)
                    have f70 : h52 aq = some (eI D 3 q) := by rw [e54, hu_n n19, hu_n n71, hu_n n72]; exact u5
                    have n74 : nq as o := vnt u6 u0 (p := (0, 3)) (q := (3, 5)) rfl rfl (by decide)
                    have n75 : nq as sq := vnt u6 u1 (p := (0, 3)) (q := (0, 6144)) rfl rfl (by decide)
                    have n76 : nq as sb := vnt u6 u2 (p := (0, 3)) (q := (3, 0)) rfl rfl (by decide)
                    have f73 : h52 as = some (eI D 3 S) := by rw [e54, hu_n n74, hu_n n75, hu_n n76]; exact u6
                    obtain ⟨g1, g2, g3, g4, g5, g6, g7⟩ := hws 0
                    have g8 := hj9_100.1
                    have hnone : ¬ ∃ i : Nat, i < 6 ∧ (mvn f q al S (Q2 ix).toNat i).2.2.2 = 2 := fun q9 => bI_ne.mpr q9 (by assumption)
                    have hj6 := hj9_100.2 hnone
                    clear hj9_100
                    dsimp only at g1 g2 g4 g5
                    exact ihINN en ((wS (mvn f q al S ((Q2 ix).toNat)) 0 (j_59) (m2, Q2)).1) (ix + 1) t_58 ((wS (mvn f q al S ((Q2 ix).toNat)) 0 (j_59) (m2, Q2)).2) c_55 v_56 s_57 h52 f60 f61 f62 f64 f67 f70 f73 (g3) (by omega) (by omega) (by omega) (fun p => (hsg p).trans ⟨fun ⟨j, a, b, c⟩ => ⟨j, a, b, (g4 j (by omega)).trans c⟩, fun ⟨j, a, b, c⟩ => ⟨j, a, b, (g4 j (by omega)).symm.trans c⟩⟩) (fun j a b i hi => by
    rw [g4 j (by omega)]
    rcases (show j < ix ∨ j = ix by omega) with q9 | q9
    · exact hnw j a q9 i hi
    · rw [q9]; exact fun q8 => hnone ⟨i, hi, q8⟩) (fun q9 => by
    first
      | (exfalso; omega)
      | (rw [hj6]; exact rowA.step (T := TT f q al S) (T1 := mvn f q al S (Q2 ix).toNat) (go := 0) (hap q9) (by omega) (by omega) (by omega) (by decide) (by omega) hQ2 (n := (Q2 ix).toNat) (by have := hQ2 ix; omega) (fun i => rfl) (fun i => mvn_ok hS hn9 i))) (fun q9 => by
    first
      | (exfalso; omega)
      | exact (g5 rfl).trans (hge q9)) (by omega) (by rw [e54, he2]; exact hu_rows nn_sb_sr)
                  · skip
                    refine x_iload C dX5_fewestStepsByRows_106 5 rfl ?_
                    refine x_iret C G dX5_fewestStepsByRows_108 ?_ (by decide) (by decide)
                    have hwin : ∃ i : Nat, i < 6 ∧ (mvn f q al S (Q2 ix).toNat i).2.2.2 = 2 := bI_ne.mp (by assumption)
                    have hQn : Q2 ix = (((Q2 ix).toNat : Nat) : Int) := by have := hQ2 ix; omega
                    have hrch := (hsg (Q2 ix).toNat).mpr ⟨ix, hix.1, by omega, hQn⟩
                    have hw9 : Win (TT f q al S) (X0 f q z) st := by
                      rw [show st = (st - 1) + 1 by omega]
                      exact ⟨_, hrch, hwin⟩
                    refine ⟨c_55, v_56, s_57, ((st : Nat) : Int), t_58, (wS (mvn f q al S (Q2 ix).toNat) (0) (j_59) (m2, Q2)).1, (wS (mvn f q al S (Q2 ix).toNat) (0) (j_59) (m2, Q2)).2, rfl, by rw [e54, he2]; exact hu_rows nn_sb_sr, Or.inr ⟨st, by omega, rfl, hw9, fun d hd => hno d hd⟩, ?_⟩
                    obtain ⟨g1, g2, g3, g4, g5, g6, g7⟩ := hws 0
                    have g8 := hj9_100.1
                    exact ⟨by show (wS (mvn f q al S (Q2 ix).toNat) (0) (j_59) (m2, Q2)).1 ≤ 6144; omega, g3, fun j => by have := hok.2.2.1 j; dsimp only at this ⊢; omega, fun j => by have := hok.2.2.2.1 j; dsimp only at this ⊢; unfold rz0; split <;> omega, by show (-1 : Int) ≤ -1; decide, by show (-1 : Int) ≤ 7000; decide⟩
                · skip
                  refine x_iconst C dX5_fewestStepsByRows_95 1 (by decide) ?_
                  refine x_goto (tgt := 100) C dX5_fewestStepsByRows_96 (by decide) ?_
                  refine x_callV C (n := 3) (qc := (RX5, TX5, 7)) (As := [.ref g, vI (((Q2 ix).toNat : Nat) : Int), vI 1]) (rest := []) (c_X5_winsByOneMore u0 u1 u2 u3 u4 u5 u6 (by have := hQ2 ix; omega) (by omega) (hQ2) (by omega) (by assumption) (by assumption) (by assumption) (by omega)) gX5_fewestStepsByRows_X5_winsByOneMore (by decide +kernel) u0 rfl rfl rfl rfl (Nat.le_of_ble_eq_true rfl) ⟨by decide, by decide⟩ ⟨by decide, by decide⟩ dX5_fewestStepsByRows_100 (fun rv77 h78 hp79 => ?_)
                  obtain ⟨c_81, v_82, s_83, t_84, j_85, rfl, e80, hj9_100⟩ := hp79
                  have f86 : h78 o = some (eO 5 [.ref sb, .ref sq, .ref sn, .ref sr, vI (num + 1), vI (((wS (mvn f q al S ((Q2 ix).toNat)) 1 (j_85) (m2, Q2)).1 : Nat) : Int), vI (-1)]) := by rw [e80]; exact hu_s
                  have f87 : h78 sq = some (eI D 6144 ((wS (mvn f q al S ((Q2 ix).toNat)) 1 (j_85) (m2, Q2)).2)) := by rw [e80, hu_n n33]; exact hu_s
                  have f88 : h78 sb = some (eO 0 [.ref as, vI c_81, vI v_82, vI ((t_84 : Nat) : Int), vI s_83]) := by rw [e80, hu_n n10, hu_n (Ne.symm n35)]; exact hu_s
                  have hbr := bI_01 (∃ i : Nat, i < 6 ∧ (mvn f q al S (Q2 ix).toNat i).2.2.2 = 2)
                  have hn9 : (Q2 ix).toNat < 6144 := by have := hQ2 ix; omega
                  have hws := fun go : Int => wS_spec (T := mvn f q al S (Q2 ix).toNat) (go := go) (fun i => mvn_ok hS hn9 i) (σ := (m2, Q2)) (show m2 ≤ 6100 by omega) hQ2 j_85 hj9_100.1
                  refine x_if_eq (tgt := 109) C dX5_fewestStepsByRows_103 (by decide) (by omega) (fun c89 => ?_) (fun c89 => ?_)
                  · skip
                    refine x_iinc C (x := ((ix : Nat) : Int)) (ls' := [(0, .ref o), (1, .ref g), (2, vI z), (3, vI e), (4, vI ((nx : Nat) : Int)), (5, vI ((st : Nat) : Int)), (6, vI ((en : Nat) : Int)), (7, vI ((((ix : Nat) : Int)) + 1))]) dX5_fewestStepsByRows_109 7 rfl (by decide) rfl ?_
                    refine x_goto (tgt := 74) C dX5_fewestStepsByRows_112 (by decide) ?_
                    have n91 : nq g sq := vnt u3 u1 (p := (3, 1)) (q := (0, 6144)) rfl rfl (by decide)
                    have n92 : nq g sb := vnt u3 u2 (p := (3, 1)) (q := (3, 0)) rfl rfl (by decide)
                    have f90 : h78 g = some (eO 1 [.ref ak, .ref aq, vI ((al : Nat) : Int)]) := by rw [e80, hu_n n13, hu_n n91, hu_n n92]; exact u3
                    have n94 : nq ak sq := vnt u4 u1 (p := (0, 96)) (q := (0, 6144)) rfl rfl (by decide)
                    have n95 : nq ak sb := vnt u4 u2 (p := (0, 96)) (q := (3, 0)) rfl rfl (by decide)
                    have f93 : h78 ak = some (eI D 96 f) := by rw [e80, hu_n n16, hu_n n94, hu_n n95]; exact u4
                    have n97 : nq aq sq := vnt u5 u1 (p := (0, 3)) (q := (0, 6144)) rfl rfl (by decide)
                    have n98 : nq aq sb := vnt u5 u2 (p := (0, 3)) (q := (3, 0)) rfl rfl (by decide)
                    have f96 : h78 aq = some (eI D 3 q) := by rw [e80, hu_n n19, hu_n n97, hu_n n98]; exact u5
                    have n100 : nq as o := vnt u6 u0 (p := (0, 3)) (q := (3, 5)) rfl rfl (by decide)
                    have n101 : nq as sq := vnt u6 u1 (p := (0, 3)) (q := (0, 6144)) rfl rfl (by decide)
                    have n102 : nq as sb := vnt u6 u2 (p := (0, 3)) (q := (3, 0)) rfl rfl (by decide)
                    have f99 : h78 as = some (eI D 3 S) := by rw [e80, hu_n n100, hu_n n101, hu_n n102]; exact u6
                    obtain ⟨g1, g2, g3, g4, g5, g6, g7⟩ := hws 1
                    have g8 := hj9_100.1
                    have hnone : ¬ ∃ i : Nat, i < 6 ∧ (mvn f q al S (Q2 ix).toNat i).2.2.2 = 2 := fun q9 => bI_ne.mpr q9 (by assumption)
                    have hj6 := hj9_100.2 hnone
                    clear hj9_100
                    dsimp only at g1 g2 g4 g5
                    exact ihINN en ((wS (mvn f q al S ((Q2 ix).toNat)) 1 (j_85) (m2, Q2)).1) (ix + 1) t_84 ((wS (mvn f q al S ((Q2 ix).toNat)) 1 (j_85) (m2, Q2)).2) c_81 v_82 s_83 h78 f86 f87 f88 f90 f93 f96 f99 (g3) (by omega) (by omega) (by omega) (fun p => (hsg p).trans ⟨fun ⟨j, a, b, c⟩ => ⟨j, a, b, (g4 j (by omega)).trans c⟩, fun ⟨j, a, b, c⟩ => ⟨j, a, b, (g4 j (by omega)).symm.trans c⟩⟩) (fun j a b i hi => by
    rw [g4 j (by omega)]
    rcases (show j < ix ∨ j = ix by omega) with q9 | q9
    · exact hnw j a q9 i hi
    · rw [q9]; exact fun q8 => hnone ⟨i, hi, q8⟩) (fun q9 => by
    first
      | (exfalso; omega)
      | (rw [hj6]; exact rowA.step (T := TT f q al S) (T1 := mvn f q al S (Q2 ix).toNat) (go := 1) (hap q9) (by omega) (by omega) (by omega) (by decide) (by omega) hQ2 (n := (Q2 ix).toNat) (by have := hQ2 ix; omega) (fun i => rfl) (fun i => mvn_ok hS hn9 i))) (fun q9 => by
    first
      | (exfalso; omega)
      | exact (g5 rfl).trans (hge q9)) (by omega) (by rw [e80, he2]; exact hu_rows nn_sb_sr)
                  · skip
                    refine x_iload C dX5_fewestStepsByRows_106 5 rfl ?_
                    refine x_iret C G dX5_fewestStepsByRows_108 ?_ (by decide) (by decide)
                    have hwin : ∃ i : Nat, i < 6 ∧ (mvn f q al S (Q2 ix).toNat i).2.2.2 = 2 := bI_ne.mp (by assumption)
                    have hQn : Q2 ix = (((Q2 ix).toNat : Nat) : Int) := by have := hQ2 ix; omega
                    have hrch := (hsg (Q2 ix).toNat).mpr ⟨ix, hix.1, by omega, hQn⟩
                    have hw9 : Win (TT f q al S) (X0 f q z) st := by
                      rw [show st = (st - 1) + 1 by omega]
                      exact ⟨_, hrch, hwin⟩
                    refine ⟨c_81, v_82, s_83, ((st : Nat) : Int), t_84, (wS (mvn f q al S (Q2 ix).toNat) (1) (j_85) (m2, Q2)).1, (wS (mvn f q al S (Q2 ix).toNat) (1) (j_85) (m2, Q2)).2, rfl, by rw [e80, he2]; exact hu_rows nn_sb_sr, Or.inr ⟨st, by omega, rfl, hw9, fun d hd => hno d hd⟩, ?_⟩
                    obtain ⟨g1, g2, g3, g4, g5, g6, g7⟩ := hws 1
                    have g8 := hj9_100.1
                    exact ⟨by show (wS (mvn f q al S (Q2 ix).toNat) (1) (j_85) (m2, Q2)).1 ≤ 6144; omega, g3, fun j => by have := hok.2.2.1 j; dsimp only at this ⊢; omega, fun j => by have := hok.2.2.2.1 j; dsimp only at this ⊢; unfold rz0; split <;> omega, by show (-1 : Int) ≤ -1; decide, by show (-1 : Int) ≤ 7000; decide⟩
          exact INN (m1 + 1) m1 m1 nx t1 Q1 c1 v1 s1 h42 f0 f1 f2 f3 f4 f5 f6 (hQ1) (by omega) (by omega) (⟨hpw, hqw⟩) (hseg (by omega)) (fun j a b => absurd b (by omega)) (fun _ p9 => ⟨fun ⟨j, a, b, _⟩ => absurd b (by omega), fun ⟨j, a, b, _⟩ => absurd b (by omega)⟩) (fun _ => rfl) (by omega) (he)
    have f103 : h37 sb = some (eO 0 [.ref as, vI ((X0 f q z).1), vI 0, vI (((X0 f q z).2.2.1 : Nat) : Int), vI ((X0 f q z).2.2.2)]) := by rw [e39, hu_n n10, hu_n (Ne.symm n35)]; exact f24
    have n105 : nq g sb := vnt f11 f8 (p := (3, 1)) (q := (3, 0)) rfl rfl (by decide)
    have f104 : h21 g = some (eO 1 [.ref ak, .ref aq, vI ((al : Nat) : Int)]) := by rw [e23, hu_n n105]; exact f11
    have n107 : nq g sq := vnt f104 f34 (p := (3, 1)) (q := (0, 6144)) rfl rfl (by decide)
    have f106 : h37 g = some (eO 1 [.ref ak, .ref aq, vI ((al : Nat) : Int)]) := by rw [e39, hu_n n13, hu_n n107]; exact f104
    have n109 : nq ak sb := vnt f14 f8 (p := (0, 96)) (q := (3, 0)) rfl rfl (by decide)
    have f108 : h21 ak = some (eI D 96 f) := by rw [e23, hu_n n109]; exact f14
    have n111 : nq ak sq := vnt f108 f34 (p := (0, 96)) (q := (0, 6144)) rfl rfl (by decide)
    have f110 : h37 ak = some (eI D 96 f) := by rw [e39, hu_n n16, hu_n n111]; exact f108
    have n113 : nq aq sb := vnt f17 f8 (p := (0, 3)) (q := (3, 0)) rfl rfl (by decide)
    have f112 : h21 aq = some (eI D 3 q) := by rw [e23, hu_n n113]; exact f17
    have n115 : nq aq sq := vnt f112 f34 (p := (0, 3)) (q := (0, 6144)) rfl rfl (by decide)
    have f114 : h37 aq = some (eI D 3 q) := by rw [e39, hu_n n19, hu_n n115]; exact f112
    have n117 : nq as sr := vnt hSS hR (p := (0, 3)) (q := (0, 96)) rfl rfl (by decide)
    have n118 : nq as o := vnt hSS ho (p := (0, 3)) (q := (3, 5)) rfl rfl (by decide)
    have f116 : h2 as = some (eI D 3 S) := by rw [e4, hu_n n117, hu_n n118]; exact hSS
    have n120 : nq as sb := vnt f116 f8 (p := (0, 3)) (q := (3, 0)) rfl rfl (by decide)
    have f119 : h21 as = some (eI D 3 S) := by rw [e23, hu_n n120]; exact f116
    have n122 : nq as sq := vnt f119 f34 (p := (0, 3)) (q := (0, 6144)) rfl rfl (by decide)
    have f121 : h37 as = some (eI D 3 S) := by rw [e39, hu_n n118, hu_n n122]; exact f119
    have hs1 : (X0 f q z).2.2.2 = 1 := by assumption
    have hsg0 : ∀ p : Nat, Rch (TT f q al S) (X0 f q z) 0 p ↔ ∃ j, 0 ≤ j ∧ j < 1 ∧ fu Qf 0 ((cd (X0 f q z) : Nat) : Int) j = (p : Int) := fun p => by
      constructor
      · rintro ⟨_, hp⟩
        exact ⟨0, Nat.le_refl _, Nat.zero_lt_one, by rw [hp]; exact fu_s⟩
      · rintro ⟨j, _, j2, j3⟩
        obtain rfl : j = 0 := by omega
        rw [fu_s] at j3
        exact ⟨hs1, by omega⟩
    exact OUT (8) 1 0 1 ((X0 f q z).2.2.1) ((fu Qf 0 ((cd (X0 f q z) : Nat) : Int))) ((X0 f q z).1) 0 ((X0 f q z).2.2.2) h37 f40 f41 f103 f106 f110 f114 f121 (fun j => by have q1 := hok.2.1 j; have q2 := cd_lt hXok; dsimp only at q1; unfold fu; split <;> omega) (by omega) (by omega) (by omega) (by decide) (by decide) (fun d hd hw => by
    obtain rfl : d = 0 := by omega
    have hw2 : (X0 f q z).2.2.2 = 2 := hw
    omega) (fun _ => hsg0) (by omega) (by rw [e39, e23, e4]; exact hu_o5 nn_sb_sr)
  · skip
    refine x_aload_n C dX5_fewestStepsByRows_24 0 rfl ?_
    refine x_get C (v := .ref sb) f25 (T := TX5) rfl kX5_fewestStepsByRows_1 0 (by decide) kX5_fewestStepsByRows_0 rfl dX5_fewestStepsByRows_25 ?_
    refine x_getN (host := "LedgeLevels") C (v := vI ((X0 f q z).2.2.2)) f24 (T := TX0) rfl kX5_fewestStepsByRows_3 4 (by decide) kX5_fewestStepsByRows_2 rfl dX5_fewestStepsByRows_28 ?_
    refine x_iconst C dX5_fewestStepsByRows_31 2 (by decide) ?_
    refine x_icmp_ne (tgt := 39) C dX5_fewestStepsByRows_32 (by decide) (by omega) (by omega) (fun c123 => ?_) (fun c123 => ?_)
    · skip
      refine x_iconst C dX5_fewestStepsByRows_39 (-1) (by decide) ?_
      refine x_iret C G dX5_fewestStepsByRows_40 ?_ (by decide) (by decide)
      have hs9 : ¬ (X0 f q z).2.2.2 = 1 := by assumption
      refine ⟨(X0 f q z).1, 0, (X0 f q z).2.2.2, _, (X0 f q z).2.2.1, 0, Qf, rfl, ?_, ?_, ⟨by show 0 ≤ 6144; omega, hok.2.1, fun j => by have := hok.2.2.1 j; dsimp only at this ⊢; omega, fun j => by have := hok.2.2.2.1 j; dsimp only at this ⊢; unfold rz0; split <;> omega, by show (-1 : Int) ≤ -1; decide, by show (-1 : Int) ≤ 7000; decide⟩⟩
      · rw [e23, e4, hu_i (h := hu (hu h sb _) sr _) (a := sq) (by rw [hu_n nn_sq_sr, hu_n nn_sq_sb]; exact hQ)]
        exact hu_cyc nn_sb_sr nn_sb_o nn_sr_o
      · first
          | (have h2 : (X0 f q z).2.2.2 = 2 := by assumption
             exact Or.inr ⟨0, by omega, rfl, h2, fun e9 he => absurd he (Nat.not_lt_zero _)⟩)
          | (have h2 : ¬ (X0 f q z).2.2.2 = 2 := by assumption
             refine Or.inl ⟨rfl, fun d _ hw => ?_⟩
             cases d with
             | zero => exact h2 hw
             | succ d => obtain ⟨p, hp, _⟩ := hw; exact hs9 (Rch_s d p hp))
    · skip
      refine x_iconst C dX5_fewestStepsByRows_35 0 (by decide) ?_
      refine x_goto (tgt := 40) C dX5_fewestStepsByRows_36 (by decide) ?_
      refine x_iret C G dX5_fewestStepsByRows_40 ?_ (by decide) (by decide)
      have hs9 : ¬ (X0 f q z).2.2.2 = 1 := by assumption
      refine ⟨(X0 f q z).1, 0, (X0 f q z).2.2.2, _, (X0 f q z).2.2.1, 0, Qf, rfl, ?_, ?_, ⟨by show 0 ≤ 6144; omega, hok.2.1, fun j => by have := hok.2.2.1 j; dsimp only at this ⊢; omega, fun j => by have := hok.2.2.2.1 j; dsimp only at this ⊢; unfold rz0; split <;> omega, by show (-1 : Int) ≤ -1; decide, by show (-1 : Int) ≤ 7000; decide⟩⟩
      · rw [e23, e4, hu_i (h := hu (hu h sb _) sr _) (a := sq) (by rw [hu_n nn_sq_sr, hu_n nn_sq_sb]; exact hQ)]
        exact hu_cyc nn_sb_sr nn_sb_o nn_sr_o
      · first
          | (have h2 : (X0 f q z).2.2.2 = 2 := by assumption
             exact Or.inr ⟨0, by omega, rfl, h2, fun e9 he => absurd he (Nat.not_lt_zero _)⟩)
          | (have h2 : ¬ (X0 f q z).2.2.2 = 2 := by assumption
             refine Or.inl ⟨rfl, fun d _ hw => ?_⟩
             cases d with
             | zero => exact h2 hw
             | succ d => obtain ⟨p, hp, _⟩ := hw; exact hs9 (Rch_s d p hp))


theorem hu7 {h : vh} {a b c d e : Nat} {x1 x2 y1 y2 y3 y4 y5 : va_E} : hu (hu (hu (hu (hu (hu (hu h e x1) b x2) a y1) b y2) c y3) d y4) e y5 = hu (hu (hu (hu (hu h a y1) b y2) c y3) d y4) e y5 := by
  funext q
  by_cases q1 : q = e
  · simp [hu, q1]
  · by_cases q2 : q = d
    · simp only [hu, if_neg q1, if_pos q2]
    · by_cases q3 : q = c
      · simp only [hu, if_neg q1, if_neg q2, if_pos q3]
      · by_cases q4 : q = b
        · simp only [hu, if_neg q1, if_neg q2, if_neg q3, if_pos q4]
        · by_cases q5 : q = a
          · simp only [hu, if_neg q1, if_neg q2, if_neg q3, if_neg q4, if_pos q5]
          · simp only [hu, if_neg q1, if_neg q2, if_neg q3, if_neg q4, if_neg q5]
def b3 (x : Int × Nat × Int) : Prop := x.2.2 = 1 ∨ x.2.2 = 2 ∨ x.2.2 = 3
theorem cm_b3 {f : Nat → Int} {B : Int → Nat} {p : Int} {x : Int × Nat × Int} (h : b3 x) : b3 (cm f B p x) := by
  unfold cm
  split
  · unfold b3; dsimp only
    split
    · exact Or.inr (Or.inr rfl)
    · split
      · exact Or.inr (Or.inl rfl)
      · exact h
  · exact Or.inr (Or.inr rfl)
theorem sd_b3 {f : Nat → Int} {B : Int → Nat} {al : Nat} {d : Int} {x : Int × Nat × Int} (h : b3 x) : b3 (sd f B al d x) := by
  unfold sd
  split
  · exact cm_b3 h
  · exact h
theorem vt_b3 {f : Nat → Int} {B : Int → Nat} {al : Nat} {S : Nat → Int} {w v : Int} : ∀ (n : Nat) (x : Int × Nat × Int), b3 x → b123 (vt f B al S w v n x)
  | 0, x, h => by unfold vt; exact h
  | n + 1, x, h => by
    unfold vt
    split
    · exact h
    · split
      · exact vt_b3 n _ (cm_b3 h)
      · exact cm_b3 h
theorem mvn_b {f q : Nat → Int} {al : Nat} {S : Nat → Int} {n : Nat} {i : Int} : b123 (mvn f q al S n i) := by
  unfold mvn mv
  have h : b3 (sd f (kbf f q) al (i % 3 - 1) (((n / 64 : Nat) : Int), n % 8, 1)) := sd_b3 (Or.inl rfl)
  split
  · exact vt_b3 _ _ h
  · exact h
theorem mvn_skip {f q : Nat → Int} {al : Nat} {S : Nat → Int} {n : Nat} (h : cntN f al n = 3) (i : Nat) : mvn f q al S n ((i + 3 : Nat) : Int) = mvn f q al S n (i : Int) := by
  have hs : ¬ (0 ≤ ((n / 8 % 8 : Nat) : Int) - 4 ∧ sol f al (n % 8) (((n / 64 : Nat) : Int) + 12)) := fun z => by
    unfold cntN at h; rw [if_pos z] at h; omega
  unfold mvn mv sv
  rw [if_neg hs, if_neg hs, show (((i + 3 : Nat) : Int) % 3 - 1) = ((i : Int) % 3 - 1) by omega]
theorem cntN_or (f : Nat → Int) (al n : Nat) : cntN f al n = 6 ∨ cntN f al n = 3 := by unfold cntN; split; exact Or.inl rfl; exact Or.inr rfl
/-- what a body can do on a grid: its steps, its start -/
def TT (f q : Nat → Int) (al : Nat) (S : Nat → Int) : Nat → Nat → B4 := fun n i => mvn f q al S n ((i : Nat) : Int)
def X0 (f q : Nat → Int) (z : Int) : B4 := ((cm f (kbf f q) z (z, 0, 1)).1, 0, (cm f (kbf f q) z (z, 0, 1)).2.1, (cm f (kbf f q) z (z, 0, 1)).2.2)
theorem TT_ok {f q : Nat → Int} {al : Nat} {S : Nat → Int} (hS : ∀ j, 0 ≤ S j ∧ S j ≤ 4) : ∀ n, n < 6144 → ∀ i, i < 6 → bOK (TT f q al S n i) ∧ b123 (TT f q al S n i) := fun n hn i _ => ⟨mvn_ok hS hn _, mvn_b⟩
theorem X0_ok {f q : Nat → Int} {z : Int} (hz : 0 ≤ z ∧ z ≤ 95) : bOK (X0 f q z) := by
  obtain ⟨h1, h2, h3, h4, h5⟩ := cm_r (f := f) (B := kbf f q) (kbf_r f q) (p := z) (x := (z, 0, 1)) ⟨hz.1, hz.2, by show (0 : Nat) < 8; decide, by dsimp only; omega, by dsimp only; omega⟩
  exact ⟨h1, h2, by show (-4 : Int) ≤ 0; omega, by show (0 : Int) ≤ 3; omega, h3, h4, h5⟩
theorem X0_b {f q : Nat → Int} {z : Int} : b123 (X0 f q z) := cm_b3 (x := (z, 0, 1)) (Or.inl rfl)

theorem kX5_explore_0 : Cond.fieldLink "LedgeLevels$Search" 37 "LedgeLevels$Search" "body" "LLedgeLevels$Body;" ∈ wsX5_explore := by decide +kernel
theorem kX5_explore_1 : ∀ w ∈ wsX50, w ∈ wsX5_explore := by decide +kernel
theorem kX5_explore_2 : Cond.fieldLink "LedgeLevels$Search" 29 "LedgeLevels$Search" "won" "I" ∈ wsX5_explore := by decide +kernel
theorem kX5_explore_3 : Cond.fieldLink "LedgeLevels$Search" 26 "LedgeLevels$Search" "tail" "I" ∈ wsX5_explore := by decide +kernel
set_option maxRecDepth 100000 in
set_option maxHeartbeats 1000000 in
theorem c_X5_explore {l : Launch} {D : va_G} {A : Nat → Prop} {h : vh} {o sb sq sn sr g ak aq as : Nat} {Qf Nf Rz f q S : Nat → Int} {num w c0 v0 s0 z e : Int} {m t0 al : Nat} (ho : h o = some (eO 5 [.ref sb, .ref sq, .ref sn, .ref sr, vI num, vI ((m : Nat) : Int), vI w])) (hQ : h sq = some (eI D 6144 Qf)) (hN : h sn = some (eI D 6144 Nf)) (hR : h sr = some (eZ D 96 Rz)) (hb : h sb = some (eO 0 [.ref as, vI c0, vI v0, vI ((t0 : Nat) : Int), vI s0])) (hg : h g = some (eO 1 [.ref ak, .ref aq, vI ((al : Nat) : Int)])) (hk : h ak = some (eI D 96 f)) (hqq : h aq = some (eI D 3 q)) (hSS : h as = some (eI D 3 S)) (hz : 0 ≤ z ∧ z ≤ 95) (he9 : 0 ≤ e ∧ e ≤ 1) (hok : SSok num (m, Qf, Nf, Rz, w)) (hnum : 0 ≤ num ∧ num ≤ 900000) (n1 : nq sq sn) (hf : ∀ j, 0 ≤ f j ∧ f j ≤ 8) (hq : ∀ j, -1 ≤ q j ∧ q j ≤ 95) (hS : ∀ j, 0 ≤ S j ∧ S j ≤ 4) (hal : al < 8) : MX l D A yX5_explore wsX5_explore { frames := 5, cells := 0, slots := 0, locals := 116 } [.ref o, .ref g, vI z, vI e] h (fun rv h' => ∃ (c1 v1 s1 w1 : Int) (t1 m1 : Nat) (Q1 N1 R1 : Nat → Int), rv = some (vI w1) ∧ h' = hu (hu (hu (hu (hu h sb (eO 0 [.ref as, vI c1, vI v1, vI ((t1 : Nat) : Int), vI s1])) sr (eZ D 96 R1)) sn (eI D 6144 N1)) sq (eI D 6144 Q1)) o (eO 5 [.ref sb, .ref sq, .ref sn, .ref sr, vI (num + 1), vI ((m1 : Nat) : Int), vI w1]) ∧ (Found (TT f q al S) (X0 f q z) w1) ∧ (e = 0 → ∀ c : Nat, c < 96 → (R1 c = 1 ↔ Seen (TT f q al S) (X0 f q z) c)) ∧ (SSok (num + 1) (m1, Q1, N1, R1, w1))) := by
  refine MX.of (cc := cX5_explore) (maxL := 8) (ret := (some .int)) [(0, .ref o), (1, .ref g), (2, vI z), (3, vI e)] (by decide +kernel) rfl rfl (Nat.le_of_ble_eq_true rfl) ?_
  intro κ C hkl G
  subst hkl
  have C : CX κ "LedgeLevels$Search" "explore" cX5_explore wsX5_explore { frames := 5, cells := 0, slots := 0, locals := 116 } D A 8 := C
  have hiz : nq (D.1 20) (D.1 21) := cx_iz C
  have hTok := TT_ok (f := f) (q := q) (al := al) hS
  have hXok := X0_ok (f := f) (q := q) hz
  have hTc : ∀ n, n < 6144 → ∀ i, i < 6 → cd (TT f q al S n i) < 6144 := fun n hn i hi => cd_lt (hTok n hn i hi).1
  have hok0 := nbS_ok (num := num + 1) (k := 0) (by omega) ⟨by decide, by decide⟩ hXok (σ := (0, Qf, Nf, rz0 Rz 96, -1)) ⟨Nat.zero_le _, hok.2.1, fun j => by have := hok.2.2.1 j; dsimp only at this ⊢; omega, fun j => by have := hok.2.2.2.1 j; dsimp only at this ⊢; unfold rz0; split <;> omega, by show (-1 : Int) ≤ -1; decide, by show (-1 : Int) ≤ 7000; decide⟩
  obtain ⟨far0, hB0, hN0, hL0⟩ := BI.start (T := TT f q al S) hXok X0_b (num := num + 1) (Q := Qf) (N := Nf) (R := Rz) (fun j => by have := hok.2.2.1 j; dsimp only at this; omega)
  refine x_aload_n C dX5_explore_0 0 rfl ?_
  refine x_callV C (n := 0) (qc := (RX5, TX5, 7)) (As := []) (rest := []) (c_X5_restart ho hR (by omega)) gX5_explore_X5_restart (by decide +kernel) ho rfl rfl rfl rfl (Nat.le_of_ble_eq_true rfl) ⟨by decide, by decide⟩ ⟨by decide, by decide⟩ dX5_explore_1 (fun rv1 h2 hp3 => ?_)
  obtain ⟨rfl, e4⟩ := hp3
  have f5 : h2 sr = some (eZ D 96 (rz0 Rz 96)) := by rw [e4]; exact hu_s
  have n7 : nq o sr := vnt ho hR (p := (3, 5)) (q := (0, 96)) rfl rfl (by decide)
  have f6 : h2 o = some (eO 5 [.ref sb, .ref sq, .ref sn, .ref sr, vI (num + 1), vI ((0 : Nat) : Int), vI (-1)]) := by rw [e4, hu_n n7]; exact hu_s
  refine x_aload_n C dX5_explore_4 0 rfl ?_
  refine x_get C (v := .ref sb) f6 (T := TX5) rfl kX5_explore_1 0 (by decide) kX5_explore_0 rfl dX5_explore_5 ?_
  refine x_aload_n C dX5_explore_8 1 rfl ?_
  refine x_iload_n C dX5_explore_9 2 rfl ?_
  have n9 : nq sb sr := vnt hb hR (p := (3, 0)) (q := (0, 96)) rfl rfl (by decide)
  have n10 : nq sb o := vnt hb ho (p := (3, 0)) (q := (3, 5)) rfl rfl (by decide)
  have f8 : h2 sb = some (eO 0 [.ref as, vI c0, vI v0, vI ((t0 : Nat) : Int), vI s0]) := by rw [e4, hu_n n9, hu_n n10]; exact hb
  have n12 : nq g sr := vnt hg hR (p := (3, 1)) (q := (0, 96)) rfl rfl (by decide)
  have n13 : nq g o := vnt hg ho (p := (3, 1)) (q := (3, 5)) rfl rfl (by decide)
  have f11 : h2 g = some (eO 1 [.ref ak, .ref aq, vI ((al : Nat) : Int)]) := by rw [e4, hu_n n12, hu_n n13]; exact hg
  have n15 : nq ak sr := viz hk hR hiz
  have n16 : nq ak o := vnt hk ho (p := (0, 96)) (q := (3, 5)) rfl rfl (by decide)
  have f14 : h2 ak = some (eI D 96 f) := by rw [e4, hu_n n15, hu_n n16]; exact hk
  have n18 : nq aq sr := vnt hqq hR (p := (0, 3)) (q := (0, 96)) rfl rfl (by decide)
  have n19 : nq aq o := vnt hqq ho (p := (0, 3)) (q := (3, 5)) rfl rfl (by decide)
  have f17 : h2 aq = some (eI D 3 q) := by rw [e4, hu_n n18, hu_n n19]; exact hqq
  refine x_callV C (n := 2) (qc := (RX0, TX0, 5)) (As := [.ref g, vI z]) (rest := []) (c_X0_placeAtStart f8 f11 f14 f17 (by omega) (by assumption) (by assumption)) gX5_explore_X0_placeAtStart (by decide +kernel) f8 rfl rfl rfl rfl (Nat.le_of_ble_eq_true rfl) ⟨by decide, by decide⟩ ⟨by decide, by decide⟩ dX5_explore_10 (fun rv20 h21 hp22 => ?_)
  obtain ⟨rfl, e23⟩ := hp22
  have f24 : h21 sb = some (eO 0 [.ref as, vI ((cm f (kbf f q) z (z, 0, 1)).1), vI 0, vI (((cm f (kbf f q) z (z, 0, 1)).2.1 : Nat) : Int), vI ((cm f (kbf f q) z (z, 0, 1)).2.2)]) := by rw [e23]; exact hu_s
  refine x_aload_n C dX5_explore_13 0 rfl ?_
  refine x_iconst C dX5_explore_14 0 (by decide) ?_
  have f25 : h21 o = some (eO 5 [.ref sb, .ref sq, .ref sn, .ref sr, vI (num + 1), vI ((0 : Nat) : Int), vI (-1)]) := by rw [e23, hu_n (Ne.symm n10)]; exact f6
  have n27 : nq sq sr := vnt hQ hR (p := (0, 6144)) (q := (0, 96)) rfl rfl (by decide)
  have n28 : nq sq o := vnt hQ ho (p := (0, 6144)) (q := (3, 5)) rfl rfl (by decide)
  have f26 : h2 sq = some (eI D 6144 Qf) := by rw [e4, hu_n n27, hu_n n28]; exact hQ
  have n30 : nq sq sb := vnt f26 f8 (p := (0, 6144)) (q := (3, 0)) rfl rfl (by decide)
  have f29 : h21 sq = some (eI D 6144 Qf) := by rw [e23, hu_n n30]; exact f26
  have n32 : nq sn sr := vnt hN hR (p := (0, 6144)) (q := (0, 96)) rfl rfl (by decide)
  have n33 : nq sn o := vnt hN ho (p := (0, 6144)) (q := (3, 5)) rfl rfl (by decide)
  have f31 : h2 sn = some (eI D 6144 Nf) := by rw [e4, hu_n n32, hu_n n33]; exact hN
  have n35 : nq sn sb := vnt f31 f8 (p := (0, 6144)) (q := (3, 0)) rfl rfl (by decide)
  have f34 : h21 sn = some (eI D 6144 Nf) := by rw [e23, hu_n n35]; exact f31
  have f36 : h21 sr = some (eZ D 96 (rz0 Rz 96)) := by rw [e23, hu_n (Ne.symm n9)]; exact f5
  refine x_callV C (n := 1) (qc := (RX5, TX5, 7)) (As := [vI 0]) (rest := []) (c_X5_noteBody f25 f29 f34 f36 f24 (hXok) (⟨Nat.zero_le _, hok.2.1, fun j => by have := hok.2.2.1 j; dsimp only at this ⊢; omega, fun j => by have := hok.2.2.2.1 j; dsimp only at this ⊢; unfold rz0; split <;> omega, by show (-1 : Int) ≤ -1; decide, by show (-1 : Int) ≤ 7000; decide⟩) (by omega) (by omega) (by assumption)) gX5_explore_X5_noteBody (by decide +kernel) f25 rfl rfl rfl rfl (Nat.le_of_ble_eq_true rfl) ⟨by decide, by decide⟩ ⟨by decide, by decide⟩ dX5_explore_15 (fun rv37 h38 hp39 => ?_)
  obtain ⟨rfl, e40⟩ := hp39
  rw [show (nbS (num + 1) 0 (((cm f (kbf f q) z (z, 0, 1)).1), 0, ((cm f (kbf f q) z (z, 0, 1)).2.1), ((cm f (kbf f q) z (z, 0, 1)).2.2)) (0, Qf, Nf, (rz0 Rz 96), ((-1)))) = (nbS (num + 1) 0 (X0 f q z) (0, Qf, Nf, rz0 Rz 96, -1)) from rfl] at e40
  have f41 : h38 o = some (eO 5 [.ref sb, .ref sq, .ref sn, .ref sr, vI (num + 1), vI (((nbS (num + 1) 0 (X0 f q z) (0, Qf, Nf, rz0 Rz 96, -1)).1 : Nat) : Int), vI ((nbS (num + 1) 0 (X0 f q z) (0, Qf, Nf, rz0 Rz 96, -1)).2.2.2.2)]) := by rw [e40]; exact hu_s
  have f42 : h38 sq = some (eI D 6144 ((nbS (num + 1) 0 (X0 f q z) (0, Qf, Nf, rz0 Rz 96, -1)).2.1)) := by rw [e40, hu_n n28]; exact hu_s
  have f43 : h38 sn = some (eI D 6144 ((nbS (num + 1) 0 (X0 f q z) (0, Qf, Nf, rz0 Rz 96, -1)).2.2.1)) := by rw [e40, hu_n n33, hu_n (Ne.symm n1)]; exact hu_s
  have f44 : h38 sr = some (eZ D 96 ((nbS (num + 1) 0 (X0 f q z) (0, Qf, Nf, rz0 Rz 96, -1)).2.2.2.1)) := by rw [e40, hu_n (Ne.symm n7), hu_n (Ne.symm n27), hu_n (Ne.symm n32)]; exact hu_s
  refine x_iconst C dX5_explore_18 0 (by decide) ?_
  refine x_istore C (ls' := [(0, .ref o), (1, .ref g), (2, vI z), (3, vI e), (4, vI 0)]) dX5_explore_19 (by decide) rfl ?_
  refine x_iconst C dX5_explore_21 1 (by decide) ?_
  refine x_istore C (ls' := [(0, .ref o), (1, .ref g), (2, vI z), (3, vI e), (4, vI 0), (5, vI 1)]) dX5_explore_22 (by decide) rfl ?_
  have OUT : ∀ (N : Nat) (m1 nx st t1 : Nat) (Q1 N1 R1 far : Nat → Int) (w1 c1 v1 s1 : Int) (h45 : vh)  (f0 : h45 o = some (eO 5 [.ref sb, .ref sq, .ref sn, .ref sr, vI (num + 1), vI ((m1 : Nat) : Int), vI w1])) (f1 : h45 sq = some (eI D 6144 Q1)) (f2 : h45 sn = some (eI D 6144 N1)) (f3 : h45 sr = some (eZ D 96 R1)) (f4 : h45 sb = some (eO 0 [.ref as, vI c1, vI v1, vI ((t1 : Nat) : Int), vI s1])) (f5 : h45 g = some (eO 1 [.ref ak, .ref aq, vI ((al : Nat) : Int)])) (f6 : h45 ak = some (eI D 96 f)) (f7 : h45 aq = some (eI D 3 q)) (f8 : h45 as = some (eI D 3 S)) (hok1 : SSok (num + 1) (m1, Q1, N1, R1, w1)) (hNF : NF (num + 1) N1 far) (hBI : BI (TT f q al S) (X0 f q z) m1 Q1 far R1 w1 nx 0) (hlv : ∀ j, nx ≤ j → j < m1 → far (Q1 j).toNat = ((st : Nat) : Int) - 1) (hst : 1 ≤ st ∧ st ≤ nx + 1 ∧ st ≤ 6145) (hnx : nx ≤ m1) (hm9 : 6146 - st < N) (he : h45 = hu (hu (hu (hu (hu h sb (eO 0 [.ref as, vI c1, vI v1, vI ((t1 : Nat) : Int), vI s1])) sr (eZ D 96 R1)) sn (eI D 6144 N1)) sq (eI D 6144 Q1)) o (eO 5 [.ref sb, .ref sq, .ref sn, .ref sr, vI (num + 1), vI ((m1 : Nat) : Int), vI w1])), X κ 0 0 h45 [(0, .ref o), (1, .ref g), (2, vI z), (3, vI e), (4, vI ((nx : Nat) : Int)), (5, vI ((st : Nat) : Int))] 24 [] := by
    intro N
    induction N with
    | zero => intro m1 nx st t1 Q1 N1 R1 far w1 c1 v1 s1 h45 f0 f1 f2 f3 f4 f5 f6 f7 f8 hok1 hNF hBI hlv hst hnx hm9 he; exfalso; omega
    | succ N ihOUT =>
      intro m1 nx st t1 Q1 N1 R1 far w1 c1 v1 s1 h45 f0 f1 f2 f3 f4 f5 f6 f7 f8 hok1 hNF hBI hlv hst hnx hm9 he
      have hmm := hBI.le
      obtain ⟨y1, y2, y3, y4, y5, y6⟩ := id hok1
      dsimp only at y1 y5 y6
      refine x_iload C dX5_explore_24 5 rfl ?_
      refine x_sipush C dX5_explore_26 6144 (by decide) ?_
      refine x_icmp_gt (tgt := 103) C dX5_explore_29 (by decide) (by omega) (by omega) (fun c46 => ?_) (fun c46 => ?_)
      · skip
        refine x_aload_n C dX5_explore_103 0 rfl ?_
        refine x_get C (v := vI w1) f0 (T := TX5) rfl kX5_explore_1 6 (by decide) kX5_explore_2 rfl dX5_explore_104 ?_
        refine x_iret C G dX5_explore_107 ?_ (by decide) (by decide)
        have hmm := hBI.le
        obtain rfl : nx = m1 := by omega
        have hfin := hBI.fin hTc (cd_lt hXok) (fun n hn i hi => (hTok n hn i hi).1.1) hXok.1
        exact ⟨c1, v1, s1, w1, t1, nx, Q1, N1, R1, rfl, he, hfin.1, fun _ => hfin.2, hok1⟩
      · skip
        refine x_iload C dX5_explore_32 4 rfl ?_
        refine x_aload_n C dX5_explore_34 0 rfl ?_
        refine x_get C (v := vI ((m1 : Nat) : Int)) f0 (T := TX5) rfl kX5_explore_1 5 (by decide) kX5_explore_3 rfl dX5_explore_35 ?_
        refine x_icmp_ge (tgt := 103) C dX5_explore_38 (by decide) (by omega) (by omega) (fun c47 => ?_) (fun c47 => ?_)
        · skip
          refine x_aload_n C dX5_explore_103 0 rfl ?_
          refine x_get C (v := vI w1) f0 (T := TX5) rfl kX5_explore_1 6 (by decide) kX5_explore_2 rfl dX5_explore_104 ?_
          refine x_iret C G dX5_explore_107 ?_ (by decide) (by decide)
          have hmm := hBI.le
          obtain rfl : nx = m1 := by omega
          have hfin := hBI.fin hTc (cd_lt hXok) (fun n hn i hi => (hTok n hn i hi).1.1) hXok.1
          exact ⟨c1, v1, s1, w1, t1, nx, Q1, N1, R1, rfl, he, hfin.1, fun _ => hfin.2, hok1⟩
        · skip
          refine x_iload_n C dX5_explore_41 3 rfl ?_
          refine x_if_eq (tgt := 57) C dX5_explore_42 (by decide) (by omega) (fun c48 => ?_) (fun c48 => ?_)
          · skip
            refine x_aload_n C dX5_explore_57 0 rfl ?_
            refine x_get C (v := vI ((m1 : Nat) : Int)) f0 (T := TX5) rfl kX5_explore_1 5 (by decide) kX5_explore_3 rfl dX5_explore_58 ?_
            refine x_istore C (ls' := [(0, .ref o), (1, .ref g), (2, vI z), (3, vI e), (4, vI ((nx : Nat) : Int)), (5, vI ((st : Nat) : Int)), (6, vI ((m1 : Nat) : Int))]) dX5_explore_61 (by decide) rfl ?_
            refine x_iload C dX5_explore_63 4 rfl ?_
            refine x_istore C (ls' := [(0, .ref o), (1, .ref g), (2, vI z), (3, vI e), (4, vI ((nx : Nat) : Int)), (5, vI ((st : Nat) : Int)), (6, vI ((m1 : Nat) : Int)), (7, vI ((nx : Nat) : Int))]) dX5_explore_65 (by decide) rfl ?_
            have INN : ∀ (M : Nat) (en : Nat) (m1 ix t1 : Nat) (Q1 N1 R1 far : Nat → Int) (w1 c1 v1 s1 : Int) (h49 : vh)  (u0 : h49 o = some (eO 5 [.ref sb, .ref sq, .ref sn, .ref sr, vI (num + 1), vI ((m1 : Nat) : Int), vI w1])) (u1 : h49 sq = some (eI D 6144 Q1)) (u2 : h49 sn = some (eI D 6144 N1)) (u3 : h49 sr = some (eZ D 96 R1)) (u4 : h49 sb = some (eO 0 [.ref as, vI c1, vI v1, vI ((t1 : Nat) : Int), vI s1])) (u5 : h49 g = some (eO 1 [.ref ak, .ref aq, vI ((al : Nat) : Int)])) (u6 : h49 ak = some (eI D 96 f)) (u7 : h49 aq = some (eI D 3 q)) (u8 : h49 as = some (eI D 3 S)) (hen : nx < en) (hok1 : SSok (num + 1) (m1, Q1, N1, R1, w1)) (hNF : NF (num + 1) N1 far) (hBI : BI (TT f q al S) (X0 f q z) m1 Q1 far R1 w1 ix 0) (hl1 : ∀ j, ix ≤ j → j < en → far (Q1 j).toNat = ((st : Nat) : Int) - 1) (hl2 : ∀ j, en ≤ j → j < m1 → far (Q1 j).toNat = ((st : Nat) : Int)) (hix : ix ≤ en ∧ en ≤ m1) (hm8 : en - ix < M) (he : h49 = hu (hu (hu (hu (hu h sb (eO 0 [.ref as, vI c1, vI v1, vI ((t1 : Nat) : Int), vI s1])) sr (eZ D 96 R1)) sn (eI D 6144 N1)) sq (eI D 6144 Q1)) o (eO 5 [.ref sb, .ref sq, .ref sn, .ref sr, vI (num + 1), vI ((m1 : Nat) : Int), vI w1])), X κ 0 0 h49 [(0, .ref o), (1, .ref g), (2, vI z), (3, vI e), (4, vI ((nx : Nat) : Int)), (5, vI ((st : Nat) : Int)), (6, vI ((en : Nat) : Int)), (7, vI ((ix : Nat) : Int))] 67 [] := by
              intro M
              induction M with
              | zero => intro en m1 ix t1 Q1 N1 R1 far w1 c1 v1 s1 h49 u0 u1 u2 u3 u4 u5 u6 u7 u8 hen hok1 hNF hBI hl1 hl2 hix hm8 he; exfalso; omega
              | succ M ihINN =>
                intro en m1 ix t1 Q1 N1 R1 far w1 c1 v1 s1 h49 u0 u1 u2 u3 u4 u5 u6 u7 u8 hen hok1 hNF hBI hl1 hl2 hix hm8 he
                have hA := hBI.1
                have hmm := hBI.le
                refine x_iload C dX5_explore_67 7 rfl ?_
                refine x_iload C dX5_explore_69 6 rfl ?_
                refine x_icmp_ge (tgt := 93) C dX5_explore_71 (by decide) (by omega) (by omega) (fun c50 => ?_) (fun c50 => ?_)
                · skip
                  refine x_iload C dX5_explore_93 6 rfl ?_
                  refine x_istore C (ls' := [(0, .ref o), (1, .ref g), (2, vI z), (3, vI e), (4, vI ((en : Nat) : Int)), (5, vI ((st : Nat) : Int)), (6, vI ((en : Nat) : Int)), (7, vI ((ix : Nat) : Int))]) dX5_explore_95 (by decide) rfl ?_
                  refine x_iinc C (x := ((st : Nat) : Int)) (ls' := [(0, .ref o), (1, .ref g), (2, vI z), (3, vI e), (4, vI ((en : Nat) : Int)), (5, vI ((((st : Nat) : Int)) + 1)), (6, vI ((en : Nat) : Int)), (7, vI ((ix : Nat) : Int))]) dX5_explore_97 5 rfl (by decide) rfl ?_
                  refine x_goto (tgt := 24) C dX5_explore_100 (by decide) ?_
                  refine x_sub [0, 1, 2, 3, 4, 5] (ls' := [(0, .ref o), (1, .ref g), (2, vI z), (3, vI e), (4, vI ((en : Nat) : Int)), (5, vI ((((st : Nat) : Int)) + 1))]) rfl ?_
                  exact ihOUT m1 en (st + 1) t1 Q1 N1 R1 far w1 c1 v1 s1 h49 u0 u1 u2 u3 u4 u5 u6 u7 u8 (hok1) (hNF) ((show ix = en by omega) ▸ hBI) (fun j a b => by rw [hl2 j (by omega) b]; omega) (by omega) (by omega) (by omega) (he)
                · skip
                  refine x_aload_n C dX5_explore_74 0 rfl ?_
                  refine x_aload_n C dX5_explore_75 1 rfl ?_
                  refine x_aload_n C dX5_explore_76 0 rfl ?_
                  refine x_iload C dX5_explore_77 7 rfl ?_
                  refine x_callV C (n := 1) (qc := (RX5, TX5, 7)) (As := [vI ((ix : Nat) : Int)]) (rest := [.ref g, .ref o]) (c_X5_queuedAt u0 u1 (by omega)) gX5_explore_X5_queuedAt (by decide +kernel) u0 rfl rfl rfl rfl (Nat.le_of_ble_eq_true rfl) ⟨by decide, by decide⟩ ⟨by decide, by decide⟩ dX5_explore_79 (fun rv51 h52 hp53 => ?_)
                  obtain ⟨rfl, e54⟩ := hp53
                  obtain rfl := e54.symm
                  refine x_topv (show Q1 ix = (((Q1 ix).toNat : Nat) : Int) from by have := hok1.2.1 ix; dsimp only at this; omega) ?_
                  refine x_iload C dX5_explore_82 5 rfl ?_
                  refine x_callV C (n := 3) (qc := (RX5, TX5, 7)) (As := [.ref g, vI (((Q1 ix).toNat : Nat) : Int), vI ((st : Nat) : Int)]) (rest := []) (c_X5_tryInputsFrom u0 u1 u2 u3 u4 u5 u6 u7 u8 (by have := hok1.2.1 ix; dsimp only at this; omega) (hok1) (by omega) (by omega) (by assumption) (by assumption) (by assumption) (by assumption) (by omega)) gX5_explore_X5_tryInputsFrom (by decide +kernel) u0 rfl rfl rfl rfl (Nat.le_of_ble_eq_true rfl) ⟨by decide, by decide⟩ ⟨by decide, by decide⟩ dX5_explore_84 (fun rv55 h56 hp57 => ?_)
                  obtain ⟨rfl, e58⟩ := hp57
                  have f59 : h56 o = some (eO 5 [.ref sb, .ref sq, .ref sn, .ref sr, vI (num + 1), vI (((tS (mvn f q al S ((Q1 ix).toNat)) (num + 1) (((st : Nat) : Int)) (cntN f al ((Q1 ix).toNat)) (m1, Q1, N1, R1, w1)).1 : Nat) : Int), vI ((tS (mvn f q al S ((Q1 ix).toNat)) (num + 1) (((st : Nat) : Int)) (cntN f al ((Q1 ix).toNat)) (m1, Q1, N1, R1, w1)).2.2.2.2)]) := by rw [e58]; exact hu_s
                  have f60 : h56 sq = some (eI D 6144 ((tS (mvn f q al S ((Q1 ix).toNat)) (num + 1) (((st : Nat) : Int)) (cntN f al ((Q1 ix).toNat)) (m1, Q1, N1, R1, w1)).2.1)) := by rw [e58, hu_n n28]; exact hu_s
                  have f61 : h56 sn = some (eI D 6144 ((tS (mvn f q al S ((Q1 ix).toNat)) (num + 1) (((st : Nat) : Int)) (cntN f al ((Q1 ix).toNat)) (m1, Q1, N1, R1, w1)).2.2.1)) := by rw [e58, hu_n n33, hu_n (Ne.symm n1)]; exact hu_s
                  have f62 : h56 sr = some (eZ D 96 ((tS (mvn f q al S ((Q1 ix).toNat)) (num + 1) (((st : Nat) : Int)) (cntN f al ((Q1 ix).toNat)) (m1, Q1, N1, R1, w1)).2.2.2.1)) := by rw [e58, hu_n (Ne.symm n7), hu_n (Ne.symm n27), hu_n (Ne.symm n32)]; exact hu_s
                  have f63 : h56 sb = some (eO 0 [.ref as, vI ((mvn f q al S ((Q1 ix).toNat) (((cntN f al ((Q1 ix).toNat) : Nat) : Int) - 1)).1), vI ((mvn f q al S ((Q1 ix).toNat) (((cntN f al ((Q1 ix).toNat) : Nat) : Int) - 1)).2.1), vI (((mvn f q al S ((Q1 ix).toNat) (((cntN f al ((Q1 ix).toNat) : Nat) : Int) - 1)).2.2.1 : Nat) : Int), vI ((mvn f q al S ((Q1 ix).toNat) (((cntN f al ((Q1 ix).toNat) : Nat) : Int) - 1)).2.2.2)]) := by rw [e58, hu_n n10, hu_n (Ne.symm n30), hu_n (Ne.symm n35), hu_n n9]; exact hu_s
                  have hAi := hA ix (by omega)
                  have hQn : Q1 ix = (((Q1 ix).toNat : Nat) : Int) := by omega
                  obtain ⟨far2, g1, g2, g3⟩ := BI.tries hTok (σ := (m1, Q1, N1, R1, w1)) (mvn f q al S (Q1 ix).toNat) (fun i => rfl) hQn hBI hNF (show ix < m1 by omega) (show far (Q1 ix).toNat + 1 = ((st : Nat) : Int) by rw [hl1 ix (Nat.le_refl _) (by omega)]; omega) (cntN f al (Q1 ix).toNat) (by unfold cntN; split <;> omega)
                  have g4 : BI (TT f q al S) (X0 f q z) (tS (mvn f q al S (Q1 ix).toNat) (num + 1) ((st : Nat) : Int) (cntN f al (Q1 ix).toNat) (m1, Q1, N1, R1, w1)).1 (tS (mvn f q al S (Q1 ix).toNat) (num + 1) ((st : Nat) : Int) (cntN f al (Q1 ix).toNat) (m1, Q1, N1, R1, w1)).2.1 far2 (tS (mvn f q al S (Q1 ix).toNat) (num + 1) ((st : Nat) : Int) (cntN f al (Q1 ix).toNat) (m1, Q1, N1, R1, w1)).2.2.2.1 (tS (mvn f q al S (Q1 ix).toNat) (num + 1) ((st : Nat) : Int) (cntN f al (Q1 ix).toNat) (m1, Q1, N1, R1, w1)).2.2.2.2 ix 6 := by
                    by_cases q9 : cntN f al (Q1 ix).toNat = 6
                    · rw [q9] at g1 ⊢; exact g1
                    · have q8 : cntN f al (Q1 ix).toNat = 3 := by rcases cntN_or f al (Q1 ix).toNat with q7 | q7 <;> omega
                      have e9 := (g3.2.1 ix (show ix < m1 by omega)).1
                      have g1' := g1
                      rw [q8] at g1' e9 ⊢
                      refine g1'.skip (fun i hi => ?_)
                      rw [e9]
                      exact mvn_skip q8 i
                  have g5 := g4.next
                  have g6 := tS_ok (T := mvn f q al S (Q1 ix).toNat) (fun i => mvn_ok hS (show (Q1 ix).toNat < 6144 by omega) i) (show 0 ≤ num + 1 by omega) (show 0 ≤ ((st : Nat) : Int) ∧ ((st : Nat) : Int) ≤ 7000 by omega) hok1 (cntN f al (Q1 ix).toNat)
                  obtain ⟨g7, g8, g9⟩ := g3
                  refine x_iinc C (x := ((ix : Nat) : Int)) (ls' := [(0, .ref o), (1, .ref g), (2, vI z), (3, vI e), (4, vI ((nx : Nat) : Int)), (5, vI ((st : Nat) : Int)), (6, vI ((en : Nat) : Int)), (7, vI ((((ix : Nat) : Int)) + 1))]) dX5_explore_87 7 rfl (by decide) rfl ?_
                  refine x_goto (tgt := 67) C dX5_explore_90 (by decide) ?_
                  have n65 : nq g sq := vnt u5 u1 (p := (3, 1)) (q := (0, 6144)) rfl rfl (by decide)
                  have n66 : nq g sn := vnt u5 u2 (p := (3, 1)) (q := (0, 6144)) rfl rfl (by decide)
                  have n67 : nq g sb := vnt u5 u4 (p := (3, 1)) (q := (3, 0)) rfl rfl (by decide)
                  have f64 : h56 g = some (eO 1 [.ref ak, .ref aq, vI ((al : Nat) : Int)]) := by rw [e58, hu_n n13, hu_n n65, hu_n n66, hu_n n12, hu_n n67]; exact u5
                  have n69 : nq ak sq := vnt u6 u1 (p := (0, 96)) (q := (0, 6144)) rfl rfl (by decide)
                  have n70 : nq ak sn := vnt u6 u2 (p := (0, 96)) (q := (0, 6144)) rfl rfl (by decide)
                  have n71 : nq ak sb := vnt u6 u4 (p := (0, 96)) (q := (3, 0)) rfl rfl (by decide)
                  have f68 : h56 ak = some (eI D 96 f) := by rw [e58, hu_n n16, hu_n n69, hu_n n70, hu_n n15, hu_n n71]; exact u6
                  have n73 : nq aq sq := vnt u7 u1 (p := (0, 3)) (q := (0, 6144)) rfl rfl (by decide)
                  have n74 : nq aq sn := vnt u7 u2 (p := (0, 3)) (q := (0, 6144)) rfl rfl (by decide)
                  have n75 : nq aq sb := vnt u7 u4 (p := (0, 3)) (q := (3, 0)) rfl rfl (by decide)
                  have f72 : h56 aq = some (eI D 3 q) := by rw [e58, hu_n n19, hu_n n73, hu_n n74, hu_n n18, hu_n n75]; exact u7
                  have n77 : nq as o := vnt u8 u0 (p := (0, 3)) (q := (3, 5)) rfl rfl (by decide)
                  have n78 : nq as sq := vnt u8 u1 (p := (0, 3)) (q := (0, 6144)) rfl rfl (by decide)
                  have n79 : nq as sn := vnt u8 u2 (p := (0, 3)) (q := (0, 6144)) rfl rfl (by decide)
                  have n80 : nq as sr := vnt u8 u3 (p := (0, 3)) (q := (0, 96)) rfl rfl (by decide)
                  have n81 : nq as sb := vnt u8 u4 (p := (0, 3)) (q := (3, 0)) rfl rfl (by decide)
                  have f76 : h56 as = some (eI D 3 S) := by rw [e58, hu_n n77, hu_n n78, hu_n n79, hu_n n80, hu_n n81]; exact u8
                  exact ihINN en ((tS (mvn f q al S ((Q1 ix).toNat)) (num + 1) (((st : Nat) : Int)) (cntN f al ((Q1 ix).toNat)) (m1, Q1, N1, R1, w1)).1) (ix + 1) ((mvn f q al S ((Q1 ix).toNat) (((cntN f al ((Q1 ix).toNat) : Nat) : Int) - 1)).2.2.1) ((tS (mvn f q al S ((Q1 ix).toNat)) (num + 1) (((st : Nat) : Int)) (cntN f al ((Q1 ix).toNat)) (m1, Q1, N1, R1, w1)).2.1) ((tS (mvn f q al S ((Q1 ix).toNat)) (num + 1) (((st : Nat) : Int)) (cntN f al ((Q1 ix).toNat)) (m1, Q1, N1, R1, w1)).2.2.1) ((tS (mvn f q al S ((Q1 ix).toNat)) (num + 1) (((st : Nat) : Int)) (cntN f al ((Q1 ix).toNat)) (m1, Q1, N1, R1, w1)).2.2.2.1) far2 ((tS (mvn f q al S ((Q1 ix).toNat)) (num + 1) (((st : Nat) : Int)) (cntN f al ((Q1 ix).toNat)) (m1, Q1, N1, R1, w1)).2.2.2.2) ((mvn f q al S ((Q1 ix).toNat) (((cntN f al ((Q1 ix).toNat) : Nat) : Int) - 1)).1) ((mvn f q al S ((Q1 ix).toNat) (((cntN f al ((Q1 ix).toNat) : Nat) : Int) - 1)).2.1) ((mvn f q al S ((Q1 ix).toNat) (((cntN f al ((Q1 ix).toNat) : Nat) : Int) - 1)).2.2.2) h56 f59 f60 f61 f62 f63 f64 f68 f72 f76 (by omega) (g6) (g2) (g5) (fun j a b => by rw [(g8 j (by show j < m1; omega)).1, (g8 j (by show j < m1; omega)).2]; exact hl1 j (by omega) b) (fun j a b => by
    rcases Nat.lt_or_ge j m1 with q9 | q9
    · rw [(g8 j q9).1, (g8 j q9).2]; exact hl2 j a q9
    · exact g9 j q9 b) (⟨by omega, Nat.le_trans hix.2 g7⟩) (by omega) (by rw [e58, he]; exact hu5)
            exact INN (m1 + 1) m1 m1 nx t1 Q1 N1 R1 far w1 c1 v1 s1 h45 f0 f1 f2 f3 f4 f5 f6 f7 f8 (by omega) (hok1) (hNF) (hBI) (fun j a b => hlv j a b) (fun j a b => by omega) (by omega) (by omega) (he)
          · skip
            refine x_aload_n C dX5_explore_45 0 rfl ?_
            refine x_get C (v := vI w1) f0 (T := TX5) rfl kX5_explore_1 6 (by decide) kX5_explore_2 rfl dX5_explore_46 ?_
            refine x_if_lt (tgt := 57) C dX5_explore_49 (by decide) (by omega) (fun c82 => ?_) (fun c82 => ?_)
            · skip
              refine x_aload_n C dX5_explore_57 0 rfl ?_
              refine x_get C (v := vI ((m1 : Nat) : Int)) f0 (T := TX5) rfl kX5_explore_1 5 (by decide) kX5_explore_3 rfl dX5_explore_58 ?_
              refine x_istore C (ls' := [(0, .ref o), (1, .ref g), (2, vI z), (3, vI e), (4, vI ((nx : Nat) : Int)), (5, vI ((st : Nat) : Int)), (6, vI ((m1 : Nat) : Int))]) dX5_explore_61 (by decide) rfl ?_
              refine x_iload C dX5_explore_63 4 rfl ?_
              refine x_istore C (ls' := [(0, .ref o), (1, .ref g), (2, vI z), (3, vI e), (4, vI ((nx : Nat) : Int)), (5, vI ((st : Nat) : Int)), (6, vI ((m1 : Nat) : Int)), (7, vI ((nx : Nat) : Int))]) dX5_explore_65 (by decide) rfl ?_
              have INN : ∀ (M : Nat) (en : Nat) (m1 ix t1 : Nat) (Q1 N1 R1 far : Nat → Int) (w1 c1 v1 s1 : Int) (h83 : vh)  (u0 : h83 o = some (eO 5 [.ref sb, .ref sq, .ref sn, .ref sr, vI (num + 1), vI ((m1 : Nat) : Int), vI w1])) (u1 : h83 sq = some (eI D 6144 Q1)) (u2 : h83 sn = some (eI D 6144 N1)) (u3 : h83 sr = some (eZ D 96 R1)) (u4 : h83 sb = some (eO 0 [.ref as, vI c1, vI v1, vI ((t1 : Nat) : Int), vI s1])) (u5 : h83 g = some (eO 1 [.ref ak, .ref aq, vI ((al : Nat) : Int)])) (u6 : h83 ak = some (eI D 96 f)) (u7 : h83 aq = some (eI D 3 q)) (u8 : h83 as = some (eI D 3 S)) (hen : nx < en) (hok1 : SSok (num + 1) (m1, Q1, N1, R1, w1)) (hNF : NF (num + 1) N1 far) (hBI : BI (TT f q al S) (X0 f q z) m1 Q1 far R1 w1 ix 0) (hl1 : ∀ j, ix ≤ j → j < en → far (Q1 j).toNat = ((st : Nat) : Int) - 1) (hl2 : ∀ j, en ≤ j → j < m1 → far (Q1 j).toNat = ((st : Nat) : Int)) (hix : ix ≤ en ∧ en ≤ m1) (hm8 : en - ix < M) (he : h83 = hu (hu (hu (hu (hu h sb (eO 0 [.ref as, vI c1, vI v1, vI ((t1 : Nat) : Int), vI s1])) sr (eZ D 96 R1)) sn (eI D 6144 N1)) sq (eI D 6144 Q1)) o (eO 5 [.ref sb, .ref sq, .ref sn, .ref sr, vI (num + 1), vI ((m1 : Nat) : Int), vI w1])), X κ 0 0 h83 [(0, .ref o), (1, .ref g), (2, vI z), (3, vI e), (4, vI ((nx : Nat) : Int)), (5, vI ((st : Nat) : Int)), (6, vI ((en : Nat) : Int)), (7, vI ((ix : Nat) : Int))] 67 [] := by
                intro M
                induction M with
                | zero => intro en m1 ix t1 Q1 N1 R1 far w1 c1 v1 s1 h83 u0 u1 u2 u3 u4 u5 u6 u7 u8 hen hok1 hNF hBI hl1 hl2 hix hm8 he; exfalso; omega
                | succ M ihINN =>
                  intro en m1 ix t1 Q1 N1 R1 far w1 c1 v1 s1 h83 u0 u1 u2 u3 u4 u5 u6 u7 u8 hen hok1 hNF hBI hl1 hl2 hix hm8 he
                  have hA := hBI.1
                  have hmm := hBI.le
                  refine x_iload C dX5_explore_67 7 rfl ?_
                  refine x_iload C dX5_explore_69 6 rfl ?_
                  refine x_icmp_ge (tgt := 93) C dX5_explore_71 (by decide) (by omega) (by omega) (fun c84 => ?_) (fun c84 => ?_)
                  · skip
                    refine x_iload C dX5_explore_93 6 rfl ?_
                    refine x_istore C (ls' := [(0, .ref o), (1, .ref g), (2, vI z), (3, vI e), (4, vI ((en : Nat) : Int)), (5, vI ((st : Nat) : Int)), (6, vI ((en : Nat) : Int)), (7, vI ((ix : Nat) : Int))]) dX5_explore_95 (by decide) rfl ?_
                    refine x_iinc C (x := ((st : Nat) : Int)) (ls' := [(0, .ref o), (1, .ref g), (2, vI z), (3, vI e), (4, vI ((en : Nat) : Int)), (5, vI ((((st : Nat) : Int)) + 1)), (6, vI ((en : Nat) : Int)), (7, vI ((ix : Nat) : Int))]) dX5_explore_97 5 rfl (by decide) rfl ?_
                    refine x_goto (tgt := 24) C dX5_explore_100 (by decide) ?_
                    refine x_sub [0, 1, 2, 3, 4, 5] (ls' := [(0, .ref o), (1, .ref g), (2, vI z), (3, vI e), (4, vI ((en : Nat) : Int)), (5, vI ((((st : Nat) : Int)) + 1))]) rfl ?_
                    exact ihOUT m1 en (st + 1) t1 Q1 N1 R1 far w1 c1 v1 s1 h83 u0 u1 u2 u3 u4 u5 u6 u7 u8 (hok1) (hNF) ((show ix = en by omega) ▸ hBI) (fun j a b => by rw [hl2 j (by omega) b]; omega) (by omega) (by omega) (by omega) (he)
                  · skip
                    refine x_aload_n C dX5_explore_74 0 rfl ?_
                    refine x_aload_n C dX5_explore_75 1 rfl ?_
                    refine x_aload_n C dX5_explore_76 0 rfl ?_
                    refine x_iload C dX5_explore_77 7 rfl ?_
                    refine x_callV C (n := 1) (qc := (RX5, TX5, 7)) (As := [vI ((ix : Nat) : Int)]) (rest := [.ref g, .ref o]) (c_X5_queuedAt u0 u1 (by omega)) gX5_explore_X5_queuedAt (by decide +kernel) u0 rfl rfl rfl rfl (Nat.le_of_ble_eq_true rfl) ⟨by decide, by decide⟩ ⟨by decide, by decide⟩ dX5_explore_79 (fun rv85 h86 hp87 => ?_)
                    obtain ⟨rfl, e88⟩ := hp87
                    obtain rfl := e88.symm
                    refine x_topv (show Q1 ix = (((Q1 ix).toNat : Nat) : Int) from by have := hok1.2.1 ix; dsimp only at this; omega) ?_
                    refine x_iload C dX5_explore_82 5 rfl ?_
                    refine x_callV C (n := 3) (qc := (RX5, TX5, 7)) (As := [.ref g, vI (((Q1 ix).toNat : Nat) : Int), vI ((st : Nat) : Int)]) (rest := []) (c_X5_tryInputsFrom u0 u1 u2 u3 u4 u5 u6 u7 u8 (by have := hok1.2.1 ix; dsimp only at this; omega) (hok1) (by omega) (by omega) (by assumption) (by assumption) (by assumption) (by assumption) (by omega)) gX5_explore_X5_tryInputsFrom (by decide +kernel) u0 rfl rfl rfl rfl (Nat.le_of_ble_eq_true rfl) ⟨by decide, by decide⟩ ⟨by decide, by decide⟩ dX5_explore_84 (fun rv89 h90 hp91 => ?_)
                    obtain ⟨rfl, e92⟩ := hp91
                    have f93 : h90 o = some (eO 5 [.ref sb, .ref sq, .ref sn, .ref sr, vI (num + 1), vI (((tS (mvn f q al S ((Q1 ix).toNat)) (num + 1) (((st : Nat) : Int)) (cntN f al ((Q1 ix).toNat)) (m1, Q1, N1, R1, w1)).1 : Nat) : Int), vI ((tS (mvn f q al S ((Q1 ix).toNat)) (num + 1) (((st : Nat) : Int)) (cntN f al ((Q1 ix).toNat)) (m1, Q1, N1, R1, w1)).2.2.2.2)]) := by rw [e92]; exact hu_s
                    have f94 : h90 sq = some (eI D 6144 ((tS (mvn f q al S ((Q1 ix).toNat)) (num + 1) (((st : Nat) : Int)) (cntN f al ((Q1 ix).toNat)) (m1, Q1, N1, R1, w1)).2.1)) := by rw [e92, hu_n n28]; exact hu_s
                    have f95 : h90 sn = some (eI D 6144 ((tS (mvn f q al S ((Q1 ix).toNat)) (num + 1) (((st : Nat) : Int)) (cntN f al ((Q1 ix).toNat)) (m1, Q1, N1, R1, w1)).2.2.1)) := by rw [e92, hu_n n33, hu_n (Ne.symm n1)]; exact hu_s
                    have f96 : h90 sr = some (eZ D 96 ((tS (mvn f q al S ((Q1 ix).toNat)) (num + 1) (((st : Nat) : Int)) (cntN f al ((Q1 ix).toNat)) (m1, Q1, N1, R1, w1)).2.2.2.1)) := by rw [e92, hu_n (Ne.symm n7), hu_n (Ne.symm n27), hu_n (Ne.symm n32)]; exact hu_s
                    have f97 : h90 sb = some (eO 0 [.ref as, vI ((mvn f q al S ((Q1 ix).toNat) (((cntN f al ((Q1 ix).toNat) : Nat) : Int) - 1)).1), vI ((mvn f q al S ((Q1 ix).toNat) (((cntN f al ((Q1 ix).toNat) : Nat) : Int) - 1)).2.1), vI (((mvn f q al S ((Q1 ix).toNat) (((cntN f al ((Q1 ix).toNat) : Nat) : Int) - 1)).2.2.1 : Nat) : Int), vI ((mvn f q al S ((Q1 ix).toNat) (((cntN f al ((Q1 ix).toNat) : Nat) : Int) - 1)).2.2.2)]) := by rw [e92, hu_n n10, hu_n (Ne.symm n30), hu_n (Ne.symm n35), hu_n n9]; exact hu_s
                    have hAi := hA ix (by omega)
                    have hQn : Q1 ix = (((Q1 ix).toNat : Nat) : Int) := by omega
                    obtain ⟨far2, g1, g2, g3⟩ := BI.tries hTok (σ := (m1, Q1, N1, R1, w1)) (mvn f q al S (Q1 ix).toNat) (fun i => rfl) hQn hBI hNF (show ix < m1 by omega) (show far (Q1 ix).toNat + 1 = ((st : Nat) : Int) by rw [hl1 ix (Nat.le_refl _) (by omega)]; omega) (cntN f al (Q1 ix).toNat) (by unfold cntN; split <;> omega)
                    have g4 : BI (TT f q al S) (X0 f q z) (tS (mvn f q al S (Q1 ix).toNat) (num + 1) ((st : Nat) : Int) (cntN f al (Q1 ix).toNat) (m1, Q1, N1, R1, w1)).1 (tS (mvn f q al S (Q1 ix).toNat) (num + 1) ((st : Nat) : Int) (cntN f al (Q1 ix).toNat) (m1, Q1, N1, R1, w1)).2.1 far2 (tS (mvn f q al S (Q1 ix).toNat) (num + 1) ((st : Nat) : Int) (cntN f al (Q1 ix).toNat) (m1, Q1, N1, R1, w1)).2.2.2.1 (tS (mvn f q al S (Q1 ix).toNat) (num + 1) ((st : Nat) : Int) (cntN f al (Q1 ix).toNat) (m1, Q1, N1, R1, w1)).2.2.2.2 ix 6 := by
                      by_cases q9 : cntN f al (Q1 ix).toNat = 6
                      · rw [q9] at g1 ⊢; exact g1
                      · have q8 : cntN f al (Q1 ix).toNat = 3 := by rcases cntN_or f al (Q1 ix).toNat with q7 | q7 <;> omega
                        have e9 := (g3.2.1 ix (show ix < m1 by omega)).1
                        have g1' := g1
                        rw [q8] at g1' e9 ⊢
                        refine g1'.skip (fun i hi => ?_)
                        rw [e9]
                        exact mvn_skip q8 i
                    have g5 := g4.next
                    have g6 := tS_ok (T := mvn f q al S (Q1 ix).toNat) (fun i => mvn_ok hS (show (Q1 ix).toNat < 6144 by omega) i) (show 0 ≤ num + 1 by omega) (show 0 ≤ ((st : Nat) : Int) ∧ ((st : Nat) : Int) ≤ 7000 by omega) hok1 (cntN f al (Q1 ix).toNat)
                    obtain ⟨g7, g8, g9⟩ := g3
                    refine x_iinc C (x := ((ix : Nat) : Int)) (ls' := [(0, .ref o), (1, .ref g), (2, vI z), (3, vI e), (4, vI ((nx : Nat) : Int)), (5, vI ((st : Nat) : Int)), (6, vI ((en : Nat) : Int)), (7, vI ((((ix : Nat) : Int)) + 1))]) dX5_explore_87 7 rfl (by decide) rfl ?_
                    refine x_goto (tgt := 67) C dX5_explore_90 (by decide) ?_
                    have n99 : nq g sq := vnt u5 u1 (p := (3, 1)) (q := (0, 6144)) rfl rfl (by decide)
                    have n100 : nq g sn := vnt u5 u2 (p := (3, 1)) (q := (0, 6144)) rfl rfl (by decide)
                    have n101 : nq g sb := vnt u5 u4 (p := (3, 1)) (q := (3, 0)) rfl rfl (by decide)
                    have f98 : h90 g = some (eO 1 [.ref ak, .ref aq, vI ((al : Nat) : Int)]) := by rw [e92, hu_n n13, hu_n n99, hu_n n100, hu_n n12, hu_n n101]; exact u5
                    have n103 : nq ak sq := vnt u6 u1 (p := (0, 96)) (q := (0, 6144)) rfl rfl (by decide)
                    have n104 : nq ak sn := vnt u6 u2 (p := (0, 96)) (q := (0, 6144)) rfl rfl (by decide)
                    have n105 : nq ak sb := vnt u6 u4 (p := (0, 96)) (q := (3, 0)) rfl rfl (by decide)
                    have f102 : h90 ak = some (eI D 96 f) := by rw [e92, hu_n n16, hu_n n103, hu_n n104, hu_n n15, hu_n n105]; exact u6
                    have n107 : nq aq sq := vnt u7 u1 (p := (0, 3)) (q := (0, 6144)) rfl rfl (by decide)
                    have n108 : nq aq sn := vnt u7 u2 (p := (0, 3)) (q := (0, 6144)) rfl rfl (by decide)
                    have n109 : nq aq sb := vnt u7 u4 (p := (0, 3)) (q := (3, 0)) rfl rfl (by decide)
                    have f106 : h90 aq = some (eI D 3 q) := by rw [e92, hu_n n19, hu_n n107, hu_n n108, hu_n n18, hu_n n109]; exact u7
                    have n111 : nq as o := vnt u8 u0 (p := (0, 3)) (q := (3, 5)) rfl rfl (by decide)
                    have n112 : nq as sq := vnt u8 u1 (p := (0, 3)) (q := (0, 6144)) rfl rfl (by decide)
                    have n113 : nq as sn := vnt u8 u2 (p := (0, 3)) (q := (0, 6144)) rfl rfl (by decide)
                    have n114 : nq as sr := vnt u8 u3 (p := (0, 3)) (q := (0, 96)) rfl rfl (by decide)
                    have n115 : nq as sb := vnt u8 u4 (p := (0, 3)) (q := (3, 0)) rfl rfl (by decide)
                    have f110 : h90 as = some (eI D 3 S) := by rw [e92, hu_n n111, hu_n n112, hu_n n113, hu_n n114, hu_n n115]; exact u8
                    exact ihINN en ((tS (mvn f q al S ((Q1 ix).toNat)) (num + 1) (((st : Nat) : Int)) (cntN f al ((Q1 ix).toNat)) (m1, Q1, N1, R1, w1)).1) (ix + 1) ((mvn f q al S ((Q1 ix).toNat) (((cntN f al ((Q1 ix).toNat) : Nat) : Int) - 1)).2.2.1) ((tS (mvn f q al S ((Q1 ix).toNat)) (num + 1) (((st : Nat) : Int)) (cntN f al ((Q1 ix).toNat)) (m1, Q1, N1, R1, w1)).2.1) ((tS (mvn f q al S ((Q1 ix).toNat)) (num + 1) (((st : Nat) : Int)) (cntN f al ((Q1 ix).toNat)) (m1, Q1, N1, R1, w1)).2.2.1) ((tS (mvn f q al S ((Q1 ix).toNat)) (num + 1) (((st : Nat) : Int)) (cntN f al ((Q1 ix).toNat)) (m1, Q1, N1, R1, w1)).2.2.2.1) far2 ((tS (mvn f q al S ((Q1 ix).toNat)) (num + 1) (((st : Nat) : Int)) (cntN f al ((Q1 ix).toNat)) (m1, Q1, N1, R1, w1)).2.2.2.2) ((mvn f q al S ((Q1 ix).toNat) (((cntN f al ((Q1 ix).toNat) : Nat) : Int) - 1)).1) ((mvn f q al S ((Q1 ix).toNat) (((cntN f al ((Q1 ix).toNat) : Nat) : Int) - 1)).2.1) ((mvn f q al S ((Q1 ix).toNat) (((cntN f al ((Q1 ix).toNat) : Nat) : Int) - 1)).2.2.2) h90 f93 f94 f95 f96 f97 f98 f102 f106 f110 (by omega) (g6) (g2) (g5) (fun j a b => by rw [(g8 j (by show j < m1; omega)).1, (g8 j (by show j < m1; omega)).2]; exact hl1 j (by omega) b) (fun j a b => by
    rcases Nat.lt_or_ge j m1 with q9 | q9
    · rw [(g8 j q9).1, (g8 j q9).2]; exact hl2 j a q9
    · exact g9 j q9 b) (⟨by omega, Nat.le_trans hix.2 g7⟩) (by omega) (by rw [e92, he]; exact hu5)
              exact INN (m1 + 1) m1 m1 nx t1 Q1 N1 R1 far w1 c1 v1 s1 h45 f0 f1 f2 f3 f4 f5 f6 f7 f8 (by omega) (hok1) (hNF) (hBI) (fun j a b => hlv j a b) (fun j a b => by omega) (by omega) (by omega) (he)
            · skip
              refine x_aload_n C dX5_explore_52 0 rfl ?_
              refine x_get C (v := vI w1) f0 (T := TX5) rfl kX5_explore_1 6 (by decide) kX5_explore_2 rfl dX5_explore_53 ?_
              refine x_iret C G dX5_explore_56 ?_ (by decide) (by decide)
              refine ⟨c1, v1, s1, w1, t1, m1, Q1, N1, R1, rfl, he, hBI.found hTc (cd_lt hXok) (by omega), fun q9 => by omega, hok1⟩
  have f116 : h38 sb = some (eO 0 [.ref as, vI ((cm f (kbf f q) z (z, 0, 1)).1), vI 0, vI (((cm f (kbf f q) z (z, 0, 1)).2.1 : Nat) : Int), vI ((cm f (kbf f q) z (z, 0, 1)).2.2)]) := by rw [e40, hu_n n10, hu_n (Ne.symm n30), hu_n (Ne.symm n35), hu_n n9]; exact f24
  have n118 : nq g sb := vnt f11 f8 (p := (3, 1)) (q := (3, 0)) rfl rfl (by decide)
  have f117 : h21 g = some (eO 1 [.ref ak, .ref aq, vI ((al : Nat) : Int)]) := by rw [e23, hu_n n118]; exact f11
  have n120 : nq g sq := vnt f117 f29 (p := (3, 1)) (q := (0, 6144)) rfl rfl (by decide)
  have n121 : nq g sn := vnt f117 f34 (p := (3, 1)) (q := (0, 6144)) rfl rfl (by decide)
  have f119 : h38 g = some (eO 1 [.ref ak, .ref aq, vI ((al : Nat) : Int)]) := by rw [e40, hu_n n13, hu_n n120, hu_n n121, hu_n n12]; exact f117
  have n123 : nq ak sb := vnt f14 f8 (p := (0, 96)) (q := (3, 0)) rfl rfl (by decide)
  have f122 : h21 ak = some (eI D 96 f) := by rw [e23, hu_n n123]; exact f14
  have n125 : nq ak sq := vnt f122 f29 (p := (0, 96)) (q := (0, 6144)) rfl rfl (by decide)
  have n126 : nq ak sn := vnt f122 f34 (p := (0, 96)) (q := (0, 6144)) rfl rfl (by decide)
  have f124 : h38 ak = some (eI D 96 f) := by rw [e40, hu_n n16, hu_n n125, hu_n n126, hu_n n15]; exact f122
  have n128 : nq aq sb := vnt f17 f8 (p := (0, 3)) (q := (3, 0)) rfl rfl (by decide)
  have f127 : h21 aq = some (eI D 3 q) := by rw [e23, hu_n n128]; exact f17
  have n130 : nq aq sq := vnt f127 f29 (p := (0, 3)) (q := (0, 6144)) rfl rfl (by decide)
  have n131 : nq aq sn := vnt f127 f34 (p := (0, 3)) (q := (0, 6144)) rfl rfl (by decide)
  have f129 : h38 aq = some (eI D 3 q) := by rw [e40, hu_n n19, hu_n n130, hu_n n131, hu_n n18]; exact f127
  have n133 : nq as sr := vnt hSS hR (p := (0, 3)) (q := (0, 96)) rfl rfl (by decide)
  have n134 : nq as o := vnt hSS ho (p := (0, 3)) (q := (3, 5)) rfl rfl (by decide)
  have f132 : h2 as = some (eI D 3 S) := by rw [e4, hu_n n133, hu_n n134]; exact hSS
  have n136 : nq as sb := vnt f132 f8 (p := (0, 3)) (q := (3, 0)) rfl rfl (by decide)
  have f135 : h21 as = some (eI D 3 S) := by rw [e23, hu_n n136]; exact f132
  have n138 : nq as sq := vnt f135 f29 (p := (0, 3)) (q := (0, 6144)) rfl rfl (by decide)
  have n139 : nq as sn := vnt f135 f34 (p := (0, 3)) (q := (0, 6144)) rfl rfl (by decide)
  have f137 : h38 as = some (eI D 3 S) := by rw [e40, hu_n n134, hu_n n138, hu_n n139, hu_n n133]; exact f135
  exact OUT (6147) ((nbS (num + 1) 0 (X0 f q z) (0, Qf, Nf, rz0 Rz 96, -1)).1) 0 1 ((cm f (kbf f q) z (z, 0, 1)).2.1) ((nbS (num + 1) 0 (X0 f q z) (0, Qf, Nf, rz0 Rz 96, -1)).2.1) ((nbS (num + 1) 0 (X0 f q z) (0, Qf, Nf, rz0 Rz 96, -1)).2.2.1) ((nbS (num + 1) 0 (X0 f q z) (0, Qf, Nf, rz0 Rz 96, -1)).2.2.2.1) far0 ((nbS (num + 1) 0 (X0 f q z) (0, Qf, Nf, rz0 Rz 96, -1)).2.2.2.2) ((cm f (kbf f q) z (z, 0, 1)).1) 0 ((cm f (kbf f q) z (z, 0, 1)).2.2) h38 f41 f42 f43 f44 f116 f119 f124 f129 f137 (hok0) (hN0) (hB0) (fun j _ hj => (hL0 j hj).trans (by decide)) (by omega) (by omega) (by omega) (by rw [e40, e23, e4]; exact hu7)


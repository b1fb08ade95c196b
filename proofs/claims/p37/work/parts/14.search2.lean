theorem hu5 {h : vh} {a b c d e : Nat} {x1 x2 x3 x4 x5 y1 y2 y3 y4 y5 : va_E} : hu (hu (hu (hu (hu (hu (hu (hu (hu (hu h a x1) b x2) c x3) d x4) e x5) a y1) b y2) c y3) d y4) e y5 = hu (hu (hu (hu (hu h a y1) b y2) c y3) d y4) e y5 := by
  funext q
  by_cases q1 : q = e
  · simp [hu, q1]
  · by_cases q2 : q = d
    · simp only [hu, if_neg q1, if_pos q2]
    · by_cases q3 : q = c
      · simp only [hu, if_neg q1, if_neg q2, if_pos q3]
      · by_cases q4 : q = b
        · simp only [hu, if_neg q1, if_neg q2, if_neg q3, if_pos q4]
        · by_cases q5 : q = a
          · simp only [hu, if_neg q1, if_neg q2, if_neg q3, if_neg q4, if_pos q5]
          · simp only [hu, if_neg q1, if_neg q2, if_neg q3, if_neg q4, if_neg q5]
theorem eta4 (x : Int × Int × Nat × Int) : (x.1, x.2.1, x.2.2.1, x.2.2.2) = x := rfl
theorem tS_step (T : Int → Int × Int × Nat × Int) (num k : Int) (j : Nat) (σ : SS) : nbS num k ((T j).1, (T j).2.1, (T j).2.2.1, (T j).2.2.2) ((tS T num k j σ).1, (tS T num k j σ).2.1, (tS T num k j σ).2.2.1, (tS T num k j σ).2.2.2.1, (tS T num k j σ).2.2.2.2) = tS T num k (j + 1) σ := rfl
def rz0 (R : Nat → Int) (n : Nat) : Nat → Int := fun j => if j < n then 0 else R j
theorem rz0_0 (R : Nat → Int) : rz0 R 0 = R := by funext j; simp [rz0]
theorem rz0_i (R : Nat → Int) (i : Nat) : fu (rz0 R i) i 0 = rz0 R (i + 1) := by
  funext j
  unfold fu rz0
  by_cases hj : j = i
  · rw [if_pos hj, if_pos (by omega)]
  · rw [if_neg hj]
    by_cases hk : j < i
    · rw [if_pos hk, if_pos (by omega)]
    · rw [if_neg hk, if_neg (by omega)]
/-- how many inputs are tried: those that jump do the same as the others for a body that doesn't stand -/
def cntN (f : Nat → Int) (al n : Nat) : Nat := if 0 ≤ ((n / 8 % 8 : Nat) : Int) - 4 ∧ sol f al (n % 8) (((n / 64 : Nat) : Int) + 12) then 6 else 3

theorem kX5_restart_0 : Cond.fieldLink "LedgeLevels$Search" 22 "LedgeLevels$Search" "number" "I" ∈ wsX5_restart := by decide +kernel
theorem kX5_restart_1 : ∀ w ∈ wsX50, w ∈ wsX5_restart := by decide +kernel
theorem kX5_restart_2 : Cond.fieldLink "LedgeLevels$Search" 26 "LedgeLevels$Search" "tail" "I" ∈ wsX5_restart := by decide +kernel
theorem kX5_restart_3 : Cond.fieldLink "LedgeLevels$Search" 29 "LedgeLevels$Search" "won" "I" ∈ wsX5_restart := by decide +kernel
theorem kX5_restart_4 : Cond.fieldLink "LedgeLevels$Search" 18 "LedgeLevels$Search" "reached" "[Z" ∈ wsX5_restart := by decide +kernel
set_option maxRecDepth 100000 in
set_option maxHeartbeats 1000000 in
theorem c_X5_restart {l : Launch} {D : va_G} {A : Nat → Prop} {h : vh} {o sr : Nat} {x1 x2 x3 x4 x5 : Value} {Rz : Nat → Int} {num : Int} (ho : h o = some (eO 5 [x1, x2, x3, .ref sr, vI num, x4, x5])) (hR : h sr = some (eZ D 96 Rz)) (hnum : 0 ≤ num ∧ num ≤ 1000000) : MX l D A yX5_restart wsX5_restart { frames := 0, cells := 0, slots := 0, locals := 0 } [.ref o] h (fun rv h' => rv = none ∧ h' = hu (hu h o (eO 5 [x1, x2, x3, .ref sr, vI (num + 1), vI ((0 : Nat) : Int), vI (-1)])) sr (eZ D 96 (rz0 Rz 96))) := by
  refine MX.of (cc := cX5_restart) (maxL := 2) (ret := none) [(0, .ref o)] (by decide +kernel) rfl rfl (Nat.le_of_ble_eq_true rfl) ?_
  intro κ C hkl G
  subst hkl
  have C : CX κ "LedgeLevels$Search" "restart" cX5_restart wsX5_restart { frames := 0, cells := 0, slots := 0, locals := 0 } D A 2 := C
  have hiz : nq (D.1 20) (D.1 21) := cx_iz C
  have nn_o_sr : nq o sr := vnt ho hR (p := (3, 5)) (q := (0, 96)) rfl rfl (by decide)
  have nn_sr_o : nq sr o := Ne.symm nn_o_sr
  refine x_aload_n C dX5_restart_0 0 rfl ?_
  refine x_dup C dX5_restart_1 rfl ?_
  refine x_get C (v := vI num) ho (T := TX5) rfl kX5_restart_1 4 (by decide) kX5_restart_0 rfl dX5_restart_2 ?_
  refine x_iconst C dX5_restart_5 1 (by decide) ?_
  refine x_iadd C dX5_restart_6 ?_
  refine x_put C ho (T := TX5) rfl tyX5_ok nmX5 kX5_restart_1 4 (by decide) kX5_restart_0 rfl (fs' := [x1, x2, x3, .ref sr, vI (num + 1), x4, x5]) rfl rfl (by simp) rfl dX5_restart_7 (x_hn (fun h1 e2 => ?_))
  have f3 : h1 o = some (eO 5 [x1, x2, x3, .ref sr, vI (num + 1), x4, x5]) := by rw [e2]; exact hu_s
  refine x_aload_n C dX5_restart_10 0 rfl ?_
  refine x_iconst C dX5_restart_11 0 (by decide) ?_
  refine x_put C f3 (T := TX5) rfl tyX5_ok nmX5 kX5_restart_1 5 (by decide) kX5_restart_2 rfl (fs' := [x1, x2, x3, .ref sr, vI (num + 1), vI 0, x5]) rfl rfl (by simp) rfl dX5_restart_12 (x_hn (fun h4 e5 => ?_))
  have f6 : h4 o = some (eO 5 [x1, x2, x3, .ref sr, vI (num + 1), vI 0, x5]) := by rw [e5]; exact hu_s
  refine x_aload_n C dX5_restart_15 0 rfl ?_
  refine x_iconst C dX5_restart_16 (-1) (by decide) ?_
  refine x_put C f6 (T := TX5) rfl tyX5_ok nmX5 kX5_restart_1 6 (by decide) kX5_restart_3 rfl (fs' := [x1, x2, x3, .ref sr, vI (num + 1), vI 0, vI (-1)]) rfl rfl (by simp) rfl dX5_restart_17 (x_hn (fun h7 e8 => ?_))
  have f9 : h7 o = some (eO 5 [x1, x2, x3, .ref sr, vI (num + 1), vI 0, vI (-1)]) := by rw [e8]; exact hu_s
  refine x_iconst C dX5_restart_20 0 (by decide) ?_
  refine x_istore_n C (ls' := [(0, .ref o), (1, vI 0)]) dX5_restart_21 (by decide) rfl ?_
  have LP : ∀ (n : Nat) (i : Nat) (h10 : vh)  (f0 : h10 o = some (eO 5 [x1, x2, x3, .ref sr, vI (num + 1), vI ((0 : Nat) : Int), vI (-1)])) (f1 : h10 sr = some (eZ D 96 (rz0 Rz i))) (hi : i ≤ 96) (hm : 96 - i < n) (he : h10 = hu (hu h o (eO 5 [x1, x2, x3, .ref sr, vI (num + 1), vI ((0 : Nat) : Int), vI (-1)])) sr (eZ D 96 (rz0 Rz i))), X κ 0 0 h10 [(0, .ref o), (1, vI ((i : Nat) : Int))] 22 [] := by
    intro n
    induction n with
    | zero => intro i h10 f0 f1 hi hm he; exfalso; omega
    | succ n ihLP =>
      intro i h10 f0 f1 hi hm he
      refine x_iload_n C dX5_restart_22 1 rfl ?_
      refine x_aload_n C dX5_restart_23 0 rfl ?_
      refine x_get C (v := .ref sr) f0 (T := TX5) rfl kX5_restart_1 3 (by decide) kX5_restart_4 rfl dX5_restart_24 ?_
      refine x_alen C f1 (t0 := 1) rfl 96 rfl dX5_restart_27 ?_
      refine x_icmp_ge (tgt := 44) C dX5_restart_28 (by decide) (by omega) (by omega) (fun c11 => ?_) (fun c11 => ?_)
      · skip
        refine x_vret C G dX5_restart_44 ?_ (by decide) (by decide)
        obtain rfl : i = 96 := by omega
        exact ⟨rfl, he⟩
      · skip
        refine x_aload_n C dX5_restart_31 0 rfl ?_
        refine x_get C (v := .ref sr) f0 (T := TX5) rfl kX5_restart_1 3 (by decide) kX5_restart_4 rfl dX5_restart_32 ?_
        refine x_iload_n C dX5_restart_35 1 rfl ?_
        refine x_iconst C dX5_restart_36 0 (by decide) ?_
        refine x_zast C f1 ⟨by omega, by omega⟩ (by decide) (by omega) dX5_restart_37 (x_hn (fun h12 e13 => ?_))
        have f14 : h12 sr = some (eZ D 96 (fu (rz0 Rz i) (Int.toNat (((i : Nat) : Int))) 0)) := by rw [e13]; exact hu_s
        refine x_iinc C (x := ((i : Nat) : Int)) (ls' := [(0, .ref o), (1, vI ((((i : Nat) : Int)) + 1))]) dX5_restart_38 1 rfl (by decide) rfl ?_
        refine x_goto (tgt := 22) C dX5_restart_41 (by decide) ?_
        have n16 : nq o sr := vnt f0 f1 (p := (3, 5)) (q := (0, 96)) rfl rfl (by decide)
        have f15 : h12 o = some (eO 5 [x1, x2, x3, .ref sr, vI (num + 1), vI ((0 : Nat) : Int), vI (-1)]) := by rw [e13, hu_n n16]; exact f0
        exact ihLP (i + 1) h12 f15 (by have q9 := f14; rw [show Int.toNat ((i : Nat) : Int) = i from rfl, rz0_i] at q9; exact q9) (by omega) (by omega) (by rw [e13, he, hu_u, show Int.toNat ((i : Nat) : Int) = i from rfl, rz0_i])
  have n18 : nq sr o := vnt hR ho (p := (0, 96)) (q := (3, 5)) rfl rfl (by decide)
  have f17 : h1 sr = some (eZ D 96 Rz) := by rw [e2, hu_n n18]; exact hR
  have f19 : h4 sr = some (eZ D 96 Rz) := by rw [e5, hu_n n18]; exact f17
  have f20 : h7 sr = some (eZ D 96 Rz) := by rw [e8, hu_n n18]; exact f19
  exact LP (97) 0 h7 f9 (by rw [rz0_0]; exact f20) (by omega) (by omega) (by rw [rz0_0, e8, e5, e2, hu_i (h := hu h o (eO 5 [x1, x2, x3, .ref sr, vI (num + 1), vI ((0 : Nat) : Int), vI (-1)])) (a := sr) (by rw [hu_n nn_sr_o]; exact hR)]; simp only [hu_u]; rfl)

theorem kX5_tryInputsFrom_0 : Cond.fieldLink "LedgeLevels$Search" 37 "LedgeLevels$Search" "body" "LLedgeLevels$Body;" ∈ wsX5_tryInputsFrom := by decide +kernel
theorem kX5_tryInputsFrom_1 : ∀ w ∈ wsX50, w ∈ wsX5_tryInputsFrom := by decide +kernel
set_option maxRecDepth 100000 in
set_option maxHeartbeats 1000000 in
theorem c_X5_tryInputsFrom {l : Launch} {D : va_G} {A : Nat → Prop} {h : vh} {o sb sq sn sr g ak aq as : Nat} {Qf Nf Rz f q S : Nat → Int} {num w c0 v0 s0 k : Int} {m t0 al n : Nat} (ho : h o = some (eO 5 [.ref sb, .ref sq, .ref sn, .ref sr, vI num, vI ((m : Nat) : Int), vI w])) (hQ : h sq = some (eI D 6144 Qf)) (hN : h sn = some (eI D 6144 Nf)) (hR : h sr = some (eZ D 96 Rz)) (hb : h sb = some (eO 0 [.ref as, vI c0, vI v0, vI ((t0 : Nat) : Int), vI s0])) (hg : h g = some (eO 1 [.ref ak, .ref aq, vI ((al : Nat) : Int)])) (hk : h ak = some (eI D 96 f)) (hqq : h aq = some (eI D 3 q)) (hSS : h as = some (eI D 3 S)) (hn : n < 6144) (hok : SSok num (m, Qf, Nf, Rz, w)) (hnum : 1 ≤ num ∧ num ≤ 1000000) (hk9 : 0 ≤ k ∧ k ≤ 7000) (n1 : nq sq sn) (hf : ∀ j, 0 ≤ f j ∧ f j ≤ 8) (hq : ∀ j, -1 ≤ q j ∧ q j ≤ 95) (hS : ∀ j, 0 ≤ S j ∧ S j ≤ 4) (hal : al < 8) : MX l D A yX5_tryInputsFrom wsX5_tryInputsFrom { frames := 4, cells := 0, slots := 0, locals := 91 } [.ref o, .ref g, vI ((n : Nat) : Int), vI k] h (fun rv h' => rv = none ∧ h' = hu (hu (hu (hu (hu h sb (eO 0 [.ref as, vI ((mvn f q al S n (((cntN f al n : Nat) : Int) - 1)).1), vI ((mvn f q al S n (((cntN f al n : Nat) : Int) - 1)).2.1), vI (((mvn f q al S n (((cntN f al n : Nat) : Int) - 1)).2.2.1 : Nat) : Int), vI ((mvn f q al S n (((cntN f al n : Nat) : Int) - 1)).2.2.2)])) sr (eZ D 96 ((tS (mvn f q al S n) num k (cntN f al n) (m, Qf, Nf, Rz, w)).2.2.2.1))) sn (eI D 6144 ((tS (mvn f q al S n) num k (cntN f al n) (m, Qf, Nf, Rz, w)).2.2.1))) sq (eI D 6144 ((tS (mvn f q al S n) num k (cntN f al n) (m, Qf, Nf, Rz, w)).2.1))) o (eO 5 [.ref sb, .ref sq, .ref sn, .ref sr, vI num, vI (((tS (mvn f q al S n) num k (cntN f al n) (m, Qf, Nf, Rz, w)).1 : Nat) : Int), vI ((tS (mvn f q al S n) num k (cntN f al n) (m, Qf, Nf, Rz, w)).2.2.2.2)])) := by
  refine MX.of (cc := cX5_tryInputsFrom) (maxL := 6) (ret := none) [(0, .ref o), (1, .ref g), (2, vI ((n : Nat) : Int)), (3, vI k)] (by decide +kernel) rfl rfl (Nat.le_of_ble_eq_true rfl) ?_
  intro κ C hkl G
  subst hkl
  have C : CX κ "LedgeLevels$Search" "tryInputsFrom" cX5_tryInputsFrom wsX5_tryInputsFrom { frames := 4, cells := 0, slots := 0, locals := 91 } D A 6 := C
  have hiz : nq (D.1 20) (D.1 21) := cx_iz C
  have nn_o_sq : nq o sq := vnt ho hQ (p := (3, 5)) (q := (0, 6144)) rfl rfl (by decide)
  have nn_sq_o : nq sq o := Ne.symm nn_o_sq
  have nn_o_sn : nq o sn := vnt ho hN (p := (3, 5)) (q := (0, 6144)) rfl rfl (by decide)
  have nn_sn_o : nq sn o := Ne.symm nn_o_sn
  have nn_o_sr : nq o sr := vnt ho hR (p := (3, 5)) (q := (0, 96)) rfl rfl (by decide)
  have nn_sr_o : nq sr o := Ne.symm nn_o_sr
  have nn_o_sb : nq o sb := vnt ho hb (p := (3, 5)) (q := (3, 0)) rfl rfl (by decide)
  have nn_sb_o : nq sb o := Ne.symm nn_o_sb
  have nn_sq_sr : nq sq sr := vnt hQ hR (p := (0, 6144)) (q := (0, 96)) rfl rfl (by decide)
  have nn_sr_sq : nq sr sq := Ne.symm nn_sq_sr
  have nn_sq_sb : nq sq sb := vnt hQ hb (p := (0, 6144)) (q := (3, 0)) rfl rfl (by decide)
  have nn_sb_sq : nq sb sq := Ne.symm nn_sq_sb
  have nn_sn_sr : nq sn sr := vnt hN hR (p := (0, 6144)) (q := (0, 96)) rfl rfl (by decide)
  have nn_sr_sn : nq sr sn := Ne.symm nn_sn_sr
  have nn_sn_sb : nq sn sb := vnt hN hb (p := (0, 6144)) (q := (3, 0)) rfl rfl (by decide)
  have nn_sb_sn : nq sb sn := Ne.symm nn_sn_sb
  have nn_sr_sb : nq sr sb := vnt hR hb (p := (0, 96)) (q := (3, 0)) rfl rfl (by decide)
  have nn_sb_sr : nq sb sr := Ne.symm nn_sr_sb
  obtain ⟨cnt, hcE⟩ : ∃ z, z = cntN f al n := ⟨_, rfl⟩
  have hcnt : cnt ≤ 6 ∧ 3 ≤ cnt := by rw [hcE]; unfold cntN; split <;> omega
  have hTok := fun j => tS_ok (T := mvn f q al S n) (fun i => mvn_ok hS hn i) (by omega : 0 ≤ num) hk9 hok j
  refine x_aload_n C dX5_tryInputsFrom_0 0 rfl ?_
  refine x_get C (v := .ref sb) ho (T := TX5) rfl kX5_tryInputsFrom_1 0 (by decide) kX5_tryInputsFrom_0 rfl dX5_tryInputsFrom_1 ?_
  refine x_iload_n C dX5_tryInputsFrom_4 2 rfl ?_
  refine x_callV C (n := 1) (qc := (RX0, TX0, 5)) (As := [vI ((n : Nat) : Int)]) (rest := []) (c_X0_unpack hb (by omega)) gX5_tryInputsFrom_X0_unpack (by decide +kernel) hb rfl rfl rfl rfl (Nat.le_of_ble_eq_true rfl) ⟨by decide, by decide⟩ ⟨by decide, by decide⟩ dX5_tryInputsFrom_5 (fun rv1 h2 hp3 => ?_)
  obtain ⟨rfl, e4⟩ := hp3
  have f5 : h2 sb = some (eO 0 [.ref as, vI ((n / 64 : Nat) : Int), vI (((n / 8 % 8 : Nat) : Int) - 4), vI ((n % 8 : Nat) : Int), vI 1]) := by rw [e4]; exact hu_s
  refine x_aload_n C dX5_tryInputsFrom_8 0 rfl ?_
  have n7 : nq o sb := vnt ho hb (p := (3, 5)) (q := (3, 0)) rfl rfl (by decide)
  have f6 : h2 o = some (eO 5 [.ref sb, .ref sq, .ref sn, .ref sr, vI num, vI ((m : Nat) : Int), vI w]) := by rw [e4, hu_n n7]; exact ho
  refine x_get C (v := .ref sb) f6 (T := TX5) rfl kX5_tryInputsFrom_1 0 (by decide) kX5_tryInputsFrom_0 rfl dX5_tryInputsFrom_9 ?_
  refine x_aload_n C dX5_tryInputsFrom_12 1 rfl ?_
  have n9 : nq g sb := vnt hg hb (p := (3, 1)) (q := (3, 0)) rfl rfl (by decide)
  have f8 : h2 g = some (eO 1 [.ref ak, .ref aq, vI ((al : Nat) : Int)]) := by rw [e4, hu_n n9]; exact hg
  have n11 : nq ak sb := vnt hk hb (p := (0, 96)) (q := (3, 0)) rfl rfl (by decide)
  have f10 : h2 ak = some (eI D 96 f) := by rw [e4, hu_n n11]; exact hk
  refine x_callV C (n := 1) (qc := (RX0, TX0, 5)) (As := [.ref g]) (rest := []) (c_X0_stands f5 f8 f10 (by omega) (by omega) (by assumption) (by omega) (by omega)) gX5_tryInputsFrom_X0_stands (by decide +kernel) f5 rfl rfl rfl rfl (Nat.le_of_ble_eq_true rfl) ⟨by decide, by decide⟩ ⟨by decide, by decide⟩ dX5_tryInputsFrom_13 (fun rv12 h13 hp14 => ?_)
  obtain ⟨rfl, e15⟩ := hp14
  obtain rfl := e15.symm
  have hbr := bI_01 (0 ≤ ((n / 8 % 8 : Nat) : Int) - 4 ∧ sol f al (n % 8) (((n / 64 : Nat) : Int) + 12))
  refine x_if_eq (tgt := 24) C dX5_tryInputsFrom_16 (by decide) (by omega) (fun c16 => ?_) (fun c16 => ?_)
  · skip
    refine x_iconst C dX5_tryInputsFrom_24 3 (by decide) ?_
    refine x_topv (show 3 = ((cnt : Nat) : Int) from by rw [hcE]; unfold cntN; rw [if_neg (fun q9 => by have := bI_t q9; omega)]; rfl) ?_
    refine x_istore C (ls' := [(0, .ref o), (1, .ref g), (2, vI ((n : Nat) : Int)), (3, vI k), (4, vI ((cnt : Nat) : Int))]) dX5_tryInputsFrom_25 (by decide) rfl ?_
    refine x_iconst C dX5_tryInputsFrom_27 0 (by decide) ?_
    refine x_istore C (ls' := [(0, .ref o), (1, .ref g), (2, vI ((n : Nat) : Int)), (3, vI k), (4, vI ((cnt : Nat) : Int)), (5, vI 0)]) dX5_tryInputsFrom_28 (by decide) rfl ?_
    have LP : ∀ (N : Nat) (i t1 : Nat) (c1 v1 s1 : Int) (h17 : vh)  (f0 : h17 o = some (eO 5 [.ref sb, .ref sq, .ref sn, .ref sr, vI num, vI (((tS (mvn f q al S n) num k (i) (m, Qf, Nf, Rz, w)).1 : Nat) : Int), vI ((tS (mvn f q al S n) num k (i) (m, Qf, Nf, Rz, w)).2.2.2.2)])) (f1 : h17 sq = some (eI D 6144 ((tS (mvn f q al S n) num k (i) (m, Qf, Nf, Rz, w)).2.1))) (f2 : h17 sn = some (eI D 6144 ((tS (mvn f q al S n) num k (i) (m, Qf, Nf, Rz, w)).2.2.1))) (f3 : h17 sr = some (eZ D 96 ((tS (mvn f q al S n) num k (i) (m, Qf, Nf, Rz, w)).2.2.2.1))) (f4 : h17 sb = some (eO 0 [.ref as, vI c1, vI v1, vI ((t1 : Nat) : Int), vI s1])) (f5 : h17 g = some (eO 1 [.ref ak, .ref aq, vI ((al : Nat) : Int)])) (f6 : h17 ak = some (eI D 96 f)) (f7 : h17 aq = some (eI D 3 q)) (f8 : h17 as = some (eI D 3 S)) (hi : i ≤ cnt) (hm : cnt - i < N) (hB : i = 0 ∨ (c1, v1, t1, s1) = mvn f q al S n (((i : Nat) : Int) - 1)) (he : h17 = hu (hu (hu (hu (hu h sb (eO 0 [.ref as, vI c1, vI v1, vI ((t1 : Nat) : Int), vI s1])) sr (eZ D 96 ((tS (mvn f q al S n) num k (i) (m, Qf, Nf, Rz, w)).2.2.2.1))) sn (eI D 6144 ((tS (mvn f q al S n) num k (i) (m, Qf, Nf, Rz, w)).2.2.1))) sq (eI D 6144 ((tS (mvn f q al S n) num k (i) (m, Qf, Nf, Rz, w)).2.1))) o (eO 5 [.ref sb, .ref sq, .ref sn, .ref sr, vI num, vI (((tS (mvn f q al S n) num k (i) (m, Qf, Nf, Rz, w)).1 : Nat) : Int), vI ((tS (mvn f q al S n) num k (i) (m, Qf, Nf, Rz, w)).2.2.2.2)])), X κ 0 0 h17 [(0, .ref o), (1, .ref g), (2, vI ((n : Nat) : Int)), (3, vI k), (4, vI ((cnt : Nat) : Int)), (5, vI ((i : Nat) : Int))] 30 [] := by
      intro N
      induction N with
      | zero => intro i t1 c1 v1 s1 h17 f0 f1 f2 f3 f4 f5 f6 f7 f8 hi hm hB he; exfalso; omega
      | succ N ihLP =>
        intro i t1 c1 v1 s1 h17 f0 f1 f2 f3 f4 f5 f6 f7 f8 hi hm hB he
        refine x_iload C dX5_tryInputsFrom_30 5 rfl ?_
        refine x_iload C dX5_tryInputsFrom_32 4 rfl ?_
        refine x_icmp_ge (tgt := 66) C dX5_tryInputsFrom_34 (by decide) (by omega) (by omega) (fun c18 => ?_) (fun c18 => ?_)
        · skip
          refine x_vret C G dX5_tryInputsFrom_66 ?_ (by decide) (by decide)
          have hic : i = cnt := by omega
          rcases hB with hB | hB
          · exfalso; omega
          · rw [hic, hcE] at hB he
            rw [← hB]
            exact ⟨rfl, he⟩
        · skip
          refine x_aload_n C dX5_tryInputsFrom_37 0 rfl ?_
          refine x_get C (v := .ref sb) f0 (T := TX5) rfl kX5_tryInputsFrom_1 0 (by decide) kX5_tryInputsFrom_0 rfl dX5_tryInputsFrom_38 ?_
          refine x_iload_n C dX5_tryInputsFrom_41 2 rfl ?_
          refine x_callV C (n := 1) (qc := (RX0, TX0, 5)) (As := [vI ((n : Nat) : Int)]) (rest := []) (c_X0_unpack f4 (by omega)) gX5_tryInputsFrom_X0_unpack (by decide +kernel) f4 rfl rfl rfl rfl (Nat.le_of_ble_eq_true rfl) ⟨by decide, by decide⟩ ⟨by decide, by decide⟩ dX5_tryInputsFrom_42 (fun rv19 h20 hp21 => ?_)
          obtain ⟨rfl, e22⟩ := hp21
          have f23 : h20 sb = some (eO 0 [.ref as, vI ((n / 64 : Nat) : Int), vI (((n / 8 % 8 : Nat) : Int) - 4), vI ((n % 8 : Nat) : Int), vI 1]) := by rw [e22]; exact hu_s
          refine x_aload_n C dX5_tryInputsFrom_45 0 rfl ?_
          have f24 : h20 o = some (eO 5 [.ref sb, .ref sq, .ref sn, .ref sr, vI num, vI (((tS (mvn f q al S n) num k (i) (m, Qf, Nf, Rz, w)).1 : Nat) : Int), vI ((tS (mvn f q al S n) num k (i) (m, Qf, Nf, Rz, w)).2.2.2.2)]) := by rw [e22, hu_n n7]; exact f0
          refine x_get C (v := .ref sb) f24 (T := TX5) rfl kX5_tryInputsFrom_1 0 (by decide) kX5_tryInputsFrom_0 rfl dX5_tryInputsFrom_46 ?_
          refine x_aload_n C dX5_tryInputsFrom_49 1 rfl ?_
          refine x_iload C dX5_tryInputsFrom_50 5 rfl ?_
          have f25 : h20 g = some (eO 1 [.ref ak, .ref aq, vI ((al : Nat) : Int)]) := by rw [e22, hu_n n9]; exact f5
          have f26 : h20 ak = some (eI D 96 f) := by rw [e22, hu_n n11]; exact f6
          have n28 : nq aq sb := vnt f7 f4 (p := (0, 3)) (q := (3, 0)) rfl rfl (by decide)
          have f27 : h20 aq = some (eI D 3 q) := by rw [e22, hu_n n28]; exact f7
          have n30 : nq as sb := vnt f8 f4 (p := (0, 3)) (q := (3, 0)) rfl rfl (by decide)
          have f29 : h20 as = some (eI D 3 S) := by rw [e22, hu_n n30]; exact f8
          refine x_callV C (n := 2) (qc := (RX0, TX0, 5)) (As := [.ref g, vI ((i : Nat) : Int)]) (rest := []) (c_X0_move f23 f25 f26 f27 f29 (by omega) (by omega) (by omega) (by assumption) (by assumption) (by assumption) (by omega) (by omega)) gX5_tryInputsFrom_X0_move (by decide +kernel) f23 rfl rfl rfl rfl (Nat.le_of_ble_eq_true rfl) ⟨by decide, by decide⟩ ⟨by decide, by decide⟩ dX5_tryInputsFrom_52 (fun rv31 h32 hp33 => ?_)
          obtain ⟨rfl, e34⟩ := hp33
          rw [show (mv f (kbf f q) al S (((i : Nat) : Int)) (((n / 64 : Nat) : Int)) (((n / 8 % 8 : Nat) : Int) - 4) (n % 8)) = (mvn f q al S n ((i : Nat) : Int)) from rfl] at e34
          have f35 : h32 sb = some (eO 0 [.ref as, vI ((mvn f q al S n ((i : Nat) : Int)).1), vI ((mvn f q al S n ((i : Nat) : Int)).2.1), vI (((mvn f q al S n ((i : Nat) : Int)).2.2.1 : Nat) : Int), vI ((mvn f q al S n ((i : Nat) : Int)).2.2.2)]) := by rw [e34]; exact hu_s
          refine x_aload_n C dX5_tryInputsFrom_55 0 rfl ?_
          refine x_iload_n C dX5_tryInputsFrom_56 3 rfl ?_
          have f36 : h32 o = some (eO 5 [.ref sb, .ref sq, .ref sn, .ref sr, vI num, vI (((tS (mvn f q al S n) num k (i) (m, Qf, Nf, Rz, w)).1 : Nat) : Int), vI ((tS (mvn f q al S n) num k (i) (m, Qf, Nf, Rz, w)).2.2.2.2)]) := by rw [e34, hu_n n7]; exact f24
          have n38 : nq sq sb := vnt f1 f4 (p := (0, 6144)) (q := (3, 0)) rfl rfl (by decide)
          have f37 : h20 sq = some (eI D 6144 ((tS (mvn f q al S n) num k (i) (m, Qf, Nf, Rz, w)).2.1)) := by rw [e22, hu_n n38]; exact f1
          have f39 : h32 sq = some (eI D 6144 ((tS (mvn f q al S n) num k (i) (m, Qf, Nf, Rz, w)).2.1)) := by rw [e34, hu_n n38]; exact f37
          have n41 : nq sn sb := vnt f2 f4 (p := (0, 6144)) (q := (3, 0)) rfl rfl (by decide)
          have f40 : h20 sn = some (eI D 6144 ((tS (mvn f q al S n) num k (i) (m, Qf, Nf, Rz, w)).2.2.1)) := by rw [e22, hu_n n41]; exact f2
          have f42 : h32 sn = some (eI D 6144 ((tS (mvn f q al S n) num k (i) (m, Qf, Nf, Rz, w)).2.2.1)) := by rw [e34, hu_n n41]; exact f40
          have n44 : nq sr sb := vnt f3 f4 (p := (0, 96)) (q := (3, 0)) rfl rfl (by decide)
          have f43 : h20 sr = some (eZ D 96 ((tS (mvn f q al S n) num k (i) (m, Qf, Nf, Rz, w)).2.2.2.1)) := by rw [e22, hu_n n44]; exact f3
          have f45 : h32 sr = some (eZ D 96 ((tS (mvn f q al S n) num k (i) (m, Qf, Nf, Rz, w)).2.2.2.1)) := by rw [e34, hu_n n44]; exact f43
          refine x_callV C (n := 1) (qc := (RX5, TX5, 7)) (As := [vI k]) (rest := []) (c_X5_noteBody f36 f39 f42 f45 f35 (mvn_ok hS hn ((i : Nat) : Int)) (hTok i) (by omega) (by omega) (by assumption)) gX5_tryInputsFrom_X5_noteBody (by decide +kernel) f36 rfl rfl rfl rfl (Nat.le_of_ble_eq_true rfl) ⟨by decide, by decide⟩ ⟨by decide, by decide⟩ dX5_tryInputsFrom_57 (fun rv46 h47 hp48 => ?_)
          obtain ⟨rfl, e49⟩ := hp48
          rw [show (nbS num k (((mvn f q al S n ((i : Nat) : Int)).1), ((mvn f q al S n ((i : Nat) : Int)).2.1), ((mvn f q al S n ((i : Nat) : Int)).2.2.1), ((mvn f q al S n ((i : Nat) : Int)).2.2.2)) (((tS (mvn f q al S n) num k (i) (m, Qf, Nf, Rz, w)).1), ((tS (mvn f q al S n) num k (i) (m, Qf, Nf, Rz, w)).2.1), ((tS (mvn f q al S n) num k (i) (m, Qf, Nf, Rz, w)).2.2.1), ((tS (mvn f q al S n) num k (i) (m, Qf, Nf, Rz, w)).2.2.2.1), ((tS (mvn f q al S n) num k (i) (m, Qf, Nf, Rz, w)).2.2.2.2))) = (tS (mvn f q al S n) num k (i + 1) (m, Qf, Nf, Rz, w)) from tS_step (mvn f q al S n) num k i (m, Qf, Nf, Rz, w)] at e49
          have f50 : h47 o = some (eO 5 [.ref sb, .ref sq, .ref sn, .ref sr, vI num, vI (((tS (mvn f q al S n) num k (i + 1) (m, Qf, Nf, Rz, w)).1 : Nat) : Int), vI ((tS (mvn f q al S n) num k (i + 1) (m, Qf, Nf, Rz, w)).2.2.2.2)]) := by rw [e49]; exact hu_s
          have n52 : nq sq o := vnt f39 f36 (p := (0, 6144)) (q := (3, 5)) rfl rfl (by decide)
          have f51 : h47 sq = some (eI D 6144 ((tS (mvn f q al S n) num k (i + 1) (m, Qf, Nf, Rz, w)).2.1)) := by rw [e49, hu_n n52]; exact hu_s
          have n54 : nq sn o := vnt f42 f36 (p := (0, 6144)) (q := (3, 5)) rfl rfl (by decide)
          have f53 : h47 sn = some (eI D 6144 ((tS (mvn f q al S n) num k (i + 1) (m, Qf, Nf, Rz, w)).2.2.1)) := by rw [e49, hu_n n54, hu_n (Ne.symm n1)]; exact hu_s
          have n56 : nq sr o := vnt f45 f36 (p := (0, 96)) (q := (3, 5)) rfl rfl (by decide)
          have n57 : nq sr sq := vnt f45 f39 (p := (0, 96)) (q := (0, 6144)) rfl rfl (by decide)
          have n58 : nq sr sn := vnt f45 f42 (p := (0, 96)) (q := (0, 6144)) rfl rfl (by decide)
          have f55 : h47 sr = some (eZ D 96 ((tS (mvn f q al S n) num k (i + 1) (m, Qf, Nf, Rz, w)).2.2.2.1)) := by rw [e49, hu_n n56, hu_n n57, hu_n n58]; exact hu_s
          refine x_iinc C (x := ((i : Nat) : Int)) (ls' := [(0, .ref o), (1, .ref g), (2, vI ((n : Nat) : Int)), (3, vI k), (4, vI ((cnt : Nat) : Int)), (5, vI ((((i : Nat) : Int)) + 1))]) dX5_tryInputsFrom_60 5 rfl (by decide) rfl ?_
          refine x_goto (tgt := 30) C dX5_tryInputsFrom_63 (by decide) ?_
          have f59 : h47 sb = some (eO 0 [.ref as, vI ((mvn f q al S n ((i : Nat) : Int)).1), vI ((mvn f q al S n ((i : Nat) : Int)).2.1), vI (((mvn f q al S n ((i : Nat) : Int)).2.2.1 : Nat) : Int), vI ((mvn f q al S n ((i : Nat) : Int)).2.2.2)]) := by rw [e49, hu_n (Ne.symm n7), hu_n (Ne.symm n38), hu_n (Ne.symm n41), hu_n (Ne.symm n44)]; exact f35
          have f60 : h32 g = some (eO 1 [.ref ak, .ref aq, vI ((al : Nat) : Int)]) := by rw [e34, hu_n n9]; exact f25
          have n62 : nq g o := vnt f60 f36 (p := (3, 1)) (q := (3, 5)) rfl rfl (by decide)
          have n63 : nq g sq := vnt f60 f39 (p := (3, 1)) (q := (0, 6144)) rfl rfl (by decide)
          have n64 : nq g sn := vnt f60 f42 (p := (3, 1)) (q := (0, 6144)) rfl rfl (by decide)
          have n65 : nq g sr := vnt f60 f45 (p := (3, 1)) (q := (0, 96)) rfl rfl (by decide)
          have f61 : h47 g = some (eO 1 [.ref ak, .ref aq, vI ((al : Nat) : Int)]) := by rw [e49, hu_n n62, hu_n n63, hu_n n64, hu_n n65]; exact f60
          have f66 : h32 ak = some (eI D 96 f) := by rw [e34, hu_n n11]; exact f26
          have n68 : nq ak o := vnt f66 f36 (p := (0, 96)) (q := (3, 5)) rfl rfl (by decide)
          have n69 : nq ak sq := vnt f66 f39 (p := (0, 96)) (q := (0, 6144)) rfl rfl (by decide)
          have n70 : nq ak sn := vnt f66 f42 (p := (0, 96)) (q := (0, 6144)) rfl rfl (by decide)
          have n71 : nq ak sr := viz f66 f45 hiz
          have f67 : h47 ak = some (eI D 96 f) := by rw [e49, hu_n n68, hu_n n69, hu_n n70, hu_n n71]; exact f66
          have f72 : h32 aq = some (eI D 3 q) := by rw [e34, hu_n n28]; exact f27
          have n74 : nq aq o := vnt f72 f36 (p := (0, 3)) (q := (3, 5)) rfl rfl (by decide)
          have n75 : nq aq sq := vnt f72 f39 (p := (0, 3)) (q := (0, 6144)) rfl rfl (by decide)
          have n76 : nq aq sn := vnt f72 f42 (p := (0, 3)) (q := (0, 6144)) rfl rfl (by decide)
          have n77 : nq aq sr := vnt f72 f45 (p := (0, 3)) (q := (0, 96)) rfl rfl (by decide)
          have f73 : h47 aq = some (eI D 3 q) := by rw [e49, hu_n n74, hu_n n75, hu_n n76, hu_n n77]; exact f72
          have f78 : h32 as = some (eI D 3 S) := by rw [e34, hu_n n30]; exact f29
          have n80 : nq as o := vnt f78 f36 (p := (0, 3)) (q := (3, 5)) rfl rfl (by decide)
          have n81 : nq as sq := vnt f78 f39 (p := (0, 3)) (q := (0, 6144)) rfl rfl (by decide)
          have n82 : nq as sn := vnt f78 f42 (p := (0, 3)) (q := (0, 6144)) rfl rfl (by decide)
          have n83 : nq as sr := vnt f78 f45 (p := (0, 3)) (q := (0, 96)) rfl rfl (by decide)
          have f79 : h47 as = some (eI D 3 S) := by rw [e49, hu_n n80, hu_n n81, hu_n n82, hu_n n83]; exact f78
          exact ihLP (i + 1) ((mvn f q al S n ((i : Nat) : Int)).2.2.1) ((mvn f q al S n ((i : Nat) : Int)).1) ((mvn f q al S n ((i : Nat) : Int)).2.1) ((mvn f q al S n ((i : Nat) : Int)).2.2.2) h47 f50 f51 f53 f55 f59 f61 f67 f73 f79 (by omega) (by omega) (Or.inr ((eta4 (mvn f q al S n ((i : Nat) : Int))).trans (congrArg (mvn f q al S n) (by omega)))) (by rw [e49, e34, e22, he]; simp only [hu_u]; rw [hu5])
    have n85 : nq sq sb := vnt hQ hb (p := (0, 6144)) (q := (3, 0)) rfl rfl (by decide)
    have f84 : h2 sq = some (eI D 6144 Qf) := by rw [e4, hu_n n85]; exact hQ
    have n87 : nq sn sb := vnt hN hb (p := (0, 6144)) (q := (3, 0)) rfl rfl (by decide)
    have f86 : h2 sn = some (eI D 6144 Nf) := by rw [e4, hu_n n87]; exact hN
    have n89 : nq sr sb := vnt hR hb (p := (0, 96)) (q := (3, 0)) rfl rfl (by decide)
    have f88 : h2 sr = some (eZ D 96 Rz) := by rw [e4, hu_n n89]; exact hR
    have n91 : nq aq sb := vnt hqq hb (p := (0, 3)) (q := (3, 0)) rfl rfl (by decide)
    have f90 : h2 aq = some (eI D 3 q) := by rw [e4, hu_n n91]; exact hqq
    have n93 : nq as sb := vnt hSS hb (p := (0, 3)) (q := (3, 0)) rfl rfl (by decide)
    have f92 : h2 as = some (eI D 3 S) := by rw [e4, hu_n n93]; exact hSS
    have he0 : h2 = hu (hu (hu (hu (hu h sb (eO 0 [.ref as, vI ((n / 64 : Nat) : Int), vI (((n / 8 % 8 : Nat) : Int) - 4), vI ((n % 8 : Nat) : Int), vI 1])) sr (eZ D 96 ((tS (mvn f q al S n) num k (0) (m, Qf, Nf, Rz, w)).2.2.2.1))) sn (eI D 6144 ((tS (mvn f q al S n) num k (0) (m, Qf, Nf, Rz, w)).2.2.1))) sq (eI D 6144 ((tS (mvn f q al S n) num k (0) (m, Qf, Nf, Rz, w)).2.1))) o (eO 5 [.ref sb, .ref sq, .ref sn, .ref sr, vI num, vI (((tS (mvn f q al S n) num k (0) (m, Qf, Nf, Rz, w)).1 : Nat) : Int), vI ((tS (mvn f q al S n) num k (0) (m, Qf, Nf, Rz, w)).2.2.2.2)]) := by
      rw [e4]
      show _ = hu (hu (hu (hu (hu h sb _) sr (eZ D 96 Rz)) sn (eI D 6144 Nf)) sq (eI D 6144 Qf)) o (eO 5 [.ref sb, .ref sq, .ref sn, .ref sr, vI num, vI ((m : Nat) : Int), vI w])
      rw [hu_i (a := sr) (by rw [hu_n nn_sr_sb]; exact hR), hu_i (a := sn) (by rw [hu_n nn_sn_sb]; exact hN), hu_i (a := sq) (by rw [hu_n nn_sq_sb]; exact hQ), hu_i (a := o) (by rw [hu_n nn_o_sb]; exact ho)]
    exact LP (7) 0 (n % 8) (((n / 64 : Nat) : Int)) (((n / 8 % 8 : Nat) : Int) - 4) 1 h2 f6 f84 f86 f88 f5 f8 f10 f90 f92 (by omega) (by omega) (Or.inl rfl) (he0)
  · skip
    refine x_bipush C dX5_tryInputsFrom_19 6 (by decide) ?_
    refine x_topv (show 6 = ((cnt : Nat) : Int) from by rw [hcE]; unfold cntN; rw [if_pos (bI_ne.mp (by omega))]; rfl) ?_
    refine x_goto (tgt := 25) C dX5_tryInputsFrom_21 (by decide) ?_
    refine x_istore C (ls' := [(0, .ref o), (1, .ref g), (2, vI ((n : Nat) : Int)), (3, vI k), (4, vI ((cnt : Nat) : Int))]) dX5_tryInputsFrom_25 (by decide) rfl ?_
    refine x_iconst C dX5_tryInputsFrom_27 0 (by decide) ?_
    refine x_istore C (ls' := [(0, .ref o), (1, .ref g), (2, vI ((n : Nat) : Int)), (3, vI k), (4, vI ((cnt : Nat) : Int)), (5, vI 0)]) dX5_tryInputsFrom_28 (by decide) rfl ?_
    have LP : ∀ (N : Nat) (i t1 : Nat) (c1 v1 s1 : Int) (h94 : vh)  (f0 : h94 o = some (eO 5 [.ref sb, .ref sq, .ref sn, .ref sr, vI num, vI (((tS (mvn f q al S n) num k (i) (m, Qf, Nf, Rz, w)).1 : Nat) : Int), vI ((tS (mvn f q al S n) num k (i) (m, Qf, Nf, Rz, w)).2.2.2.2)])) (f1 : h94 sq = some (eI D 6144 ((tS (mvn f q al S n) num k (i) (m, Qf, Nf, Rz, w)).2.1))) (f2 : h94 sn = some (eI D 6144 ((tS (mvn f q al S n) num k (i) (m, Qf, Nf, Rz, w)).2.2.1))) (f3 : h94 sr = some (eZ D 96 ((tS (mvn f q al S n) num k (i) (m, Qf, Nf, Rz, w)).2.2.2.1))) (f4 : h94 sb = some (eO 0 [.ref as, vI c1, vI v1, vI ((t1 : Nat) : Int), vI s1])) (f5 : h94 g = some (eO 1 [.ref ak, .ref aq, vI ((al : Nat) : Int)])) (f6 : h94 ak = some (eI D 96 f)) (f7 : h94 aq = some (eI D 3 q)) (f8 : h94 as = some (eI D 3 S)) (hi : i ≤ cnt) (hm : cnt - i < N) (hB : i = 0 ∨ (c1, v1, t1, s1) = mvn f q al S n (((i : Nat) : Int) - 1)) (he : h94 = hu (hu (hu (hu (hu h sb (eO 0 [.ref as, vI c1, vI v1, vI ((t1 : Nat) : Int), vI s1])) sr (eZ D 96 ((tS (mvn f q al S n) num k (i) (m, Qf, Nf, Rz, w)).2.2.2.1))) sn (eI D 6144 ((tS (mvn f q al S n) num k (i) (m, Qf, Nf, Rz, w)).2.2.1))) sq (eI D 6144 ((tS (mvn f q al S n) num k (i) (m, Qf, Nf, Rz, w)).2.1))) o (eO 5 [.ref sb, .ref sq, .ref sn, .ref sr, vI num, vI (((tS (mvn f q al S n) num k (i) (m, Qf, Nf, Rz, w)).1 : Nat) : Int), vI ((tS (mvn f q al S n) num k (i) (m, Qf, Nf, Rz, w)).2.2.2.2)])), X κ 0 0 h94 [(0, .ref o), (1, .ref g), (2, vI ((n : Nat) : Int)), (3, vI k), (4, vI ((cnt : Nat) : Int)), (5, vI ((i : Nat) : Int))] 30 [] := by
      intro N
      induction N with
      | zero => intro i t1 c1 v1 s1 h94 f0 f1 f2 f3 f4 f5 f6 f7 f8 hi hm hB he; exfalso; omega
      | succ N ihLP =>
        intro i t1 c1 v1 s1 h94 f0 f1 f2 f3 f4 f5 f6 f7 f8 hi hm hB he
        refine x_iload C dX5_tryInputsFrom_30 5 rfl ?_
        refine x_iload C dX5_tryInputsFrom_32 4 rfl ?_
        refine x_icmp_ge (tgt := 66) C dX5_tryInputsFrom_34 (by decide) (by omega) (by omega) (fun c95 => ?_) (fun c95 => ?_)
        · skip
          refine x_vret C G dX5_tryInputsFrom_66 ?_ (by decide) (by decide)
          have hic : i = cnt := by omega
          rcases hB with hB | hB
          · exfalso; omega
          · rw [hic, hcE] at hB he
            rw [← hB]
            exact ⟨rfl, he⟩
        · skip
          refine x_aload_n C dX5_tryInputsFrom_37 0 rfl ?_
          refine x_get C (v := .ref sb) f0 (T := TX5) rfl kX5_tryInputsFrom_1 0 (by decide) kX5_tryInputsFrom_0 rfl dX5_tryInputsFrom_38 ?_
          refine x_iload_n C dX5_tryInputsFrom_41 2 rfl ?_
          refine x_callV C (n := 1) (qc := (RX0, TX0, 5)) (As := [vI ((n : Nat) : Int)]) (rest := []) (c_X0_unpack f4 (by omega)) gX5_tryInputsFrom_X0_unpack (by decide +kernel) f4 rfl rfl rfl rfl (Nat.le_of_ble_eq_true rfl) ⟨by decide, by decide⟩ ⟨by decide, by decide⟩ dX5_tryInputsFrom_42 (fun rv96 h97 hp98 => ?_)
          obtain ⟨rfl, e99⟩ := hp98
          have f100 : h97 sb = some (eO 0 [.ref as, vI ((n / 64 : Nat) : Int), vI (((n / 8 % 8 : Nat) : Int) - 4), vI ((n % 8 : Nat) : Int), vI 1]) := by rw [e99]; exact hu_s
          refine x_aload_n C dX5_tryInputsFrom_45 0 rfl ?_
          have f101 : h97 o = some (eO 5 [.ref sb, .ref sq, .ref sn, .ref sr, vI num, vI (((tS (mvn f q al S n) num k (i) (m, Qf, Nf, Rz, w)).1 : Nat) : Int), vI ((tS (mvn f q al S n) num k (i) (m, Qf, Nf, Rz, w)).2.2.2.2)]) := by rw [e99, hu_n n7]; exact f0
          refine x_get C (v := .ref sb) f101 (T := TX5) rfl kX5_tryInputsFrom_1 0 (by decide) kX5_tryInputsFrom_0 rfl dX5_tryInputsFrom_46 ?_
          refine x_aload_n C dX5_tryInputsFrom_49 1 rfl ?_
          refine x_iload C dX5_tryInputsFrom_50 5 rfl ?_
          have f102 : h97 g = some (eO 1 [.ref ak, .ref aq, vI ((al : Nat) : Int)]) := by rw [e99, hu_n n9]; exact f5
          have f103 : h97 ak = some (eI D 96 f) := by rw [e99, hu_n n11]; exact f6
          have n105 : nq aq sb := vnt f7 f4 (p := (0, 3)) (q := (3, 0)) rfl rfl (by decide)
          have f104 : h97 aq = some (eI D 3 q) := by rw [e99, hu_n n105]; exact f7
          have n107 : nq as sb := vnt f8 f4 (p := (0, 3)) (q := (3, 0)) rfl rfl (by decide)
          have f106 : h97 as = some (eI D 3 S) := by rw [e99, hu_n n107]; exact f8
          refine x_callV C (n := 2) (qc := (RX0, TX0, 5)) (As := [.ref g, vI ((i : Nat) : Int)]) (rest := []) (c_X0_move f100 f102 f103 f104 f106 (by omega) (by omega) (by omega) (by assumption) (by assumption) (by assumption) (by omega) (by omega)) gX5_tryInputsFrom_X0_move (by decide +kernel) f100 rfl rfl rfl rfl (Nat.le_of_ble_eq_true rfl) ⟨by decide, by decide⟩ ⟨by decide, by decide⟩ dX5_tryInputsFrom_52 (fun rv108 h109 hp110 => ?_)
          obtain ⟨rfl, e111⟩ := hp110
          rw [show (mv f (kbf f q) al S (((i : Nat) : Int)) (((n / 64 : Nat) : Int)) (((n / 8 % 8 : Nat) : Int) - 4) (n % 8)) = (mvn f q al S n ((i : Nat) : Int)) from rfl] at e111
          have f112 : h109 sb = some (eO 0 [.ref as, vI ((mvn f q al S n ((i : Nat) : Int)).1), vI ((mvn f q al S n ((i : Nat) : Int)).2.1), vI (((mvn f q al S n ((i : Nat) : Int)).2.2.1 : Nat) : Int), vI ((mvn f q al S n ((i : Nat) : Int)).2.2.2)]) := by rw [e111]; exact hu_s
          refine x_aload_n C dX5_tryInputsFrom_55 0 rfl ?_
          refine x_iload_n C dX5_tryInputsFrom_56 3 rfl ?_
          have f113 : h109 o = some (eO 5 [.ref sb, .ref sq, .ref sn, .ref sr, vI num, vI (((tS (mvn f q al S n) num k (i) (m, Qf, Nf, Rz, w)).1 : Nat) : Int), vI ((tS (mvn f q al S n) num k (i) (m, Qf, Nf, Rz, w)).2.2.2.2)]) := by rw [e111, hu_n n7]; exact f101
          have n115 : nq sq sb := vnt f1 f4 (p := (0, 6144)) (q := (3, 0)) rfl rfl (by decide)
          have f114 : h97 sq = some (eI D 6144 ((tS (mvn f q al S n) num k (i) (m, Qf, Nf, Rz, w)).2.1)) := by rw [e99, hu_n n115]; exact f1
          have f116 : h109 sq = some (eI D 6144 ((tS (mvn f q al S n) num k (i) (m, Qf, Nf, Rz, w)).2.1)) := by rw [e111, hu_n n115]; exact f114
          have n118 : nq sn sb := vnt f2 f4 (p := (0, 6144)) (q := (3, 0)) rfl rfl (by decide)
          have f117 : h97 sn = some (eI D 6144 ((tS (mvn f q al S n) num k (i) (m, Qf, Nf, Rz, w)).2.2.1)) := by rw [e99, hu_n n118]; exact f2
          have f119 : h109 sn = some (eI D 6144 ((tS (mvn f q al S n) num k (i) (m, Qf, Nf, Rz, w)).2.2.1)) := by rw [e111, hu_n n118]; exact f117
          have n121 : nq sr sb := vnt f3 f4 (p := (0, 96)) (q := (3, 0)) rfl rfl (by decide)
          have f120 : h97 sr = some (eZ D 96 ((tS (mvn f q al S n) num k (i) (m, Qf, Nf, Rz, w)).2.2.2.1)) := by rw [e99, hu_n n121]; exact f3
          have f122 : h109 sr = some (eZ D 96 ((tS (mvn f q al S n) num k (i) (m, Qf, Nf, Rz, w)).2.2.2.1)) := by rw [e111, hu_n n121]; exact f120
          refine x_callV C (n := 1) (qc := (RX5, TX5, 7)) (As := [vI k]) (rest := []) (c_X5_noteBody f113 f116 f119 f122 f112 (mvn_ok hS hn ((i : Nat) : Int)) (hTok i) (by omega) (by omega) (by assumption)) gX5_tryInputsFrom_X5_noteBody (by decide +kernel) f113 rfl rfl rfl rfl (Nat.le_of_ble_eq_true rfl) ⟨by decide, by decide⟩ ⟨by decide, by decide⟩ dX5_tryInputsFrom_57 (fun rv123 h124 hp125 => ?_)
          obtain ⟨rfl, e126⟩ := hp125
          rw [show (nbS num k (((mvn f q al S n ((i : Nat) : Int)).1), ((mvn f q al S n ((i : Nat) : Int)).2.1), ((mvn f q al S n ((i : Nat) : Int)).2.2.1), ((mvn f q al S n ((i : Nat) : Int)).2.2.2)) (((tS (mvn f q al S n) num k (i) (m, Qf, Nf, Rz, w)).1), ((tS (mvn f q al S n) num k (i) (m, Qf, Nf, Rz, w)).2.1), ((tS (mvn f q al S n) num k (i) (m, Qf, Nf, Rz, w)).2.2.1), ((tS (mvn f q al S n) num k (i) (m, Qf, Nf, Rz, w)).2.2.2.1), ((tS (mvn f q al S n) num k (i) (m, Qf, Nf, Rz, w)).2.2.2.2))) = (tS (mvn f q al S n) num k (i + 1) (m, Qf, Nf, Rz, w)) from tS_step (mvn f q al S n) num k i (m, Qf, Nf, Rz, w)] at e126
          have f127 : h124 o = some (eO 5 [.ref sb, .ref sq, .ref sn, .ref sr, vI num, vI (((tS (mvn f q al S n) num k (i + 1) (m, Qf, Nf, Rz, w)).1 : Nat) : Int), vI ((tS (mvn f q al S n) num k (i + 1) (m, Qf, Nf, Rz, w)).2.2.2.2)]) := by rw [e126]; exact hu_s
          have n129 : nq sq o := vnt f116 f113 (p := (0, 6144)) (q := (3, 5)) rfl rfl (by decide)
          have f128 : h124 sq = some (eI D 6144 ((tS (mvn f q al S n) num k (i + 1) (m, Qf, Nf, Rz, w)).2.1)) := by rw [e126, hu_n n129]; exact hu_s
          have n131 : nq sn o := vnt f119 f113 (p := (0, 6144)) (q := (3, 5)) rfl rfl (by decide)
          have f130 : h124 sn = some (eI D 6144 ((tS (mvn f q al S n) num k (i + 1) (m, Qf, Nf, Rz, w)).2.2.1)) := by rw [e126, hu_n n131, hu_n (Ne.symm n1)]; exact hu_s
          have n133 : nq sr o := vnt f122 f113 (p := (0, 96)) (q := (3, 5)) rfl rfl (by decide)
          have n134 : nq sr sq := vnt f122 f116 (p := (0, 96)) (q := (0, 6144)) rfl rfl (by decide)
          have n135 : nq sr sn := vnt f122 f119 (p := (0, 96)) (q := (0, 6144)) rfl rfl (by decide)
          have f132 : h124 sr = some (eZ D 96 ((tS (mvn f q al S n) num k (i + 1) (m, Qf, Nf, Rz, w)).2.2.2.1)) := by rw [e126, hu_n n133, hu_n n134, hu_n n135]; exact hu_s
          refine x_iinc C (x := ((i : Nat) : Int)) (ls' := [(0, .ref o), (1, .ref g), (2, vI ((n : Nat) : Int)), (3, vI k), (4, vI ((cnt : Nat) : Int)), (5, vI ((((i : Nat) : Int)) + 1))]) dX5_tryInputsFrom_60 5 rfl (by decide) rfl ?_
          refine x_goto (tgt := 30) C dX5_tryInputsFrom_63 (by decide) ?_
          have f136 : h124 sb = some (eO 0 [.ref as, vI ((mvn f q al S n ((i : Nat) : Int)).1), vI ((mvn f q al S n ((i : Nat) : Int)).2.1), vI (((mvn f q al S n ((i : Nat) : Int)).2.2.1 : Nat) : Int), vI ((mvn f q al S n ((i : Nat) : Int)).2.2.2)]) := by rw [e126, hu_n (Ne.symm n7), hu_n (Ne.symm n115), hu_n (Ne.symm n118), hu_n (Ne.symm n121)]; exact f112
          have f137 : h109 g = some (eO 1 [.ref ak, .ref aq, vI ((al : Nat) : Int)]) := by rw [e111, hu_n n9]; exact f102
          have n139 : nq g o := vnt f137 f113 (p := (3, 1)) (q := (3, 5)) rfl rfl (by decide)
          have n140 : nq g sq := vnt f137 f116 (p := (3, 1)) (q := (0, 6144)) rfl rfl (by decide)
          have n141 : nq g sn := vnt f137 f119 (p := (3, 1)) (q := (0, 6144)) rfl rfl (by decide)
          have n142 : nq g sr := vnt f137 f122 (p := (3, 1)) (q := (0, 96)) rfl rfl (by decide)
          have f138 : h124 g = some (eO 1 [.ref ak, .ref aq, vI ((al : Nat) : Int)]) := by rw [e126, hu_n n139, hu_n n140, hu_n n141, hu_n n142]; exact f137
          have f143 : h109 ak = some (eI D 96 f) := by rw [e111, hu_n n11]; exact f103
          have n145 : nq ak o := vnt f143 f113 (p := (0, 96)) (q := (3, 5)) rfl rfl (by decide)
          have n146 : nq ak sq := vnt f143 f116 (p := (0, 96)) (q := (0, 6144)) rfl rfl (by decide)
          have n147 : nq ak sn := vnt f143 f119 (p := (0, 96)) (q := (0, 6144)) rfl rfl (by decide)
          have n148 : nq ak sr := viz f143 f122 hiz
          have f144 : h124 ak = some (eI D 96 f) := by rw [e126, hu_n n145, hu_n n146, hu_n n147, hu_n n148]; exact f143
          have f149 : h109 aq = some (eI D 3 q) := by rw [e111, hu_n n105]; exact f104
          have n151 : nq aq o := vnt f149 f113 (p := (0, 3)) (q := (3, 5)) rfl rfl (by decide)
          have n152 : nq aq sq := vnt f149 f116 (p := (0, 3)) (q := (0, 6144)) rfl rfl (by decide)
          have n153 : nq aq sn := vnt f149 f119 (p := (0, 3)) (q := (0, 6144)) rfl rfl (by decide)
          have n154 : nq aq sr := vnt f149 f122 (p := (0, 3)) (q := (0, 96)) rfl rfl (by decide)
          have f150 : h124 aq = some (eI D 3 q) := by rw [e126, hu_n n151, hu_n n152, hu_n n153, hu_n n154]; exact f149
          have f155 : h109 as = some (eI D 3 S) := by rw [e111, hu_n n107]; exact f106
          have n157 : nq as o := vnt f155 f113 (p := (0, 3)) (q := (3, 5)) rfl rfl (by decide)
          have n158 : nq as sq := vnt f155 f116 (p := (0, 3)) (q := (0, 6144)) rfl rfl (by decide)
          have n159 : nq as sn := vnt f155 f119 (p := (0, 3)) (q := (0, 6144)) rfl rfl (by decide)
          have n160 : nq as sr := vnt f155 f122 (p := (0, 3)) (q := (0, 96)) rfl rfl (by decide)
          have f156 : h124 as = some (eI D 3 S) := by rw [e126, hu_n n157, hu_n n158, hu_n n159, hu_n n160]; exact f155
          exact ihLP (i + 1) ((mvn f q al S n ((i : Nat) : Int)).2.2.1) ((mvn f q al S n ((i : Nat) : Int)).1) ((mvn f q al S n ((i : Nat) : Int)).2.1) ((mvn f q al S n ((i : Nat) : Int)).2.2.2) h124 f127 f128 f130 f132 f136 f138 f144 f150 f156 (by omega) (by omega) (Or.inr ((eta4 (mvn f q al S n ((i : Nat) : Int))).trans (congrArg (mvn f q al S n) (by omega)))) (by rw [e126, e111, e99, he]; simp only [hu_u]; rw [hu5])
    have n162 : nq sq sb := vnt hQ hb (p := (0, 6144)) (q := (3, 0)) rfl rfl (by decide)
    have f161 : h2 sq = some (eI D 6144 Qf) := by rw [e4, hu_n n162]; exact hQ
    have n164 : nq sn sb := vnt hN hb (p := (0, 6144)) (q := (3, 0)) rfl rfl (by decide)
    have f163 : h2 sn = some (eI D 6144 Nf) := by rw [e4, hu_n n164]; exact hN
    have n166 : nq sr sb := vnt hR hb (p := (0, 96)) (q := (3, 0)) rfl rfl (by decide)
    have f165 : h2 sr = some (eZ D 96 Rz) := by rw [e4, hu_n n166]; exact hR
    have n168 : nq aq sb := vnt hqq hb (p := (0, 3)) (q := (3, 0)) rfl rfl (by decide)
    have f167 : h2 aq = some (eI D 3 q) := by rw [e4, hu_n n168]; exact hqq
    have n170 : nq as sb := vnt hSS hb (p := (0, 3)) (q := (3, 0)) rfl rfl (by decide)
    have f169 : h2 as = some (eI D 3 S) := by rw [e4, hu_n n170]; exact hSS
    have he0 : h2 = hu (hu (hu (hu (hu h sb (eO 0 [.ref as, vI ((n / 64 : Nat) : Int), vI (((n / 8 % 8 : Nat) : Int) - 4), vI ((n % 8 : Nat) : Int), vI 1])) sr (eZ D 96 ((tS (mvn f q al S n) num k (0) (m, Qf, Nf, Rz, w)).2.2.2.1))) sn (eI D 6144 ((tS (mvn f q al S n) num k (0) (m, Qf, Nf, Rz, w)).2.2.1))) sq (eI D 6144 ((tS (mvn f q al S n) num k (0) (m, Qf, Nf, Rz, w)).2.1))) o (eO 5 [.ref sb, .ref sq, .ref sn, .ref sr, vI num, vI (((tS (mvn f q al S n) num k (0) (m, Qf, Nf, Rz, w)).1 : Nat) : Int), vI ((tS (mvn f q al S n) num k (0) (m, Qf, Nf, Rz, w)).2.2.2.2)]) := by
      rw [e4]
      show _ = hu (hu (hu (hu (hu h sb _) sr (eZ D 96 Rz)) sn (eI D 6144 Nf)) sq (eI D 6144 Qf)) o (eO 5 [.ref sb, .ref sq, .ref sn, .ref sr, vI num, vI ((m : Nat) : Int), vI w])
      rw [hu_i (a := sr) (by rw [hu_n nn_sr_sb]; exact hR), hu_i (a := sn) (by rw [hu_n nn_sn_sb]; exact hN), hu_i (a := sq) (by rw [hu_n nn_sq_sb]; exact hQ), hu_i (a := o) (by rw [hu_n nn_o_sb]; exact ho)]
    exact LP (7) 0 (n % 8) (((n / 64 : Nat) : Int)) (((n / 8 % 8 : Nat) : Int) - 4) 1 h2 f6 f161 f163 f165 f5 f8 f10 f167 f169 (by omega) (by omega) (Or.inl rfl) (he0)


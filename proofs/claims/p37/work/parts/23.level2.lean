theorem hu_bo {h : vh} {a b : Nat} {x y z : va_E} : hu (hu (hu h a x) b y) a z = hu (hu h b y) a z := by
  funext q
  by_cases q1 : q = a
  · simp only [hu, if_pos q1]
  · simp only [hu, if_neg q1]
section XR2
variable {κ : KX} {n1 n2 pc : Nat} {h : vh} {ls : List (Nat × Value)} {st : List Value}
theorem x_rf_s {o : Option Nat} {a : Nat} (ho : o = some a) (kk : X κ n1 n2 h ls pc (.ref a :: st)) : X κ n1 n2 h ls pc (va_rf o :: st) := by subst ho; exact kk
theorem x_rf_n {o : Option Nat} (ho : o = none) (kk : X κ n1 n2 h ls pc (.null :: st)) : X κ n1 n2 h ls pc (va_rf o :: st) := by subst ho; exact kk
end XR2
theorem prf_or {ad : AD} {z : Int} (h0 : 0 ≤ z) : (z = 0 ∧ prf ad z = none) ∨ ∃ w : Nat, z = (w : Int) + 1 ∧ prf ad z = some (ad 18 w) := by
  obtain ⟨n, rfl⟩ := Int.eq_ofNat_of_zero_le h0
  cases n with
  | zero => exact Or.inl ⟨rfl, rfl⟩
  | succ n => exact Or.inr ⟨n, by omega, rfl⟩
/-- the n-th that it comes from; P tells where each comes from (one more than its place, 0: from none) -/
def Lin (P : Nat → Int) : Nat → Int → Int
  | 0, z => z
  | n + 1, z => Lin P n (if z ≤ 0 then 0 else P (z - 1).toNat)
def Anc (P : Nat → Int) (T : Nat → Prop) (z : Int) : Prop := ∃ n, 0 < Lin P n z ∧ T (Lin P n z - 1).toNat
theorem Lin_0 {P : Nat → Int} : ∀ (n : Nat) (z : Int), z ≤ 0 → Lin P n z ≤ 0
  | 0, _, h => h
  | n + 1, z, h => by unfold Lin; rw [if_pos h]; exact Lin_0 n 0 (Int.le_refl _)
theorem Anc_0 {P : Nat → Int} {T : Nat → Prop} : ¬ Anc P T 0 := fun ⟨n, h, _⟩ => by have := Lin_0 (P := P) n 0 (Int.le_refl _); omega
theorem Anc_s {P : Nat → Int} {T : Nat → Prop} {x : Nat} : Anc P T ((x : Int) + 1) ↔ T x ∨ Anc P T (P x) := by
  have hx : ((x : Int) + 1 - 1).toNat = x := by omega
  constructor
  · rintro ⟨n, h1, h2⟩
    cases n with
    | zero =>
      have h3 : T ((x : Int) + 1 - 1).toNat := h2
      rw [hx] at h3
      exact Or.inl h3
    | succ n =>
      have e : Lin P (n + 1) ((x : Int) + 1) = Lin P n (P x) := by
        show Lin P n (if (x : Int) + 1 ≤ 0 then 0 else P ((x : Int) + 1 - 1).toNat) = _
        rw [if_neg (by omega), hx]
      rw [e] at h1 h2
      exact Or.inr ⟨n, h1, h2⟩
  · rintro (h | ⟨n, h1, h2⟩)
    · exact ⟨0, by show (0 : Int) < (x : Int) + 1; omega, by show T ((x : Int) + 1 - 1).toNat; rw [hx]; exact h⟩
    · have e : Lin P (n + 1) ((x : Int) + 1) = Lin P n (P x) := by
        show Lin P n (if (x : Int) + 1 ≤ 0 then 0 else P ((x : Int) + 1 - 1).toNat) = _
        rw [if_neg (by omega), hx]
      exact ⟨n + 1, by rw [e]; exact h1, by rw [e]; exact h2⟩
theorem mv_b {f : Nat → Int} {B : Int → Nat} {al : Nat} {S : Nat → Int} {i c v : Int} {t : Nat} : b123 (mv f B al S i c v t) := by
  unfold mv
  have h : b3 (sd f B al (i % 3 - 1) (c, t, 1)) := sd_b3 (Or.inl rfl)
  split
  · exact vt_b3 _ _ h
  · exact h

theorem kX4_beginOn_0 : Cond.fieldLink "LedgeLevels$Run" 9 "LedgeLevels$Run" "work" "LLedgeLevels$Work;" ∈ wsX4_beginOn := by decide +kernel
theorem kX4_beginOn_1 : ∀ w ∈ wsX40, w ∈ wsX4_beginOn := by decide +kernel
theorem kX4_beginOn_2 : Cond.fieldLink "LedgeLevels$Run" 19 "LedgeLevels$Run" "steps" "I" ∈ wsX4_beginOn := by decide +kernel
theorem kX4_beginOn_3 : Cond.fieldLink "LedgeLevels$Run" 27 "LedgeLevels$Run" "body" "LLedgeLevels$Body;" ∈ wsX4_beginOn := by decide +kernel
theorem kX4_beginOn_4 : Cond.fieldLinkNest "LedgeLevels$Run" 31 "LedgeLevels$Work" "grid" "LLedgeLevels$Grid;" "LedgeLevels" ∈ nwAll := by decide +kernel
theorem kX4_beginOn_5 : ∀ w ∈ wsX60, w ∈ wsX4_beginOn := by decide +kernel
theorem kX4_beginOn_6 : Cond.fieldLinkNest "LedgeLevels$Run" 37 "LedgeLevels$Work" "start" "I" "LedgeLevels" ∈ nwAll := by decide +kernel
set_option maxRecDepth 100000 in
set_option maxHeartbeats 1000000 in
theorem c_X4_beginOn {l : Launch} {D : va_G} {A : Nat → Prop} {h : vh} {o b wk g ak aq as : Nat} {x1 x2 x3 x6 x7 w0 : Value} {f q : Nat → Int} {al t0 : Nat} {r s0 n0 c0 v0 y0 st : Int} (ho : h o = some (eO 4 [.ref b, w0, vI s0, vI n0])) (hb : h b = some (eO 0 [.ref as, vI c0, vI v0, vI ((t0 : Nat) : Int), vI y0])) (hwk : h wk = some (eO 6 [x1, x2, x3, .ref g, vI st, x6, x7, vI r])) (hg : h g = some (eO 1 [.ref ak, .ref aq, vI ((al : Nat) : Int)])) (hk : h ak = some (eI D 96 f)) (hqq : h aq = some (eI D 3 q)) (hst : 0 ≤ st ∧ st ≤ 95) (hf : ∀ j, 0 ≤ f j ∧ f j ≤ 8) (hq : ∀ j, -1 ≤ q j ∧ q j ≤ 95) (hr : -1 ≤ r ∧ r ≤ 300) : MX l D A yX4_beginOn wsX4_beginOn { frames := 3, cells := 0, slots := 0, locals := 67 } [.ref o, .ref wk] h (fun rv h' => rv = none ∧ h' = hu (hu (hu h b (eO 0 [.ref as, vI ((X0 f q st).1), vI 0, vI (((X0 f q st).2.2.1 : Nat) : Int), vI ((X0 f q st).2.2.2)])) o (eO 4 [.ref b, .ref wk, vI ((X0 f q st).2.2.2), vI 0])) wk (eO 6 [x1, x2, x3, .ref g, vI st, x6, x7, vI ((if (X0 f q st).2.2.2 = 2 then (if r < 0 ∨ 0 < r then 0 else r) else r))])) := by
  refine MX.of (cc := cX4_beginOn) (maxL := 2) (ret := none) [(0, .ref o), (1, .ref wk)] (by decide +kernel) rfl rfl (Nat.le_of_ble_eq_true rfl) ?_
  intro κ C hkl G
  subst hkl
  have C : CX κ "LedgeLevels$Run" "beginOn" cX4_beginOn wsX4_beginOn { frames := 3, cells := 0, slots := 0, locals := 67 } D A 2 := C
  have hiz : nq (D.1 20) (D.1 21) := cx_iz C
  have nn_o_b : nq o b := vnt ho hb (p := (3, 4)) (q := (3, 0)) rfl rfl (by decide)
  have nn_b_o : nq b o := Ne.symm nn_o_b
  have nn_o_wk : nq o wk := vnt ho hwk (p := (3, 4)) (q := (3, 6)) rfl rfl (by decide)
  have nn_wk_o : nq wk o := Ne.symm nn_o_wk
  have nn_o_g : nq o g := vnt ho hg (p := (3, 4)) (q := (3, 1)) rfl rfl (by decide)
  have nn_g_o : nq g o := Ne.symm nn_o_g
  have nn_o_ak : nq o ak := vnt ho hk (p := (3, 4)) (q := (0, 96)) rfl rfl (by decide)
  have nn_ak_o : nq ak o := Ne.symm nn_o_ak
  have nn_o_aq : nq o aq := vnt ho hqq (p := (3, 4)) (q := (0, 3)) rfl rfl (by decide)
  have nn_aq_o : nq aq o := Ne.symm nn_o_aq
  have nn_b_wk : nq b wk := vnt hb hwk (p := (3, 0)) (q := (3, 6)) rfl rfl (by decide)
  have nn_wk_b : nq wk b := Ne.symm nn_b_wk
  have nn_b_g : nq b g := vnt hb hg (p := (3, 0)) (q := (3, 1)) rfl rfl (by decide)
  have nn_g_b : nq g b := Ne.symm nn_b_g
  have nn_b_ak : nq b ak := vnt hb hk (p := (3, 0)) (q := (0, 96)) rfl rfl (by decide)
  have nn_ak_b : nq ak b := Ne.symm nn_b_ak
  have nn_b_aq : nq b aq := vnt hb hqq (p := (3, 0)) (q := (0, 3)) rfl rfl (by decide)
  have nn_aq_b : nq aq b := Ne.symm nn_b_aq
  have nn_wk_g : nq wk g := vnt hwk hg (p := (3, 6)) (q := (3, 1)) rfl rfl (by decide)
  have nn_g_wk : nq g wk := Ne.symm nn_wk_g
  have nn_wk_ak : nq wk ak := vnt hwk hk (p := (3, 6)) (q := (0, 96)) rfl rfl (by decide)
  have nn_ak_wk : nq ak wk := Ne.symm nn_wk_ak
  have nn_wk_aq : nq wk aq := vnt hwk hqq (p := (3, 6)) (q := (0, 3)) rfl rfl (by decide)
  have nn_aq_wk : nq aq wk := Ne.symm nn_wk_aq
  have nn_g_ak : nq g ak := vnt hg hk (p := (3, 1)) (q := (0, 96)) rfl rfl (by decide)
  have nn_ak_g : nq ak g := Ne.symm nn_g_ak
  have nn_g_aq : nq g aq := vnt hg hqq (p := (3, 1)) (q := (0, 3)) rfl rfl (by decide)
  have nn_aq_g : nq aq g := Ne.symm nn_g_aq
  have nn_ak_aq : nq ak aq := vnt hk hqq (p := (0, 96)) (q := (0, 3)) rfl rfl (by decide)
  have nn_aq_ak : nq aq ak := Ne.symm nn_ak_aq
  have hXb := X0_ok (f := f) (q := q) hst
  obtain ⟨y1, y2, y3, y4, y5, y6, y7⟩ := id hXb
  refine x_aload_n C dX4_beginOn_0 0 rfl ?_
  refine x_aload_n C dX4_beginOn_1 1 rfl ?_
  refine x_put C ho (T := TX4) rfl tyX4_ok nmX4 kX4_beginOn_1 1 (by decide) kX4_beginOn_0 rfl (fs' := [.ref b, .ref wk, vI s0, vI n0]) rfl rfl (by simp) rfl dX4_beginOn_2 (x_hn (fun h1 e2 => ?_))
  have f3 : h1 o = some (eO 4 [.ref b, .ref wk, vI s0, vI n0]) := by rw [e2]; exact hu_s
  refine x_aload_n C dX4_beginOn_5 0 rfl ?_
  refine x_iconst C dX4_beginOn_6 0 (by decide) ?_
  refine x_put C f3 (T := TX4) rfl tyX4_ok nmX4 kX4_beginOn_1 3 (by decide) kX4_beginOn_2 rfl (fs' := [.ref b, .ref wk, vI s0, vI 0]) rfl rfl (by simp) rfl dX4_beginOn_7 (x_hn (fun h4 e5 => ?_))
  have f6 : h4 o = some (eO 4 [.ref b, .ref wk, vI s0, vI 0]) := by rw [e5]; exact hu_s
  refine x_aload_n C dX4_beginOn_10 0 rfl ?_
  refine x_get C (v := .ref b) f6 (T := TX4) rfl kX4_beginOn_1 0 (by decide) kX4_beginOn_3 rfl dX4_beginOn_11 ?_
  refine x_aload_n C dX4_beginOn_14 1 rfl ?_
  have n8 : nq wk o := vnt hwk ho (p := (3, 6)) (q := (3, 4)) rfl rfl (by decide)
  have f7 : h1 wk = some (eO 6 [x1, x2, x3, .ref g, vI st, x6, x7, vI r]) := by rw [e2, hu_n n8]; exact hwk
  have f9 : h4 wk = some (eO 6 [x1, x2, x3, .ref g, vI st, x6, x7, vI r]) := by rw [e5, hu_n n8]; exact f7
  refine x_getN (host := "LedgeLevels") C (v := .ref g) f9 (T := TX6) rfl kX4_beginOn_5 3 (by decide) kX4_beginOn_4 rfl dX4_beginOn_15 ?_
  refine x_aload_n C dX4_beginOn_18 1 rfl ?_
  refine x_getN (host := "LedgeLevels") C (v := vI st) f9 (T := TX6) rfl kX4_beginOn_5 4 (by decide) kX4_beginOn_6 rfl dX4_beginOn_19 ?_
  have n11 : nq b o := vnt hb ho (p := (3, 0)) (q := (3, 4)) rfl rfl (by decide)
  have f10 : h1 b = some (eO 0 [.ref as, vI c0, vI v0, vI ((t0 : Nat) : Int), vI y0]) := by rw [e2, hu_n n11]; exact hb
  have f12 : h4 b = some (eO 0 [.ref as, vI c0, vI v0, vI ((t0 : Nat) : Int), vI y0]) := by rw [e5, hu_n n11]; exact f10
  have n14 : nq g o := vnt hg ho (p := (3, 1)) (q := (3, 4)) rfl rfl (by decide)
  have f13 : h1 g = some (eO 1 [.ref ak, .ref aq, vI ((al : Nat) : Int)]) := by rw [e2, hu_n n14]; exact hg
  have f15 : h4 g = some (eO 1 [.ref ak, .ref aq, vI ((al : Nat) : Int)]) := by rw [e5, hu_n n14]; exact f13
  have n17 : nq ak o := vnt hk ho (p := (0, 96)) (q := (3, 4)) rfl rfl (by decide)
  have f16 : h1 ak = some (eI D 96 f) := by rw [e2, hu_n n17]; exact hk
  have f18 : h4 ak = some (eI D 96 f) := by rw [e5, hu_n n17]; exact f16
  have n20 : nq aq o := vnt hqq ho (p := (0, 3)) (q := (3, 4)) rfl rfl (by decide)
  have f19 : h1 aq = some (eI D 3 q) := by rw [e2, hu_n n20]; exact hqq
  have f21 : h4 aq = some (eI D 3 q) := by rw [e5, hu_n n20]; exact f19
  refine x_callV C (n := 2) (qc := (RX0, TX0, 5)) (As := [.ref g, vI st]) (rest := []) (c_X0_placeAtStart f12 f15 f18 f21 (by omega) (by assumption) (by assumption)) gX4_beginOn_X0_placeAtStart (by decide +kernel) f12 rfl rfl rfl rfl (Nat.le_of_ble_eq_true rfl) ⟨by decide, by decide⟩ ⟨by decide, by decide⟩ dX4_beginOn_22 (fun rv22 h23 hp24 => ?_)
  obtain ⟨rfl, e25⟩ := hp24
  rw [show (cm f (kbf f q) st (st, 0, 1)).1 = (X0 f q st).1 from rfl] at e25
  rw [show (cm f (kbf f q) st (st, 0, 1)).2.1 = (X0 f q st).2.2.1 from rfl] at e25
  rw [show (cm f (kbf f q) st (st, 0, 1)).2.2 = (X0 f q st).2.2.2 from rfl] at e25
  have f26 : h23 b = some (eO 0 [.ref as, vI ((X0 f q st).1), vI 0, vI (((X0 f q st).2.2.1 : Nat) : Int), vI ((X0 f q st).2.2.2)]) := by rw [e25]; exact hu_s
  refine x_aload_n C dX4_beginOn_25 0 rfl ?_
  have f27 : h23 o = some (eO 4 [.ref b, .ref wk, vI s0, vI 0]) := by rw [e25, hu_n (Ne.symm n11)]; exact f6
  have n29 : nq wk b := vnt f9 f12 (p := (3, 6)) (q := (3, 0)) rfl rfl (by decide)
  have f28 : h23 wk = some (eO 6 [x1, x2, x3, .ref g, vI st, x6, x7, vI r]) := by rw [e25, hu_n n29]; exact f9
  refine x_callV C (n := 0) (qc := (RX4, TX4, 4)) (As := []) (rest := []) (c_X4_takeStateOfBody f27 f26 f28 (by omega) (by omega) (by omega)) gX4_beginOn_X4_takeStateOfBody (by decide +kernel) f27 rfl rfl rfl rfl (Nat.le_of_ble_eq_true rfl) ⟨by decide, by decide⟩ ⟨by decide, by decide⟩ dX4_beginOn_26 (fun rv30 h31 hp32 => ?_)
  obtain ⟨rfl, e33⟩ := hp32
  have f34 : h31 wk = some (eO 6 [x1, x2, x3, .ref g, vI st, x6, x7, vI ((if ((X0 f q st).2.2.2) = 2 then (if r < 0 ∨ 0 < r then 0 else r) else r))]) := by rw [e33]; exact hu_s
  have f35 : h31 o = some (eO 4 [.ref b, .ref wk, vI ((X0 f q st).2.2.2), vI 0]) := by rw [e33, hu_n (Ne.symm n8)]; exact hu_s
  refine x_vret C G dX4_beginOn_29 ?_ (by decide) (by decide)
  refine ⟨rfl, ?_⟩
  rw [e33, e25, e5, e2]
  try simp only [hu_u]
  rw [hu_bo]

theorem kX4_goOn_0 : Cond.fieldLink "LedgeLevels$Run" 9 "LedgeLevels$Run" "work" "LLedgeLevels$Work;" ∈ wsX4_goOn := by decide +kernel
theorem kX4_goOn_1 : ∀ w ∈ wsX40, w ∈ wsX4_goOn := by decide +kernel
theorem kX4_goOn_2 : Cond.fieldLink "LedgeLevels$Run" 19 "LedgeLevels$Run" "steps" "I" ∈ wsX4_goOn := by decide +kernel
theorem kX4_goOn_3 : Cond.fieldLink "LedgeLevels$Run" 27 "LedgeLevels$Run" "body" "LLedgeLevels$Body;" ∈ wsX4_goOn := by decide +kernel
theorem kX4_goOn_4 : Cond.fieldLinkNest "LedgeLevels$Run" 31 "LedgeLevels$Work" "grid" "LLedgeLevels$Grid;" "LedgeLevels" ∈ nwAll := by decide +kernel
theorem kX4_goOn_5 : ∀ w ∈ wsX60, w ∈ wsX4_goOn := by decide +kernel
set_option maxRecDepth 100000 in
set_option maxHeartbeats 1000000 in
theorem c_X4_goOn {l : Launch} {D : va_G} {A : Nat → Prop} {h : vh} {o b wk g ak aq as : Nat} {x1 x2 x3 x6 x7 : Value} {f q S : Nat → Int} {al t : Nat} {r s0 n c v st z : Int} (ho : h o = some (eO 4 [.ref b, .ref wk, vI s0, vI n])) (hb : h b = some (eO 0 [.ref as, vI c, vI v, vI ((t : Nat) : Int), vI 1])) (hwk : h wk = some (eO 6 [x1, x2, x3, .ref g, vI st, x6, x7, vI r])) (hg : h g = some (eO 1 [.ref ak, .ref aq, vI ((al : Nat) : Int)])) (hk : h ak = some (eI D 96 f)) (hqq : h aq = some (eI D 3 q)) (hSS : h as = some (eI D 3 S)) (hz : 0 ≤ z ∧ z ≤ 5) (hc : 0 ≤ c ∧ c ≤ 95) (hv : -4 ≤ v ∧ v ≤ 3) (hf : ∀ j, 0 ≤ f j ∧ f j ≤ 8) (hq : ∀ j, -1 ≤ q j ∧ q j ≤ 95) (hS : ∀ j, 0 ≤ S j ∧ S j ≤ 4) (ht : t < 8) (hal : al < 8) (hr : -1 ≤ r ∧ r ≤ 300) (hn : 0 ≤ n ∧ n ≤ 250) : MX l D A yX4_goOn wsX4_goOn { frames := 4, cells := 0, slots := 0, locals := 91 } [.ref o, vI z] h (fun rv h' => rv = none ∧ h' = hu (hu (hu h b (eO 0 [.ref as, vI ((mv f (kbf f q) al S z c v t).1), vI ((mv f (kbf f q) al S z c v t).2.1), vI (((mv f (kbf f q) al S z c v t).2.2.1 : Nat) : Int), vI ((mv f (kbf f q) al S z c v t).2.2.2)])) o (eO 4 [.ref b, .ref wk, vI ((mv f (kbf f q) al S z c v t).2.2.2), vI (n + 1)])) wk (eO 6 [x1, x2, x3, .ref g, vI st, x6, x7, vI ((if (mv f (kbf f q) al S z c v t).2.2.2 = 2 then (if r < 0 ∨ (n + 1) < r then (n + 1) else r) else r))])) := by
  refine MX.of (cc := cX4_goOn) (maxL := 2) (ret := none) [(0, .ref o), (1, vI z)] (by decide +kernel) rfl rfl (Nat.le_of_ble_eq_true rfl) ?_
  intro κ C hkl G
  subst hkl
  have C : CX κ "LedgeLevels$Run" "goOn" cX4_goOn wsX4_goOn { frames := 4, cells := 0, slots := 0, locals := 91 } D A 2 := C
  have hiz : nq (D.1 20) (D.1 21) := cx_iz C
  have nn_o_b : nq o b := vnt ho hb (p := (3, 4)) (q := (3, 0)) rfl rfl (by decide)
  have nn_b_o : nq b o := Ne.symm nn_o_b
  have nn_o_wk : nq o wk := vnt ho hwk (p := (3, 4)) (q := (3, 6)) rfl rfl (by decide)
  have nn_wk_o : nq wk o := Ne.symm nn_o_wk
  have nn_o_g : nq o g := vnt ho hg (p := (3, 4)) (q := (3, 1)) rfl rfl (by decide)
  have nn_g_o : nq g o := Ne.symm nn_o_g
  have nn_o_ak : nq o ak := vnt ho hk (p := (3, 4)) (q := (0, 96)) rfl rfl (by decide)
  have nn_ak_o : nq ak o := Ne.symm nn_o_ak
  have nn_o_aq : nq o aq := vnt ho hqq (p := (3, 4)) (q := (0, 3)) rfl rfl (by decide)
  have nn_aq_o : nq aq o := Ne.symm nn_o_aq
  have nn_o_as : nq o as := vnt ho hSS (p := (3, 4)) (q := (0, 3)) rfl rfl (by decide)
  have nn_as_o : nq as o := Ne.symm nn_o_as
  have nn_b_wk : nq b wk := vnt hb hwk (p := (3, 0)) (q := (3, 6)) rfl rfl (by decide)
  have nn_wk_b : nq wk b := Ne.symm nn_b_wk
  have nn_b_g : nq b g := vnt hb hg (p := (3, 0)) (q := (3, 1)) rfl rfl (by decide)
  have nn_g_b : nq g b := Ne.symm nn_b_g
  have nn_b_ak : nq b ak := vnt hb hk (p := (3, 0)) (q := (0, 96)) rfl rfl (by decide)
  have nn_ak_b : nq ak b := Ne.symm nn_b_ak
  have nn_b_aq : nq b aq := vnt hb hqq (p := (3, 0)) (q := (0, 3)) rfl rfl (by decide)
  have nn_aq_b : nq aq b := Ne.symm nn_b_aq
  have nn_b_as : nq b as := vnt hb hSS (p := (3, 0)) (q := (0, 3)) rfl rfl (by decide)
  have nn_as_b : nq as b := Ne.symm nn_b_as
  have nn_wk_g : nq wk g := vnt hwk hg (p := (3, 6)) (q := (3, 1)) rfl rfl (by decide)
  have nn_g_wk : nq g wk := Ne.symm nn_wk_g
  have nn_wk_ak : nq wk ak := vnt hwk hk (p := (3, 6)) (q := (0, 96)) rfl rfl (by decide)
  have nn_ak_wk : nq ak wk := Ne.symm nn_wk_ak
  have nn_wk_aq : nq wk aq := vnt hwk hqq (p := (3, 6)) (q := (0, 3)) rfl rfl (by decide)
  have nn_aq_wk : nq aq wk := Ne.symm nn_wk_aq
  have nn_wk_as : nq wk as := vnt hwk hSS (p := (3, 6)) (q := (0, 3)) rfl rfl (by decide)
  have nn_as_wk : nq as wk := Ne.symm nn_wk_as
  have nn_g_ak : nq g ak := vnt hg hk (p := (3, 1)) (q := (0, 96)) rfl rfl (by decide)
  have nn_ak_g : nq ak g := Ne.symm nn_g_ak
  have nn_g_aq : nq g aq := vnt hg hqq (p := (3, 1)) (q := (0, 3)) rfl rfl (by decide)
  have nn_aq_g : nq aq g := Ne.symm nn_g_aq
  have nn_g_as : nq g as := vnt hg hSS (p := (3, 1)) (q := (0, 3)) rfl rfl (by decide)
  have nn_as_g : nq as g := Ne.symm nn_g_as
  have nn_ak_aq : nq ak aq := vnt hk hqq (p := (0, 96)) (q := (0, 3)) rfl rfl (by decide)
  have nn_aq_ak : nq aq ak := Ne.symm nn_ak_aq
  have nn_ak_as : nq ak as := vnt hk hSS (p := (0, 96)) (q := (0, 3)) rfl rfl (by decide)
  have nn_as_ak : nq as ak := Ne.symm nn_ak_as
  have hMo := mv_r (kbf_r f q) hS hc hv ht (f := f) (al := al) (inp := z)
  obtain ⟨y1, y2, y3, y4, y5, y6, y7⟩ := id hMo
  refine x_aload_n C dX4_goOn_0 0 rfl ?_
  refine x_get C (v := .ref wk) ho (T := TX4) rfl kX4_goOn_1 1 (by decide) kX4_goOn_0 rfl dX4_goOn_1 ?_
  refine x_ifnonnull (tgt := 8) C dX4_goOn_4 (by decide) ?_
  refine x_aload_n C dX4_goOn_8 0 rfl ?_
  refine x_dup C dX4_goOn_9 rfl ?_
  refine x_get C (v := vI n) ho (T := TX4) rfl kX4_goOn_1 3 (by decide) kX4_goOn_2 rfl dX4_goOn_10 ?_
  refine x_iconst C dX4_goOn_13 1 (by decide) ?_
  refine x_iadd C dX4_goOn_14 ?_
  refine x_put C ho (T := TX4) rfl tyX4_ok nmX4 kX4_goOn_1 3 (by decide) kX4_goOn_2 rfl (fs' := [.ref b, .ref wk, vI s0, vI (n + 1)]) rfl rfl (by simp) rfl dX4_goOn_15 (x_hn (fun h1 e2 => ?_))
  have f3 : h1 o = some (eO 4 [.ref b, .ref wk, vI s0, vI (n + 1)]) := by rw [e2]; exact hu_s
  refine x_aload_n C dX4_goOn_18 0 rfl ?_
  refine x_get C (v := .ref b) f3 (T := TX4) rfl kX4_goOn_1 0 (by decide) kX4_goOn_3 rfl dX4_goOn_19 ?_
  refine x_aload_n C dX4_goOn_22 0 rfl ?_
  refine x_get C (v := .ref wk) f3 (T := TX4) rfl kX4_goOn_1 1 (by decide) kX4_goOn_0 rfl dX4_goOn_23 ?_
  have n5 : nq wk o := vnt hwk ho (p := (3, 6)) (q := (3, 4)) rfl rfl (by decide)
  have f4 : h1 wk = some (eO 6 [x1, x2, x3, .ref g, vI st, x6, x7, vI r]) := by rw [e2, hu_n n5]; exact hwk
  refine x_getN (host := "LedgeLevels") C (v := .ref g) f4 (T := TX6) rfl kX4_goOn_5 3 (by decide) kX4_goOn_4 rfl dX4_goOn_26 ?_
  refine x_iload_n C dX4_goOn_29 1 rfl ?_
  have n7 : nq b o := vnt hb ho (p := (3, 0)) (q := (3, 4)) rfl rfl (by decide)
  have f6 : h1 b = some (eO 0 [.ref as, vI c, vI v, vI ((t : Nat) : Int), vI 1]) := by rw [e2, hu_n n7]; exact hb
  have n9 : nq g o := vnt hg ho (p := (3, 1)) (q := (3, 4)) rfl rfl (by decide)
  have f8 : h1 g = some (eO 1 [.ref ak, .ref aq, vI ((al : Nat) : Int)]) := by rw [e2, hu_n n9]; exact hg
  have n11 : nq ak o := vnt hk ho (p := (0, 96)) (q := (3, 4)) rfl rfl (by decide)
  have f10 : h1 ak = some (eI D 96 f) := by rw [e2, hu_n n11]; exact hk
  have n13 : nq aq o := vnt hqq ho (p := (0, 3)) (q := (3, 4)) rfl rfl (by decide)
  have f12 : h1 aq = some (eI D 3 q) := by rw [e2, hu_n n13]; exact hqq
  have n15 : nq as o := vnt hSS ho (p := (0, 3)) (q := (3, 4)) rfl rfl (by decide)
  have f14 : h1 as = some (eI D 3 S) := by rw [e2, hu_n n15]; exact hSS
  refine x_callV C (n := 2) (qc := (RX0, TX0, 5)) (As := [.ref g, vI z]) (rest := []) (c_X0_move f6 f8 f10 f12 f14 (by omega) (by omega) (by omega) (by assumption) (by assumption) (by assumption) (by omega) (by omega)) gX4_goOn_X0_move (by decide +kernel) f6 rfl rfl rfl rfl (Nat.le_of_ble_eq_true rfl) ⟨by decide, by decide⟩ ⟨by decide, by decide⟩ dX4_goOn_30 (fun rv16 h17 hp18 => ?_)
  obtain ⟨rfl, e19⟩ := hp18
  have f20 : h17 b = some (eO 0 [.ref as, vI ((mv f (kbf f q) al S z c v t).1), vI ((mv f (kbf f q) al S z c v t).2.1), vI (((mv f (kbf f q) al S z c v t).2.2.1 : Nat) : Int), vI ((mv f (kbf f q) al S z c v t).2.2.2)]) := by rw [e19]; exact hu_s
  refine x_aload_n C dX4_goOn_33 0 rfl ?_
  have f21 : h17 o = some (eO 4 [.ref b, .ref wk, vI s0, vI (n + 1)]) := by rw [e19, hu_n (Ne.symm n7)]; exact f3
  have n23 : nq wk b := vnt f4 f6 (p := (3, 6)) (q := (3, 0)) rfl rfl (by decide)
  have f22 : h17 wk = some (eO 6 [x1, x2, x3, .ref g, vI st, x6, x7, vI r]) := by rw [e19, hu_n n23]; exact f4
  refine x_callV C (n := 0) (qc := (RX4, TX4, 4)) (As := []) (rest := []) (c_X4_takeStateOfBody f21 f20 f22 (by omega) (by omega) (by omega)) gX4_goOn_X4_takeStateOfBody (by decide +kernel) f21 rfl rfl rfl rfl (Nat.le_of_ble_eq_true rfl) ⟨by decide, by decide⟩ ⟨by decide, by decide⟩ dX4_goOn_34 (fun rv24 h25 hp26 => ?_)
  obtain ⟨rfl, e27⟩ := hp26
  have f28 : h25 wk = some (eO 6 [x1, x2, x3, .ref g, vI st, x6, x7, vI ((if ((mv f (kbf f q) al S z c v t).2.2.2) = 2 then (if r < 0 ∨ (n + 1) < r then (n + 1) else r) else r))]) := by rw [e27]; exact hu_s
  have f29 : h25 o = some (eO 4 [.ref b, .ref wk, vI ((mv f (kbf f q) al S z c v t).2.2.2), vI (n + 1)]) := by rw [e27, hu_n (Ne.symm n5)]; exact hu_s
  refine x_vret C G dX4_goOn_37 ?_ (by decide) (by decide)
  refine ⟨rfl, ?_⟩
  rw [e27, e19, e2]
  try simp only [hu_u]
  rw [hu_bo]

theorem kX6_comesFrom_0 : Cond.fieldLink "LedgeLevels$Work" 39 "LedgeLevels$Work" "parent" "LLedgeLevels$Work;" ∈ wsX6_comesFrom := by decide +kernel
theorem kX6_comesFrom_1 : ∀ w ∈ wsX60, w ∈ wsX6_comesFrom := by decide +kernel
set_option maxRecDepth 100000 in
set_option maxHeartbeats 1000000 in
theorem c_X6_comesFrom {l : Launch} {D : va_G} {A : Nat → Prop} {h : vh} {ad : AD} {c : CS} {L W : Nat} {w v : Nat}  (hR : RepC D ad c L W h) (hw : w < W) (hP : ∀ i, i < W → 0 ≤ c 18 i 2 ∧ c 18 i 2 ≤ i) (hv : v < W) : MX l D A yX6_comesFrom wsX6_comesFrom { frames := 0, cells := 0, slots := 0, locals := 0 } [.ref (ad 18 w), .ref (ad 18 v)] h (fun rv h' => rv = some (vI (bI (Anc (fun i => c 18 i 2) (fun i => i = v) ((w : Int) + 1)))) ∧ h' = h) := by
  refine MX.of (cc := cX6_comesFrom) (maxL := 3) (ret := (some .boolean)) [(0, .ref (ad 18 w)), (1, .ref (ad 18 v))] (by decide +kernel) rfl rfl (Nat.le_of_ble_eq_true rfl) ?_
  intro κ C hkl G
  subst hkl
  have C : CX κ "LedgeLevels$Work" "comesFrom" cX6_comesFrom wsX6_comesFrom { frames := 0, cells := 0, slots := 0, locals := 0 } D A 3 := C
  have hiz : nq (D.1 20) (D.1 21) := cx_iz C
  refine x_aload_n C dX6_comesFrom_0 0 rfl ?_
  refine x_astore_n C (ls' := [(0, .ref (ad 18 w)), (1, .ref (ad 18 v)), (2, .ref (ad 18 w))]) dX6_comesFrom_1 (by decide) rfl ?_
  have LP : ∀ (N : Nat) (x : Nat)   (hx : x < W) (hm : x < N) (hA : Anc (fun i => c 18 i 2) (fun i => i = v) ((w : Int) + 1) ↔ Anc (fun i => c 18 i 2) (fun i => i = v) ((x : Int) + 1)), X κ 0 0 h [(0, .ref (ad 18 w)), (1, .ref (ad 18 v)), (2, .ref (ad 18 x))] 2 [] := by
    intro N
    induction N with
    | zero => intro x hx hm hA; exfalso; omega
    | succ N ihLP =>
      intro x hx hm hA
      have hPx := hP x hx
      refine x_aload_n C dX6_comesFrom_2 2 rfl ?_
      refine x_ifnull C dX6_comesFrom_3 ?_
      refine x_aload_n C dX6_comesFrom_6 2 rfl ?_
      refine x_aload_n C dX6_comesFrom_7 1 rfl ?_
      refine x_acmp_ne (tgt := 13) C dX6_comesFrom_8 (by decide) (fun c2 => ?_) (fun c2 => ?_)
      · skip
        have hno : ¬ ((fun i => i = v)) x := by
            intro z9
            exact c2 (by first | exact z9 | exact congrArg (ad 18) z9)
        refine x_aload_n C dX6_comesFrom_13 2 rfl ?_
        have f3 : h (ad 18 x) = some (eO 6 [vI (c 18 x 0), vI (c 18 x 1), va_rf (prf ad (c 18 x 2)), .ref (ad 19 x), vI (c 18 x 4), .ref (ad 22 x), vI (c 18 x 6), vI (c 18 x 7)]) := hR.1 18 x (lvW (by decide) (by omega))
        refine x_get C (v := va_rf (prf ad (c 18 x 2))) f3 (T := TX6) rfl kX6_comesFrom_1 2 (by decide) kX6_comesFrom_0 rfl dX6_comesFrom_14 ?_
        rcases prf_or (ad := ad) hPx.1 with ⟨hz, hq⟩ | ⟨y, hz, hq⟩
        · skip
          refine x_rf_n hq ?_
          refine x_astore_nN C (ls' := [(0, .ref (ad 18 w)), (1, .ref (ad 18 v)), (2, .null)]) dX6_comesFrom_17 (by decide) rfl ?_
          refine x_goto (tgt := 2) C dX6_comesFrom_18 (by decide) ?_
          refine x_aload_nN C dX6_comesFrom_2 2 rfl ?_
          refine x_ifnullN (tgt := 21) C dX6_comesFrom_3 (by decide) ?_
          refine x_iconst C dX6_comesFrom_21 0 (by decide) ?_
          refine x_zret C G dX6_comesFrom_22 (by first | exact Or.inl rfl | exact Or.inr rfl) ?_ (by decide) (by decide)
          refine ⟨?_, rfl⟩
          rw [bI_f (fun z9 => by
              rcases Anc_s.mp (hA.mp z9) with z8 | z8
              · exact hno z8
              · rw [hz] at z8; exact Anc_0 z8)]
        · skip
          refine x_rf_s hq ?_
          refine x_astore_n C (ls' := [(0, .ref (ad 18 w)), (1, .ref (ad 18 v)), (2, .ref (ad 18 y))]) dX6_comesFrom_17 (by decide) rfl ?_
          refine x_goto (tgt := 2) C dX6_comesFrom_18 (by decide) ?_
          exact ihLP _ (by omega) (by omega) (hA.trans (Anc_s.trans ⟨fun z9 => by
    rcases z9 with z8 | z8
    · exact absurd z8 hno
    · rw [show (y : Int) + 1 = c 18 x 2 from hz.symm]; exact z8, fun z9 => Or.inr (by rw [show (y : Int) + 1 = c 18 x 2 from hz.symm] at z9; exact z9)⟩))
      · skip
        refine x_iconst C dX6_comesFrom_11 1 (by decide) ?_
        refine x_zret C G dX6_comesFrom_12 (by first | exact Or.inl rfl | exact Or.inr rfl) ?_ (by decide) (by decide)
        refine ⟨?_, rfl⟩
        rw [bI_t (hA.mpr (Anc_s.mpr (Or.inl ((hR.2 18 x 18 v (lvW (by decide) hx) (lvW (by decide) hv) (by assumption)).2))))]
  exact LP (w + 1) _ (by omega) (by omega) (Iff.rfl)

theorem kX6_comesFromWorkBy_0 : Cond.fieldLink "LedgeLevels$Work" 34 "LedgeLevels$Work" "author" "I" ∈ wsX6_comesFromWorkBy := by decide +kernel
theorem kX6_comesFromWorkBy_1 : ∀ w ∈ wsX60, w ∈ wsX6_comesFromWorkBy := by decide +kernel
theorem kX6_comesFromWorkBy_2 : Cond.fieldLink "LedgeLevels$Work" 39 "LedgeLevels$Work" "parent" "LLedgeLevels$Work;" ∈ wsX6_comesFromWorkBy := by decide +kernel
set_option maxRecDepth 100000 in
set_option maxHeartbeats 1000000 in
theorem c_X6_comesFromWorkBy {l : Launch} {D : va_G} {A : Nat → Prop} {h : vh} {ad : AD} {c : CS} {L W : Nat} {w : Nat} {p : Int}  (hR : RepC D ad c L W h) (hw : w < W) (hP : ∀ i, i < W → 0 ≤ c 18 i 2 ∧ c 18 i 2 ≤ i) (hp : 0 ≤ p ∧ p ≤ 5) (hau : ∀ i, i < W → 0 ≤ c 18 i 1 ∧ c 18 i 1 ≤ 5) : MX l D A yX6_comesFromWorkBy wsX6_comesFromWorkBy { frames := 0, cells := 0, slots := 0, locals := 0 } [.ref (ad 18 w), vI p] h (fun rv h' => rv = some (vI (bI (Anc (fun i => c 18 i 2) (fun i => c 18 i 1 = p) ((w : Int) + 1)))) ∧ h' = h) := by
  refine MX.of (cc := cX6_comesFromWorkBy) (maxL := 3) (ret := (some .boolean)) [(0, .ref (ad 18 w)), (1, vI p)] (by decide +kernel) rfl rfl (Nat.le_of_ble_eq_true rfl) ?_
  intro κ C hkl G
  subst hkl
  have C : CX κ "LedgeLevels$Work" "comesFromWorkBy" cX6_comesFromWorkBy wsX6_comesFromWorkBy { frames := 0, cells := 0, slots := 0, locals := 0 } D A 3 := C
  have hiz : nq (D.1 20) (D.1 21) := cx_iz C
  refine x_aload_n C dX6_comesFromWorkBy_0 0 rfl ?_
  refine x_astore_n C (ls' := [(0, .ref (ad 18 w)), (1, vI p), (2, .ref (ad 18 w))]) dX6_comesFromWorkBy_1 (by decide) rfl ?_
  have LP : ∀ (N : Nat) (x : Nat)   (hx : x < W) (hm : x < N) (hA : Anc (fun i => c 18 i 2) (fun i => c 18 i 1 = p) ((w : Int) + 1) ↔ Anc (fun i => c 18 i 2) (fun i => c 18 i 1 = p) ((x : Int) + 1)), X κ 0 0 h [(0, .ref (ad 18 w)), (1, vI p), (2, .ref (ad 18 x))] 2 [] := by
    intro N
    induction N with
    | zero => intro x hx hm hA; exfalso; omega
    | succ N ihLP =>
      intro x hx hm hA
      have hPx := hP x hx
      have hax := hau x hx
      refine x_aload_n C dX6_comesFromWorkBy_2 2 rfl ?_
      refine x_ifnull C dX6_comesFromWorkBy_3 ?_
      refine x_aload_n C dX6_comesFromWorkBy_6 2 rfl ?_
      have f2 : h (ad 18 x) = some (eO 6 [vI (c 18 x 0), vI (c 18 x 1), va_rf (prf ad (c 18 x 2)), .ref (ad 19 x), vI (c 18 x 4), .ref (ad 22 x), vI (c 18 x 6), vI (c 18 x 7)]) := hR.1 18 x (lvW (by decide) (by omega))
      refine x_get C (v := vI (c 18 x 1)) f2 (T := TX6) rfl kX6_comesFromWorkBy_1 1 (by decide) kX6_comesFromWorkBy_0 rfl dX6_comesFromWorkBy_7 ?_
      refine x_iload_n C dX6_comesFromWorkBy_10 1 rfl ?_
      refine x_icmp_ne (tgt := 16) C dX6_comesFromWorkBy_11 (by decide) (by omega) (by omega) (fun c3 => ?_) (fun c3 => ?_)
      · skip
        have hno : ¬ ((fun i => c 18 i 1 = p)) x := by
            intro z9
            exact c3 (by first | exact z9 | exact congrArg (ad 18) z9)
        refine x_aload_n C dX6_comesFromWorkBy_16 2 rfl ?_
        refine x_get C (v := va_rf (prf ad (c 18 x 2))) f2 (T := TX6) rfl kX6_comesFromWorkBy_1 2 (by decide) kX6_comesFromWorkBy_2 rfl dX6_comesFromWorkBy_17 ?_
        rcases prf_or (ad := ad) hPx.1 with ⟨hz, hq⟩ | ⟨y, hz, hq⟩
        · skip
          refine x_rf_n hq ?_
          refine x_astore_nN C (ls' := [(0, .ref (ad 18 w)), (1, vI p), (2, .null)]) dX6_comesFromWorkBy_20 (by decide) rfl ?_
          refine x_goto (tgt := 2) C dX6_comesFromWorkBy_21 (by decide) ?_
          refine x_aload_nN C dX6_comesFromWorkBy_2 2 rfl ?_
          refine x_ifnullN (tgt := 24) C dX6_comesFromWorkBy_3 (by decide) ?_
          refine x_iconst C dX6_comesFromWorkBy_24 0 (by decide) ?_
          refine x_zret C G dX6_comesFromWorkBy_25 (by first | exact Or.inl rfl | exact Or.inr rfl) ?_ (by decide) (by decide)
          refine ⟨?_, rfl⟩
          rw [bI_f (fun z9 => by
              rcases Anc_s.mp (hA.mp z9) with z8 | z8
              · exact hno z8
              · rw [hz] at z8; exact Anc_0 z8)]
        · skip
          refine x_rf_s hq ?_
          refine x_astore_n C (ls' := [(0, .ref (ad 18 w)), (1, vI p), (2, .ref (ad 18 y))]) dX6_comesFromWorkBy_20 (by decide) rfl ?_
          refine x_goto (tgt := 2) C dX6_comesFromWorkBy_21 (by decide) ?_
          exact ihLP _ (by omega) (by omega) (hA.trans (Anc_s.trans ⟨fun z9 => by
    rcases z9 with z8 | z8
    · exact absurd z8 hno
    · rw [show (y : Int) + 1 = c 18 x 2 from hz.symm]; exact z8, fun z9 => Or.inr (by rw [show (y : Int) + 1 = c 18 x 2 from hz.symm] at z9; exact z9)⟩))
      · skip
        refine x_iconst C dX6_comesFromWorkBy_14 1 (by decide) ?_
        refine x_zret C G dX6_comesFromWorkBy_15 (by first | exact Or.inl rfl | exact Or.inr rfl) ?_ (by decide) (by decide)
        refine ⟨?_, rfl⟩
        rw [bI_t (hA.mpr (Anc_s.mpr (Or.inl (by assumption))))]
  exact LP (w + 1) _ (by omega) (by omega) (Iff.rfl)


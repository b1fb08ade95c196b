/-! ===== the law's helpers over its arrays ===== -/
theorem gk_get {g : Nat → Int64} {o z : Int} (ho : 0 ≤ o) (hz : 0 ≤ z ∧ z < 96) : (lsr (g (Int.toNat (o + z / 16))) (4 * (z % 16)) &&& 15).toInt32 = iI (gk g o.toNat z.toNat) := by
  rw [show Int.toNat (o + z / 16) = o.toNat + z.toNat / 16 by omega, show 4 * (z % 16) = ((4 * (z.toNat % 16) : Nat) : Int) by omega, nb_get (by omega)]
  unfold gk
  rw [if_pos (by omega)]
theorem gk_r {g : Nat → Int64} {o z : Nat} : 0 ≤ gk g o z ∧ gk g o z < 16 := by
  unfold gk
  split
  · have := nb_lt (x := g (o + z / 16)) (j := z % 16)
    omega
  · omega
def gput (g : Nat → Int64) (o z k : Nat) : Nat → Int64 := vp_updL g (o + z / 16) (putL (g (o + z / 16)) (z % 16) k)
theorem gput_e {g : Nat → Int64} {o z k : Int} (ho : 0 ≤ o) (hz : 0 ≤ z ∧ z < 96) (hk : 0 ≤ k) : vp_updL g (Int.toNat (o + z / 16)) (g (Int.toNat (o + z / 16)) &&& (lsl 15 (4 * (z % 16)) ^^^ (-1)) ||| lsl (iI k).toInt64 (4 * (z % 16))) = gput g o.toNat z.toNat k.toNat := by
  unfold gput putL
  rw [show Int.toNat (o + z / 16) = o.toNat + z.toNat / 16 by omega, show 4 * (z % 16) = ((4 * (z.toNat % 16) : Nat) : Int) by omega, show ((k.toNat : Nat) : Int) = k by omega]
theorem gk_gput {g : Nat → Int64} {i i' z z' k : Nat} (hz : z < 96) (hz' : z' < 96) (hk : k < 16) : gk (gput g (6 * i) z k) (6 * i') z' = if i' = i ∧ z' = z then (k : Int) else gk g (6 * i') z' := by
  unfold gk gput
  rw [if_pos hz', if_pos hz']
  by_cases q : 6 * i' + z' / 16 = 6 * i + z / 16
  · rw [q]
    show (((nb (if _ = _ then _ else _) _ : Nat)) : Int) = _
    rw [if_pos rfl, nb_put (by omega) (by omega) hk]
    by_cases r : z' % 16 = z % 16
    · rw [if_pos r, if_pos (by omega)]
    · rw [if_neg r, if_neg (by omega)]
  · show (((nb (if _ = _ then _ else _) _ : Nat)) : Int) = _
    rw [if_neg q, if_neg (by omega)]
theorem lowx (a : Int32) : ∃ z : Int, 0 ≤ z ∧ z ≤ 2147483647 ∧ a &&& iI 2147483647 = iI z := by
  refine ⟨((a.toBitVec.toNat &&& 2147483647 : Nat) : Int), by omega, ?_, ?_⟩
  · have : a.toBitVec.toNat &&& 2147483647 ≤ 2147483647 := Nat.and_le_right
    omega
  · have e : a = iI ((a.toBitVec.toNat : Nat) : Int) := by
      apply Int32.toBitVec_inj.mp
      rw [iI_tB]
      simp
    exact (congrArg (fun x => x &&& iI 2147483647) e).trans (iI_and _ 2147483647)

def lowF (v : Int32) (n : Int) : Nat := ((v &&& iI 2147483647).toInt % n).toNat
theorem lowF_lt {v : Int32} {n : Int} (hn : 0 < n) : ((lowF v n : Nat) : Int) < n := by
  unfold lowF
  have h1 := Int.emod_nonneg ((v &&& iI 2147483647).toInt) (b := n) (by omega)
  have h2 := Int.emod_lt_of_pos ((v &&& iI 2147483647).toInt) hn
  omega
theorem lowF_e {v : Int32} {n z : Int} (hn : 0 < n) (h0 : 0 ≤ z) (h1 : z ≤ 2147483647) (h : v &&& iI 2147483647 = iI z) : ((lowF v n : Nat) : Int) = z % n := by
  unfold lowF
  rw [h, iI_toInt (by omega) h1]
  exact Int.toNat_of_nonneg (Int.emod_nonneg _ (by omega))

theorem kL_low_0 : Cond.constant "LedgeLevelsLaw" 9 (2147483647) ∈ wsL_low := by decide +kernel
set_option maxRecDepth 100000 in
set_option maxHeartbeats 1000000 in
theorem c_L_low {l : Launch} {D : va_G} {A : Nat → Prop} {h : vh} {v : Int32} {n : Int}  (hn : 0 < n ∧ n ≤ 1000) : MX l D A yL_low wsL_low { frames := 0, cells := 0, slots := 0, locals := 0 } [.int v, vI n] h (fun rv h' => rv = some (vI ((lowF v n : Nat) : Int)) ∧ h' = h ∧ (((lowF v n : Nat) : Int) < n)) := by
  refine MX.of (cc := cL_low) (maxL := 2) (ret := (some .int)) [(0, .int v), (1, vI n)] (by decide +kernel) rfl rfl (Nat.le_of_ble_eq_true rfl) ?_
  intro κ C hkl G
  subst hkl
  have C : CX κ "LedgeLevelsLaw" "low" cL_low wsL_low { frames := 0, cells := 0, slots := 0, locals := 0 } D A 2 := C
  have hiz : nq (D.1 20) (D.1 21) := cx_iz C
  obtain ⟨z9, hz0, hz1, hz2⟩ := lowx v
  have hz3 := lowF_e hn.1 hz0 hz1 hz2
  refine x_iload_n C dL_low_0 0 rfl ?_
  refine x_ldcI C (z := 2147483647) (by decide) kL_low_0 dL_low_1 ?_
  refine x_iandv C (z9) (hz2) dL_low_3 ?_
  refine x_iload_n C dL_low_4 1 rfl ?_
  refine x_irem C dL_low_5 (by omega) (by omega) (by omega) (by omega) ?_
  refine x_iret C G dL_low_6 ?_ (by decide) (by decide)
  exact ⟨by rw [hz3], rfl, by rw [hz3]; exact Int.emod_lt_of_pos _ hn.1⟩

theorem kL_get_0 : Cond.constantLong "LedgeLevelsLaw" 41 (15) ∈ wsL_get := by decide +kernel
set_option maxRecDepth 100000 in
set_option maxHeartbeats 1000000 in
theorem c_L_get {l : Launch} {D : va_G} {A : Nat → Prop} {h : vh} {gA : Nat} {g : Nat → Int64} {o z : Int} (hg : h gA = some (eJ D 60 g)) (ho : 0 ≤ o ∧ o ≤ 54) (hz : 0 ≤ z ∧ z < 96) : MX l D A yL_get wsL_get { frames := 0, cells := 0, slots := 0, locals := 0 } [.ref gA, vI o, vI z] h (fun rv h' => rv = some (vI (gk g o.toNat z.toNat)) ∧ h' = h) := by
  refine MX.of (cc := cL_get) (maxL := 3) (ret := (some .int)) [(0, .ref gA), (1, vI o), (2, vI z)] (by decide +kernel) rfl rfl (Nat.le_of_ble_eq_true rfl) ?_
  intro κ C hkl G
  subst hkl
  have C : CX κ "LedgeLevelsLaw" "get" cL_get wsL_get { frames := 0, cells := 0, slots := 0, locals := 0 } D A 3 := C
  have hiz : nq (D.1 20) (D.1 21) := cx_iz C
  refine x_aload_n C dL_get_0 0 rfl ?_
  refine x_iload_n C dL_get_1 1 rfl ?_
  refine x_iload_n C dL_get_2 2 rfl ?_
  refine x_bipush C dL_get_3 16 (by decide) ?_
  refine x_idiv C dL_get_5 (by omega) (by omega) (by omega) (by omega) ?_
  refine x_iadd C dL_get_6 ?_
  refine x_lald C hg ⟨by omega, by omega⟩ (by decide) dL_get_7 ?_
  refine x_iconst C dL_get_8 4 (by decide) ?_
  refine x_iload_n C dL_get_9 2 rfl ?_
  refine x_bipush C dL_get_10 16 (by decide) ?_
  refine x_irem C dL_get_12 (by omega) (by omega) (by omega) (by omega) ?_
  refine x_imul C dL_get_13 ?_
  refine x_lshr C dL_get_14 ?_
  refine x_ldc2 C kL_get_0 dL_get_15 ?_
  refine x_land C dL_get_18 ?_
  refine x_l2i C (gk g o.toNat z.toNat) (gk_get ho.1 hz) dL_get_19 ?_
  refine x_iret C G dL_get_20 ?_ (by decide) (by decide)
  exact ⟨rfl, rfl⟩

theorem kL_put_0 : Cond.constantLong "LedgeLevelsLaw" 41 (15) ∈ wsL_put := by decide +kernel
theorem kL_put_1 : Cond.constantLong "LedgeLevelsLaw" 43 (-1) ∈ wsL_put := by decide +kernel
set_option maxRecDepth 100000 in
set_option maxHeartbeats 1000000 in
theorem c_L_put {l : Launch} {D : va_G} {A : Nat → Prop} {h : vh} {gA : Nat} {g : Nat → Int64} {o z k : Int} (hg : h gA = some (eJ D 60 g)) (ho : 0 ≤ o ∧ o ≤ 54) (hz : 0 ≤ z ∧ z < 96) (hk : 0 ≤ k ∧ k ≤ 8) : MX l D A yL_put wsL_put { frames := 0, cells := 0, slots := 0, locals := 0 } [.ref gA, vI o, vI z, vI k] h (fun rv h' => rv = none ∧ h' = hu h gA (eJ D 60 (gput g o.toNat z.toNat k.toNat))) := by
  refine MX.of (cc := cL_put) (maxL := 5) (ret := none) [(0, .ref gA), (1, vI o), (2, vI z), (3, vI k)] (by decide +kernel) rfl rfl (Nat.le_of_ble_eq_true rfl) ?_
  intro κ C hkl G
  subst hkl
  have C : CX κ "LedgeLevelsLaw" "put" cL_put wsL_put { frames := 0, cells := 0, slots := 0, locals := 0 } D A 5 := C
  have hiz : nq (D.1 20) (D.1 21) := cx_iz C
  refine x_iconst C dL_put_0 4 (by decide) ?_
  refine x_iload_n C dL_put_1 2 rfl ?_
  refine x_bipush C dL_put_2 16 (by decide) ?_
  refine x_irem C dL_put_4 (by omega) (by omega) (by omega) (by omega) ?_
  refine x_imul C dL_put_5 ?_
  refine x_istore C (ls' := [(0, .ref gA), (1, vI o), (2, vI z), (3, vI k), (4, vI (4 * (z % 16)))]) dL_put_6 (by decide) rfl ?_
  refine x_aload_n C dL_put_8 0 rfl ?_
  refine x_iload_n C dL_put_9 1 rfl ?_
  refine x_iload_n C dL_put_10 2 rfl ?_
  refine x_bipush C dL_put_11 16 (by decide) ?_
  refine x_idiv C dL_put_13 (by omega) (by omega) (by omega) (by omega) ?_
  refine x_iadd C dL_put_14 ?_
  refine x_aload_n C dL_put_15 0 rfl ?_
  refine x_iload_n C dL_put_16 1 rfl ?_
  refine x_iload_n C dL_put_17 2 rfl ?_
  refine x_bipush C dL_put_18 16 (by decide) ?_
  refine x_idiv C dL_put_20 (by omega) (by omega) (by omega) (by omega) ?_
  refine x_iadd C dL_put_21 ?_
  refine x_lald C hg ⟨by omega, by omega⟩ (by decide) dL_put_22 ?_
  refine x_ldc2 C kL_put_0 dL_put_23 ?_
  refine x_iload C dL_put_26 4 rfl ?_
  refine x_lshl C dL_put_28 ?_
  refine x_ldc2 C kL_put_1 dL_put_29 ?_
  refine x_lxor C dL_put_32 ?_
  refine x_land C dL_put_33 ?_
  refine x_iload_n C dL_put_34 3 rfl ?_
  refine x_i2l C dL_put_35 ?_
  refine x_iload C dL_put_36 4 rfl ?_
  refine x_lshl C dL_put_38 ?_
  refine x_lor C dL_put_39 ?_
  refine x_last C hg ⟨by omega, by omega⟩ (by decide) dL_put_40 (x_hn (fun h1 e2 => ?_))
  have f3 : h1 gA = some (eJ D 60 (vp_updL g (Int.toNat (o + (z / 16))) (((g (Int.toNat (o + (z / 16)))) &&& ((lsl 15 (4 * (z % 16))) ^^^ ((-1)))) ||| (lsl ((iI k).toInt64) (4 * (z % 16)))))) := by rw [e2]; exact hu_s
  refine x_vret C G dL_put_41 ?_ (by decide) (by decide)
  exact ⟨rfl, by rw [e2, gput_e ho.1 hz hk.1]⟩

set_option maxRecDepth 100000 in
set_option maxHeartbeats 1000000 in
theorem c_L_keys {l : Launch} {D : va_G} {A : Nat → Prop} {h : vh} {gA : Nat} {g : Nat → Int64} {o b : Int} (hg : h gA = some (eJ D 60 g)) (ho : 0 ≤ o ∧ o ≤ 54) (hb : 0 ≤ b ∧ b ≤ 96) : MX l D A yL_keys wsL_keys { frames := 1, cells := 0, slots := 0, locals := 22 } [.ref gA, vI o, vI b] h (fun rv h' => rv = some (vI ((lyA (gk g o.toNat) b.toNat : Nat) : Int)) ∧ h' = h) := by
  refine MX.of (cc := cL_keys) (maxL := 5) (ret := (some .int)) [(0, .ref gA), (1, vI o), (2, vI b)] (by decide +kernel) rfl rfl (Nat.le_of_ble_eq_true rfl) ?_
  intro κ C hkl G
  subst hkl
  have C : CX κ "LedgeLevelsLaw" "keys" cL_keys wsL_keys { frames := 1, cells := 0, slots := 0, locals := 22 } D A 5 := C
  have hiz : nq (D.1 20) (D.1 21) := cx_iz C
  refine x_iconst C dL_keys_0 0 (by decide) ?_
  refine x_istore_n C (ls' := [(0, .ref gA), (1, vI o), (2, vI b), (3, vI 0)]) dL_keys_1 (by decide) rfl ?_
  refine x_iconst C dL_keys_2 0 (by decide) ?_
  refine x_istore C (ls' := [(0, .ref gA), (1, vI o), (2, vI b), (3, vI 0), (4, vI 0)]) dL_keys_3 (by decide) rfl ?_
  have LP : ∀ (N : Nat) (s : Int) (n : Nat)   (hn : n ≤ b.toNat) (hN : b.toNat - n < N) (hs9 : s = ((lyA (gk g o.toNat) n : Nat) : Int)), X κ 0 0 h [(0, .ref gA), (1, vI o), (2, vI b), (3, vI s), (4, vI ((n : Nat) : Int))] 5 [] := by
    intro N
    induction N with
    | zero => intro s n hn hN hs9; exfalso; omega
    | succ N ihLP =>
      intro s n hn hN hs9
      have hr9 := gk_r (g := g) (o := o.toNat) (z := n)
      have hst : lyA (gk g o.toNat) (n + 1) = lyA (gk g o.toNat) n + (if gk g o.toNat n = 2 then lyA (gk g o.toNat) n + 1 else 0) := rfl
      refine x_iload C dL_keys_5 4 rfl ?_
      refine x_iload_n C dL_keys_7 2 rfl ?_
      refine x_icmp_ge (tgt := 38) C dL_keys_8 (by decide) (by omega) (by omega) (fun c2 => ?_) (fun c2 => ?_)
      · skip
        refine x_iload_n C dL_keys_38 3 rfl ?_
        refine x_iret C G dL_keys_39 ?_ (by decide) (by decide)
        obtain rfl : n = b.toNat := by omega
        exact ⟨by rw [hs9], rfl⟩
      · skip
        refine x_iload_n C dL_keys_11 3 rfl ?_
        refine x_aload_n C dL_keys_12 0 rfl ?_
        refine x_iload_n C dL_keys_13 1 rfl ?_
        refine x_iload C dL_keys_14 4 rfl ?_
        refine x_callSJ C (n := 3) (As := [.ref gA, vI o, vI ((n : Nat) : Int)]) (rest := [vI s]) (c_L_get hg (by omega) (by omega)) gL_keys_L_get (by decide +kernel) rfl rfl rfl (Nat.le_of_ble_eq_true rfl) ⟨by decide, by decide⟩ ⟨(by decide), (by decide)⟩ dL_keys_16 (fun rv3 h4 hp5 => ?_)
        obtain ⟨rfl, e6⟩ := hp5
        obtain rfl := e6.symm
        refine x_topv (show gk g o.toNat n = gk g o.toNat n from by rfl) ?_
        refine x_iconst C dL_keys_19 2 (by decide) ?_
        refine x_icmp_ne (tgt := 29) C dL_keys_20 (by decide) (by omega) (by omega) (fun c7 => ?_) (fun c7 => ?_)
        · skip
          refine x_iconst C dL_keys_29 0 (by decide) ?_
          refine x_iadd C dL_keys_30 ?_
          refine x_istore_n C (ls' := [(0, .ref gA), (1, vI o), (2, vI b), (3, vI (s + 0)), (4, vI ((n : Nat) : Int))]) dL_keys_31 (by decide) rfl ?_
          refine x_iinc C (x := ((n : Nat) : Int)) (ls' := [(0, .ref gA), (1, vI o), (2, vI b), (3, vI (s + 0)), (4, vI ((((n : Nat) : Int)) + 1))]) dL_keys_32 4 rfl (by decide) rfl ?_
          refine x_goto (tgt := 5) C dL_keys_35 (by decide) ?_
          exact ihLP (s + 0) (n + 1) (by omega) (by omega) (by rw [hst]; split <;> omega)
        · skip
          refine x_iload_n C dL_keys_23 3 rfl ?_
          refine x_iconst C dL_keys_24 1 (by decide) ?_
          refine x_iadd C dL_keys_25 ?_
          refine x_goto (tgt := 30) C dL_keys_26 (by decide) ?_
          refine x_iadd C dL_keys_30 ?_
          refine x_istore_n C (ls' := [(0, .ref gA), (1, vI o), (2, vI b), (3, vI (s + (s + 1))), (4, vI ((n : Nat) : Int))]) dL_keys_31 (by decide) rfl ?_
          refine x_iinc C (x := ((n : Nat) : Int)) (ls' := [(0, .ref gA), (1, vI o), (2, vI b), (3, vI (s + (s + 1))), (4, vI ((((n : Nat) : Int)) + 1))]) dL_keys_32 4 rfl (by decide) rfl ?_
          refine x_goto (tgt := 5) C dL_keys_35 (by decide) ?_
          exact ihLP (s + (s + 1)) (n + 1) (by omega) (by omega) (by rw [hst]; split <;> omega)
  exact LP (b.toNat + 1) 0 0 (by omega) (by omega) (rfl)

theorem sol_l {f : Nat → Int} {al t : Nat} {p : Int} (hp : 0 ≤ p ∧ p < 96) : sol f al t p ↔ (f p.toNat = 1 ∨ 6 ≤ f p.toNat ∨ (f p.toNat = 3 ∧ t ≠ al)) := by
  unfold sol kAt
  rw [if_pos hp]
  constructor
  · intro h; omega
  · intro h; omega
theorem sol_out {f : Nat → Int} {al t : Nat} {p : Int} (hp : 96 ≤ p) : ¬ sol f al t p := by
  unfold sol kAt
  rw [if_neg (by omega)]
  omega
theorem bI_0 {p : Prop} (h : bI p = 0) : ¬ p := fun z => by rw [bI_t z] at h; exact absurd h (by decide)
theorem svI {a b : Int} (h : a = b) : (some (vI a) : Option Value) = some (vI b) := by rw [h]

set_option maxRecDepth 100000 in
set_option maxHeartbeats 1000000 in
theorem c_L_solid {l : Launch} {D : va_G} {A : Nat → Prop} {h : vh} {gA : Nat} {g : Nat → Int64} {z o : Int} {t al : Nat} (hg : h gA = some (eJ D 60 g)) (ho : 0 ≤ o ∧ o ≤ 54) (hz : 0 ≤ z ∧ z < 96) (ht : t < 8) (hal : al < 8) : MX l D A yL_solid wsL_solid { frames := 1, cells := 0, slots := 0, locals := 22 } [vI z, vI ((t : Nat) : Int), vI ((al : Nat) : Int), vI o, .ref gA] h (fun rv h' => rv = some (vI (bI (sol (gk g o.toNat) al t z))) ∧ h' = h) := by
  refine MX.of (cc := cL_solid) (maxL := 6) (ret := (some .boolean)) [(0, vI z), (1, vI ((t : Nat) : Int)), (2, vI ((al : Nat) : Int)), (3, vI o), (4, .ref gA)] (by decide +kernel) rfl rfl (Nat.le_of_ble_eq_true rfl) ?_
  intro κ C hkl G
  subst hkl
  have C : CX κ "LedgeLevelsLaw" "solid" cL_solid wsL_solid { frames := 1, cells := 0, slots := 0, locals := 22 } D A 6 := C
  have hiz : nq (D.1 20) (D.1 21) := cx_iz C
  have hr9 := gk_r (g := g) (o := o.toNat) (z := z.toNat)
  have hs9 := sol_l (f := gk g o.toNat) (al := al) (t := t) hz
  refine x_aload C dL_solid_0 4 rfl ?_
  refine x_iload_n C dL_solid_2 3 rfl ?_
  refine x_iload_n C dL_solid_3 0 rfl ?_
  refine x_callSJ C (n := 3) (As := [.ref gA, vI o, vI z]) (rest := []) (c_L_get hg (by omega) (by omega)) gL_solid_L_get (by decide +kernel) rfl rfl rfl (Nat.le_of_ble_eq_true rfl) ⟨by decide, by decide⟩ ⟨(by decide), (by decide)⟩ dL_solid_4 (fun rv1 h2 hp3 => ?_)
  obtain ⟨rfl, e4⟩ := hp3
  obtain rfl := e4.symm
  refine x_istore C (ls' := [(0, vI z), (1, vI ((t : Nat) : Int)), (2, vI ((al : Nat) : Int)), (3, vI o), (4, .ref gA), (5, vI (gk g o.toNat z.toNat))]) dL_solid_7 (by decide) rfl ?_
  refine x_iload C dL_solid_9 5 rfl ?_
  refine x_iconst C dL_solid_11 1 (by decide) ?_
  refine x_icmp_eq (tgt := 32) C dL_solid_12 (by decide) (by omega) (by omega) (fun c5 => ?_) (fun c5 => ?_)
  · skip
    refine x_iconst C dL_solid_32 1 (by decide) ?_
    refine x_goto (tgt := 37) C dL_solid_33 (by decide) ?_
    refine x_zret C G dL_solid_37 (by first | exact Or.inl rfl | exact Or.inr rfl) ?_ (by decide) (by decide)
    exact ⟨by first | rw [bI_t (hs9.mpr (by omega))] | rw [bI_f (fun z9 => by have z8 := hs9.mp z9; omega)], rfl⟩
  · skip
    refine x_iload C dL_solid_15 5 rfl ?_
    refine x_iconst C dL_solid_17 5 (by decide) ?_
    refine x_icmp_gt (tgt := 32) C dL_solid_18 (by decide) (by omega) (by omega) (fun c6 => ?_) (fun c6 => ?_)
    · skip
      refine x_iconst C dL_solid_32 1 (by decide) ?_
      refine x_goto (tgt := 37) C dL_solid_33 (by decide) ?_
      refine x_zret C G dL_solid_37 (by first | exact Or.inl rfl | exact Or.inr rfl) ?_ (by decide) (by decide)
      exact ⟨by first | rw [bI_t (hs9.mpr (by omega))] | rw [bI_f (fun z9 => by have z8 := hs9.mp z9; omega)], rfl⟩
    · skip
      refine x_iload C dL_solid_21 5 rfl ?_
      refine x_iconst C dL_solid_23 3 (by decide) ?_
      refine x_icmp_ne (tgt := 36) C dL_solid_24 (by decide) (by omega) (by omega) (fun c7 => ?_) (fun c7 => ?_)
      · skip
        refine x_iconst C dL_solid_36 0 (by decide) ?_
        refine x_zret C G dL_solid_37 (by first | exact Or.inl rfl | exact Or.inr rfl) ?_ (by decide) (by decide)
        exact ⟨by first | rw [bI_t (hs9.mpr (by omega))] | rw [bI_f (fun z9 => by have z8 := hs9.mp z9; omega)], rfl⟩
      · skip
        refine x_iload_n C dL_solid_27 1 rfl ?_
        refine x_iload_n C dL_solid_28 2 rfl ?_
        refine x_icmp_eq (tgt := 36) C dL_solid_29 (by decide) (by omega) (by omega) (fun c8 => ?_) (fun c8 => ?_)
        · skip
          refine x_iconst C dL_solid_36 0 (by decide) ?_
          refine x_zret C G dL_solid_37 (by first | exact Or.inl rfl | exact Or.inr rfl) ?_ (by decide) (by decide)
          exact ⟨by first | rw [bI_t (hs9.mpr (by omega))] | rw [bI_f (fun z9 => by have z8 := hs9.mp z9; omega)], rfl⟩
        · skip
          refine x_iconst C dL_solid_32 1 (by decide) ?_
          refine x_goto (tgt := 37) C dL_solid_33 (by decide) ?_
          refine x_zret C G dL_solid_37 (by first | exact Or.inl rfl | exact Or.inr rfl) ?_ (by decide) (by decide)
          exact ⟨by first | rw [bI_t (hs9.mpr (by omega))] | rw [bI_f (fun z9 => by have z8 := hs9.mp z9; omega)], rfl⟩

theorem kbr_l {f : Nat → Int} {z : Int} (hz : 0 ≤ z ∧ z < 96) : kbr f (fun _ => 0) z = if f z.toNat = 2 then lyA f z.toNat + 1 else 0 := by
  unfold kbr lyB
  rw [if_pos (by omega)]
  split <;> rfl

theorem kL_comes_0 : Cond.constant "LedgeLevelsLaw" 54 (32768) ∈ wsL_comes := by decide +kernel
set_option maxRecDepth 100000 in
set_option maxHeartbeats 1000000 in
theorem c_L_comes {l : Launch} {D : va_G} {A : Nat → Prop} {h : vh} {gA : Nat} {g : Nat → Int64} {z v o : Int} {t : Nat} (hg : h gA = some (eJ D 60 g)) (ho : 0 ≤ o ∧ o ≤ 54) (hz : 0 ≤ z ∧ z < 96) (hv : -8 ≤ v ∧ v ≤ 8) (ht : t < 8) (hA : lyA (gk g o.toNat) 96 ≤ 7) : MX l D A yL_comes wsL_comes { frames := 2, cells := 0, slots := 0, locals := 46 } [vI z, vI v, vI ((t : Nat) : Int), vI o, .ref gA] h (fun rv h' => rv = some (vI (z + 128 * (v + 4) + 1024 * ((t ||| kbr (gk g o.toNat) (fun _ => 0) z : Nat) : Int) + (if gk g o.toNat z.toNat = 4 then 32768 else if gk g o.toNat z.toNat = 5 then 16384 else 0))) ∧ h' = h) := by
  refine MX.of (cc := cL_comes) (maxL := 7) (ret := (some .int)) [(0, vI z), (1, vI v), (2, vI ((t : Nat) : Int)), (3, vI o), (4, .ref gA)] (by decide +kernel) rfl rfl (Nat.le_of_ble_eq_true rfl) ?_
  intro κ C hkl G
  subst hkl
  have C : CX κ "LedgeLevelsLaw" "comes" cL_comes wsL_comes { frames := 2, cells := 0, slots := 0, locals := 46 } D A 7 := C
  have hiz : nq (D.1 20) (D.1 21) := cx_iz C
  have hr9 := gk_r (g := g) (o := o.toNat) (z := z.toNat)
  have hk9 : kbr (gk g o.toNat) (fun _ => 0) z = if gk g o.toNat z.toNat = 2 then lyA (gk g o.toNat) z.toNat + 1 else 0 := kbr_l hz
  refine x_aload C dL_comes_0 4 rfl ?_
  refine x_iload_n C dL_comes_2 3 rfl ?_
  refine x_iload_n C dL_comes_3 0 rfl ?_
  refine x_callSJ C (n := 3) (As := [.ref gA, vI o, vI z]) (rest := []) (c_L_get hg (by omega) (by omega)) gL_comes_L_get (by decide +kernel) rfl rfl rfl (Nat.le_of_ble_eq_true rfl) ⟨by decide, by decide⟩ ⟨(by decide), (by decide)⟩ dL_comes_4 (fun rv1 h2 hp3 => ?_)
  obtain ⟨rfl, e4⟩ := hp3
  obtain rfl := e4.symm
  refine x_istore C (ls' := [(0, vI z), (1, vI v), (2, vI ((t : Nat) : Int)), (3, vI o), (4, .ref gA), (5, vI (gk g o.toNat z.toNat))]) dL_comes_7 (by decide) rfl ?_
  refine x_iload C dL_comes_9 5 rfl ?_
  refine x_iconst C dL_comes_11 2 (by decide) ?_
  refine x_icmp_ne (tgt := 29) C dL_comes_12 (by decide) (by omega) (by omega) (fun c5 => ?_) (fun c5 => ?_)
  · skip
    refine x_iload_n C dL_comes_29 2 rfl ?_
    refine x_istore C (ls' := [(0, vI z), (1, vI v), (2, vI ((t : Nat) : Int)), (3, vI o), (4, .ref gA), (5, vI (gk g o.toNat z.toNat)), (6, vI ((t : Nat) : Int))]) dL_comes_30 (by decide) rfl ?_
    refine x_iload_n C dL_comes_32 0 rfl ?_
    refine x_sipush C dL_comes_33 128 (by decide) ?_
    refine x_iload_n C dL_comes_36 1 rfl ?_
    refine x_iconst C dL_comes_37 4 (by decide) ?_
    refine x_iadd C dL_comes_38 ?_
    refine x_imul C dL_comes_39 ?_
    refine x_iadd C dL_comes_40 ?_
    refine x_sipush C dL_comes_41 1024 (by decide) ?_
    refine x_iload C dL_comes_44 6 rfl ?_
    refine x_imul C dL_comes_46 ?_
    refine x_iadd C dL_comes_47 ?_
    refine x_iload C dL_comes_48 5 rfl ?_
    refine x_iconst C dL_comes_50 4 (by decide) ?_
    refine x_icmp_ne (tgt := 59) C dL_comes_51 (by decide) (by omega) (by omega) (fun c6 => ?_) (fun c6 => ?_)
    · skip
      refine x_iload C dL_comes_59 5 rfl ?_
      refine x_iconst C dL_comes_61 5 (by decide) ?_
      refine x_icmp_ne (tgt := 71) C dL_comes_62 (by decide) (by omega) (by omega) (fun c7 => ?_) (fun c7 => ?_)
      · skip
        refine x_iconst C dL_comes_71 0 (by decide) ?_
        refine x_iadd C dL_comes_72 ?_
        refine x_iret C G dL_comes_73 ?_ (by decide) (by decide)
        exact ⟨by
          congr 3
          rw [hk9]
          repeat (first | rw [if_pos (by assumption)] | rw [if_neg (by assumption)] | rw [if_neg (by omega)] | rw [if_pos (by omega)])
          all_goals first | rfl | omega | rw [Nat.or_zero] | (rw [Nat.or_zero]; omega), rfl⟩
      · skip
        refine x_sipush C dL_comes_65 16384 (by decide) ?_
        refine x_goto (tgt := 72) C dL_comes_68 (by decide) ?_
        refine x_iadd C dL_comes_72 ?_
        refine x_iret C G dL_comes_73 ?_ (by decide) (by decide)
        exact ⟨by
          congr 3
          rw [hk9]
          repeat (first | rw [if_pos (by assumption)] | rw [if_neg (by assumption)] | rw [if_neg (by omega)] | rw [if_pos (by omega)])
          all_goals first | rfl | omega | rw [Nat.or_zero] | (rw [Nat.or_zero]; omega), rfl⟩
    · skip
      refine x_ldcI C (z := 32768) (by decide) kL_comes_0 dL_comes_54 ?_
      refine x_goto (tgt := 72) C dL_comes_56 (by decide) ?_
      refine x_iadd C dL_comes_72 ?_
      refine x_iret C G dL_comes_73 ?_ (by decide) (by decide)
      exact ⟨by
        congr 3
        rw [hk9]
        repeat (first | rw [if_pos (by assumption)] | rw [if_neg (by assumption)] | rw [if_neg (by omega)] | rw [if_pos (by omega)])
        all_goals first | rfl | omega | rw [Nat.or_zero] | (rw [Nat.or_zero]; omega), rfl⟩
  · skip
    refine x_iload_n C dL_comes_15 2 rfl ?_
    refine x_aload C dL_comes_16 4 rfl ?_
    refine x_iload_n C dL_comes_18 3 rfl ?_
    refine x_iload_n C dL_comes_19 0 rfl ?_
    refine x_callSJ C (n := 3) (As := [.ref gA, vI o, vI z]) (rest := [vI ((t : Nat) : Int)]) (c_L_keys hg (by omega) (by omega)) gL_comes_L_keys (by decide +kernel) rfl rfl rfl (Nat.le_of_ble_eq_true rfl) ⟨by decide, by decide⟩ ⟨(by decide), (by decide)⟩ dL_comes_20 (fun rv8 h9 hp10 => ?_)
    obtain ⟨rfl, e11⟩ := hp10
    obtain rfl := e11.symm
    refine x_iconst C dL_comes_23 1 (by decide) ?_
    refine x_iadd C dL_comes_24 ?_
    refine x_iorv C (((t ||| (lyA (gk g o.toNat) z.toNat + 1) : Nat) : Int)) (iI_or t (lyA (gk g o.toNat) z.toNat + 1)) dL_comes_25 ?_
    refine x_goto (tgt := 30) C dL_comes_26 (by decide) ?_
    refine x_istore C (ls' := [(0, vI z), (1, vI v), (2, vI ((t : Nat) : Int)), (3, vI o), (4, .ref gA), (5, vI (gk g o.toNat z.toNat)), (6, vI ((t ||| (lyA (gk g o.toNat) z.toNat + 1) : Nat) : Int))]) dL_comes_30 (by decide) rfl ?_
    refine x_iload_n C dL_comes_32 0 rfl ?_
    refine x_sipush C dL_comes_33 128 (by decide) ?_
    refine x_iload_n C dL_comes_36 1 rfl ?_
    refine x_iconst C dL_comes_37 4 (by decide) ?_
    refine x_iadd C dL_comes_38 ?_
    refine x_imul C dL_comes_39 ?_
    refine x_iadd C dL_comes_40 ?_
    refine x_sipush C dL_comes_41 1024 (by decide) ?_
    refine x_iload C dL_comes_44 6 rfl ?_
    refine x_imul C dL_comes_46 ?_
    refine x_iadd C dL_comes_47 ?_
    refine x_iload C dL_comes_48 5 rfl ?_
    refine x_iconst C dL_comes_50 4 (by decide) ?_
    refine x_icmp_ne (tgt := 59) C dL_comes_51 (by decide) (by omega) (by omega) (fun c12 => ?_) (fun c12 => ?_)
    · skip
      refine x_iload C dL_comes_59 5 rfl ?_
      refine x_iconst C dL_comes_61 5 (by decide) ?_
      refine x_icmp_ne (tgt := 71) C dL_comes_62 (by decide) (by omega) (by omega) (fun c13 => ?_) (fun c13 => ?_)
      · skip
        refine x_iconst C dL_comes_71 0 (by decide) ?_
        refine x_iadd C dL_comes_72 ?_
        refine x_iret C G dL_comes_73 ?_ (by decide) (by decide)
        exact ⟨by
          congr 3
          rw [hk9]
          repeat (first | rw [if_pos (by assumption)] | rw [if_neg (by assumption)] | rw [if_neg (by omega)] | rw [if_pos (by omega)])
          all_goals first | rfl | omega | rw [Nat.or_zero] | (rw [Nat.or_zero]; omega), rfl⟩
      · skip
        refine x_sipush C dL_comes_65 16384 (by decide) ?_
        refine x_goto (tgt := 72) C dL_comes_68 (by decide) ?_
        refine x_iadd C dL_comes_72 ?_
        refine x_iret C G dL_comes_73 ?_ (by decide) (by decide)
        exact ⟨by
          congr 3
          rw [hk9]
          repeat (first | rw [if_pos (by assumption)] | rw [if_neg (by assumption)] | rw [if_neg (by omega)] | rw [if_pos (by omega)])
          all_goals first | rfl | omega | rw [Nat.or_zero] | (rw [Nat.or_zero]; omega), rfl⟩
    · skip
      refine x_ldcI C (z := 32768) (by decide) kL_comes_0 dL_comes_54 ?_
      refine x_goto (tgt := 72) C dL_comes_56 (by decide) ?_
      refine x_iadd C dL_comes_72 ?_
      refine x_iret C G dL_comes_73 ?_ (by decide) (by decide)
      exact ⟨by
        congr 3
        rw [hk9]
        repeat (first | rw [if_pos (by assumption)] | rw [if_neg (by assumption)] | rw [if_neg (by omega)] | rw [if_pos (by omega)])
        all_goals first | rfl | omega | rw [Nat.or_zero] | (rw [Nat.or_zero]; omega), rfl⟩

set_option maxRecDepth 100000 in
set_option maxHeartbeats 1000000 in
theorem c_L_start {l : Launch} {D : va_G} {A : Nat → Prop} {h : vh} {gA : Nat} {g : Nat → Int64} {z o : Int} (hg : h gA = some (eJ D 60 g)) (ho : 0 ≤ o ∧ o ≤ 54) (hz : 0 ≤ z ∧ z < 96) (hA : lyA (gk g o.toNat) 96 ≤ 7) : MX l D A yL_start wsL_start { frames := 3, cells := 0, slots := 0, locals := 72 } [vI z, vI o, .ref gA] h (fun rv h' => rv = some (vI (z + 512 + 1024 * ((kbr (gk g o.toNat) (fun _ => 0) z : Nat) : Int) + (if gk g o.toNat z.toNat = 4 then 32768 else if gk g o.toNat z.toNat = 5 then 16384 else 0))) ∧ h' = h) := by
  refine MX.of (cc := cL_start) (maxL := 3) (ret := (some .int)) [(0, vI z), (1, vI o), (2, .ref gA)] (by decide +kernel) rfl rfl (Nat.le_of_ble_eq_true rfl) ?_
  intro κ C hkl G
  subst hkl
  have C : CX κ "LedgeLevelsLaw" "start" cL_start wsL_start { frames := 3, cells := 0, slots := 0, locals := 72 } D A 3 := C
  have hiz : nq (D.1 20) (D.1 21) := cx_iz C
  refine x_iload_n C dL_start_0 0 rfl ?_
  refine x_iconst C dL_start_1 0 (by decide) ?_
  refine x_iconst C dL_start_2 0 (by decide) ?_
  refine x_iload_n C dL_start_3 1 rfl ?_
  refine x_aload_n C dL_start_4 2 rfl ?_
  refine x_callSJ C (n := 5) (As := [vI z, vI 0, vI 0, vI o, .ref gA]) (rest := []) (c_L_comes (t := 0) hg (by omega) (by omega) (by omega) (by omega) (by omega)) gL_start_L_comes (by decide +kernel) rfl rfl rfl (Nat.le_of_ble_eq_true rfl) ⟨by decide, by decide⟩ ⟨(by decide), (by decide)⟩ dL_start_5 (fun rv1 h2 hp3 => ?_)
  obtain ⟨rfl, e4⟩ := hp3
  obtain rfl := e4.symm
  refine x_iret C G dL_start_8 ?_ (by decide) (by decide)
  exact ⟨svI (by rw [Nat.zero_or]; omega), rfl⟩


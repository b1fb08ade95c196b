/-! ===== the grid: its cells f, its key places q, the bits a of the places that are taken ===== -/
def kAt (f : Nat → Int) (z : Int) : Int := if 0 ≤ z ∧ z < 96 then f z.toNat else 0
def kb3 (q : Nat → Int) (c : Int) : Nat := if q 0 = c then 1 else if q 1 = c then 2 else if q 2 = c then 4 else 0
def ckq (q : Nat → Int) (x y : Int) : Nat → Int := if q 0 = x then fu q 0 y else if q 1 = x then fu q 1 y else if q 2 = x then fu q 2 y else q
def cka (q : Nat → Int) (a : Nat) (x : Int) : Nat := if q 0 = x then a ^^^ 1 else if q 1 = x then a ^^^ 2 else if q 2 = x then a ^^^ 4 else a
/-- a cell is set: the row of key places, the bits -/
def gpq (f q : Nat → Int) (c k : Int) : Nat → Int := let q1 := if f c.toNat = 2 then ckq q c (-1) else q; if k = 2 then ckq q1 (-1) c else q1
def gpa (f q : Nat → Int) (a : Nat) (c k : Int) : Nat := let q1 := if f c.toNat = 2 then ckq q c (-1) else q; let a1 := if f c.toNat = 2 then cka q a c else a; if k = 2 then cka q1 a1 (-1) else a1
/-- all cells of g, the first n of them, are set -/
def gnf (g f : Nat → Int) : Nat → Nat → Int
  | 0 => f
  | n + 1 => fu (gnf g f n) n (g n)
def gnq (g f q : Nat → Int) : Nat → Nat → Int
  | 0 => q
  | n + 1 => gpq (gnf g f n) (gnq g f q n) n (g n)
def gna (g f q : Nat → Int) (a : Nat) : Nat → Nat
  | 0 => a
  | n + 1 => gpa (gnf g f n) (gnq g f q n) (gna g f q a n) n (g n)
theorem hu_none {h : vh} {a q : Nat} {e : va_E} (n : hu h a e q = none) : h q = none ∧ q ≠ a := by
  by_cases b : q = a
  · subst b; rw [hu_s] at n; cases n
  · rw [hu_n b] at n; exact ⟨n, b⟩
theorem hu3 {h : vh} {x y z : Nat} {e1 e2 e3 d1 d2 d3 : va_E} (xy : x ≠ y) (zx : z ≠ x) (zy : z ≠ y) : hu (hu (hu (hu (hu (hu h x e1) y e2) z e3) x d1) y d2) z d3 = hu (hu (hu h x d1) y d2) z d3 := by
  funext b
  by_cases b1 : b = z
  · subst b1; simp [hu]
  · by_cases b2 : b = y
    · subst b2; simp [hu, b1]
    · by_cases b3 : b = x
      · subst b3; simp [hu, b1, b2]
      · simp [hu, b1, b2, b3]
theorem x_topv {κ : KX} {n1 n2 : Nat} {h : vh} {ls : List (Nat × Value)} {pc : Nat} {st : List Value} {z y : Int} (e : z = y) (kk : X κ n1 n2 h ls pc (vI y :: st)) : X κ n1 n2 h ls pc (vI z :: st) := e ▸ kk
def rI (z : Int) : Prop := -2147483648 ≤ z ∧ z ≤ 2147483647
theorem ckq_r {q : Nat → Int} (h : ∀ j, -1 ≤ q j ∧ q j ≤ 95) {x y : Int} (hy : -1 ≤ y ∧ y ≤ 95 := by omega) : ∀ j, -1 ≤ ckq q x y j ∧ ckq q x y j ≤ 95 := by
  intro j
  have hj := h j
  unfold ckq
  split
  · unfold fu; split <;> assumption
  · split
    · unfold fu; split <;> assumption
    · split
      · unfold fu; split <;> assumption
      · exact hj

set_option maxRecDepth 100000 in
set_option maxHeartbeats 1000000 in
theorem c_X7_isCell {l : Launch} {D : va_G} {A : Nat → Prop} {h : vh} {z : Int}  (hz : -2147483648 ≤ z ∧ z ≤ 2147483647) : MX l D A yX7_isCell wsX7_isCell { frames := 0, cells := 0, slots := 0, locals := 0 } [vI z] h (fun rv h' => rv = some (vI (bI (0 ≤ z ∧ z < 96))) ∧ h' = h) := by
  refine MX.of (cc := cX7_isCell) (maxL := 1) (ret := (some .boolean)) [(0, vI z)] (by decide +kernel) rfl rfl (Nat.le_of_ble_eq_true rfl) ?_
  intro κ C hkl G
  subst hkl
  have C : CX κ "LedgeLevels" "isCell" cX7_isCell wsX7_isCell { frames := 0, cells := 0, slots := 0, locals := 0 } D A 1 := C
  have hiz : nq (D.1 20) (D.1 21) := cx_iz C
  refine x_iload_n C dX7_isCell_0 0 rfl ?_
  refine x_if_lt (tgt := 14) C dX7_isCell_1 (by decide) (by omega) (fun c1 => ?_) (fun c1 => ?_)
  · skip
    refine x_iconst C dX7_isCell_14 0 (by decide) ?_
    refine x_zret C G dX7_isCell_15 (by first | exact Or.inl rfl | exact Or.inr rfl) ?_ (by decide) (by decide)
    exact ⟨by first | rw [bI_t ⟨by omega, by omega⟩] | rw [bI_f (fun q => by omega)], rfl⟩
  · skip
    refine x_iload_n C dX7_isCell_4 0 rfl ?_
    refine x_bipush C dX7_isCell_5 96 (by decide) ?_
    refine x_icmp_ge (tgt := 14) C dX7_isCell_7 (by decide) (by omega) (by omega) (fun c2 => ?_) (fun c2 => ?_)
    · skip
      refine x_iconst C dX7_isCell_14 0 (by decide) ?_
      refine x_zret C G dX7_isCell_15 (by first | exact Or.inl rfl | exact Or.inr rfl) ?_ (by decide) (by decide)
      exact ⟨by first | rw [bI_t ⟨by omega, by omega⟩] | rw [bI_f (fun q => by omega)], rfl⟩
    · skip
      refine x_iconst C dX7_isCell_10 1 (by decide) ?_
      refine x_goto (tgt := 15) C dX7_isCell_11 (by decide) ?_
      refine x_zret C G dX7_isCell_15 (by first | exact Or.inl rfl | exact Or.inr rfl) ?_ (by decide) (by decide)
      exact ⟨by first | rw [bI_t ⟨by omega, by omega⟩] | rw [bI_f (fun q => by omega)], rfl⟩

theorem kX1_kindAt_0 : Cond.fieldLink "LedgeLevels$Grid" 9 "LedgeLevels$Grid" "kinds" "[I" ∈ wsX1_kindAt := by decide +kernel
theorem kX1_kindAt_1 : ∀ w ∈ wsX10, w ∈ wsX1_kindAt := by decide +kernel
set_option maxRecDepth 100000 in
set_option maxHeartbeats 1000000 in
theorem c_X1_kindAt {l : Launch} {D : va_G} {A : Nat → Prop} {h : vh} {g ak : Nat} {x1 x2 : Value} {f : Nat → Int} {z : Int} (hg : h g = some (eO 1 [.ref ak, x1, x2])) (hk : h ak = some (eI D 96 f)) (hz : -2147483648 ≤ z ∧ z ≤ 2147483647) : MX l D A yX1_kindAt wsX1_kindAt { frames := 0, cells := 0, slots := 0, locals := 0 } [.ref g, vI z] h (fun rv h' => rv = some (vI (kAt f z)) ∧ h' = h) := by
  refine MX.of (cc := cX1_kindAt) (maxL := 2) (ret := (some .int)) [(0, .ref g), (1, vI z)] (by decide +kernel) rfl rfl (Nat.le_of_ble_eq_true rfl) ?_
  intro κ C hkl G
  subst hkl
  have C : CX κ "LedgeLevels$Grid" "kindAt" cX1_kindAt wsX1_kindAt { frames := 0, cells := 0, slots := 0, locals := 0 } D A 2 := C
  have hiz : nq (D.1 20) (D.1 21) := cx_iz C
  refine x_iload_n C dX1_kindAt_0 1 rfl ?_
  refine x_if_lt (tgt := 22) C dX1_kindAt_1 (by decide) (by omega) (fun c1 => ?_) (fun c1 => ?_)
  · skip
    refine x_iconst C dX1_kindAt_22 0 (by decide) ?_
    refine x_iret C G dX1_kindAt_23 ?_ (by decide) (by decide)
    exact ⟨by first | rw [kAt, if_pos ⟨by omega, by omega⟩] | rw [kAt, if_neg (fun q => by omega)], rfl⟩
  · skip
    refine x_iload_n C dX1_kindAt_4 1 rfl ?_
    refine x_aload_n C dX1_kindAt_5 0 rfl ?_
    refine x_get C (v := .ref ak) hg (T := TX1) rfl kX1_kindAt_1 0 (by decide) kX1_kindAt_0 rfl dX1_kindAt_6 ?_
    refine x_alen C hk (t0 := 0) rfl 96 rfl dX1_kindAt_9 ?_
    refine x_icmp_ge (tgt := 22) C dX1_kindAt_10 (by decide) (by omega) (by omega) (fun c2 => ?_) (fun c2 => ?_)
    · skip
      refine x_iconst C dX1_kindAt_22 0 (by decide) ?_
      refine x_iret C G dX1_kindAt_23 ?_ (by decide) (by decide)
      exact ⟨by first | rw [kAt, if_pos ⟨by omega, by omega⟩] | rw [kAt, if_neg (fun q => by omega)], rfl⟩
    · skip
      refine x_aload_n C dX1_kindAt_13 0 rfl ?_
      refine x_get C (v := .ref ak) hg (T := TX1) rfl kX1_kindAt_1 0 (by decide) kX1_kindAt_0 rfl dX1_kindAt_14 ?_
      refine x_iload_n C dX1_kindAt_17 1 rfl ?_
      refine x_iald C hk ⟨by omega, by omega⟩ (by decide) dX1_kindAt_18 ?_
      refine x_goto (tgt := 23) C dX1_kindAt_19 (by decide) ?_
      refine x_iret C G dX1_kindAt_23 ?_ (by decide) (by decide)
      exact ⟨by first | rw [kAt, if_pos ⟨by omega, by omega⟩] | rw [kAt, if_neg (fun q => by omega)], rfl⟩

theorem kX1_keyBit_0 : Cond.fieldLink "LedgeLevels$Grid" 15 "LedgeLevels$Grid" "keyCells" "[I" ∈ wsX1_keyBit := by decide +kernel
theorem kX1_keyBit_1 : ∀ w ∈ wsX10, w ∈ wsX1_keyBit := by decide +kernel
set_option maxRecDepth 100000 in
set_option maxHeartbeats 1000000 in
theorem c_X1_keyBit {l : Launch} {D : va_G} {A : Nat → Prop} {h : vh} {g aq : Nat} {x1 x2 : Value} {q : Nat → Int} {z : Int} (hg : h g = some (eO 1 [x1, .ref aq, x2])) (hqq : h aq = some (eI D 3 q)) (hz : -2147483648 ≤ z ∧ z ≤ 2147483647) (hq : ∀ j, -1 ≤ q j ∧ q j ≤ 95) : MX l D A yX1_keyBit wsX1_keyBit { frames := 0, cells := 0, slots := 0, locals := 0 } [.ref g, vI z] h (fun rv h' => rv = some (vI ((kb3 q z : Nat) : Int)) ∧ h' = h) := by
  refine MX.of (cc := cX1_keyBit) (maxL := 3) (ret := (some .int)) [(0, .ref g), (1, vI z)] (by decide +kernel) rfl rfl (Nat.le_of_ble_eq_true rfl) ?_
  intro κ C hkl G
  subst hkl
  have C : CX κ "LedgeLevels$Grid" "keyBit" cX1_keyBit wsX1_keyBit { frames := 0, cells := 0, slots := 0, locals := 0 } D A 3 := C
  have hiz : nq (D.1 20) (D.1 21) := cx_iz C
  refine x_iconst C dX1_keyBit_0 0 (by decide) ?_
  refine x_istore_n C (ls' := [(0, .ref g), (1, vI z), (2, vI 0)]) dX1_keyBit_1 (by decide) rfl ?_
  refine x_iload_n C dX1_keyBit_2 2 rfl ?_
  refine x_aload_n C dX1_keyBit_3 0 rfl ?_
  refine x_get C (v := .ref aq) hg (T := TX1) rfl kX1_keyBit_1 1 (by decide) kX1_keyBit_0 rfl dX1_keyBit_4 ?_
  refine x_alen C hqq (t0 := 0) rfl 3 rfl dX1_keyBit_7 ?_
  refine x_icmp_ge (tgt := 31) C dX1_keyBit_8 (by decide) (by omega) (by omega) (fun c1 => ?_) (fun c1 => ?_)
  · exfalso; omega
  · skip
    refine x_aload_n C dX1_keyBit_11 0 rfl ?_
    refine x_get C (v := .ref aq) hg (T := TX1) rfl kX1_keyBit_1 1 (by decide) kX1_keyBit_0 rfl dX1_keyBit_12 ?_
    refine x_iload_n C dX1_keyBit_15 2 rfl ?_
    refine x_iald C hqq ⟨by omega, by omega⟩ (by decide) dX1_keyBit_16 ?_
    have r2 := hq (Int.toNat 0)
    refine x_iload_n C dX1_keyBit_17 1 rfl ?_
    refine x_icmp_ne (tgt := 25) C dX1_keyBit_18 (by decide) (by omega) (by omega) (fun c3 => ?_) (fun c3 => ?_)
    · skip
      refine x_iinc C (x := 0) (ls' := [(0, .ref g), (1, vI z), (2, vI (0 + 1))]) dX1_keyBit_25 2 rfl (by decide) rfl ?_
      refine x_goto (tgt := 2) C dX1_keyBit_28 (by decide) ?_
      refine x_iload_n C dX1_keyBit_2 2 rfl ?_
      refine x_aload_n C dX1_keyBit_3 0 rfl ?_
      refine x_get C (v := .ref aq) hg (T := TX1) rfl kX1_keyBit_1 1 (by decide) kX1_keyBit_0 rfl dX1_keyBit_4 ?_
      refine x_alen C hqq (t0 := 0) rfl 3 rfl dX1_keyBit_7 ?_
      refine x_icmp_ge (tgt := 31) C dX1_keyBit_8 (by decide) (by omega) (by omega) (fun c4 => ?_) (fun c4 => ?_)
      · exfalso; omega
      · skip
        refine x_aload_n C dX1_keyBit_11 0 rfl ?_
        refine x_get C (v := .ref aq) hg (T := TX1) rfl kX1_keyBit_1 1 (by decide) kX1_keyBit_0 rfl dX1_keyBit_12 ?_
        refine x_iload_n C dX1_keyBit_15 2 rfl ?_
        refine x_iald C hqq ⟨by omega, by omega⟩ (by decide) dX1_keyBit_16 ?_
        have r5 := hq (Int.toNat (0 + 1))
        refine x_iload_n C dX1_keyBit_17 1 rfl ?_
        refine x_icmp_ne (tgt := 25) C dX1_keyBit_18 (by decide) (by omega) (by omega) (fun c6 => ?_) (fun c6 => ?_)
        · skip
          refine x_iinc C (x := 0 + 1) (ls' := [(0, .ref g), (1, vI z), (2, vI ((0 + 1) + 1))]) dX1_keyBit_25 2 rfl (by decide) rfl ?_
          refine x_goto (tgt := 2) C dX1_keyBit_28 (by decide) ?_
          refine x_iload_n C dX1_keyBit_2 2 rfl ?_
          refine x_aload_n C dX1_keyBit_3 0 rfl ?_
          refine x_get C (v := .ref aq) hg (T := TX1) rfl kX1_keyBit_1 1 (by decide) kX1_keyBit_0 rfl dX1_keyBit_4 ?_
          refine x_alen C hqq (t0 := 0) rfl 3 rfl dX1_keyBit_7 ?_
          refine x_icmp_ge (tgt := 31) C dX1_keyBit_8 (by decide) (by omega) (by omega) (fun c7 => ?_) (fun c7 => ?_)
          · exfalso; omega
          · skip
            refine x_aload_n C dX1_keyBit_11 0 rfl ?_
            refine x_get C (v := .ref aq) hg (T := TX1) rfl kX1_keyBit_1 1 (by decide) kX1_keyBit_0 rfl dX1_keyBit_12 ?_
            refine x_iload_n C dX1_keyBit_15 2 rfl ?_
            refine x_iald C hqq ⟨by omega, by omega⟩ (by decide) dX1_keyBit_16 ?_
            have r8 := hq (Int.toNat ((0 + 1) + 1))
            refine x_iload_n C dX1_keyBit_17 1 rfl ?_
            refine x_icmp_ne (tgt := 25) C dX1_keyBit_18 (by decide) (by omega) (by omega) (fun c9 => ?_) (fun c9 => ?_)
            · skip
              refine x_iinc C (x := (0 + 1) + 1) (ls' := [(0, .ref g), (1, vI z), (2, vI (((0 + 1) + 1) + 1))]) dX1_keyBit_25 2 rfl (by decide) rfl ?_
              refine x_goto (tgt := 2) C dX1_keyBit_28 (by decide) ?_
              refine x_iload_n C dX1_keyBit_2 2 rfl ?_
              refine x_aload_n C dX1_keyBit_3 0 rfl ?_
              refine x_get C (v := .ref aq) hg (T := TX1) rfl kX1_keyBit_1 1 (by decide) kX1_keyBit_0 rfl dX1_keyBit_4 ?_
              refine x_alen C hqq (t0 := 0) rfl 3 rfl dX1_keyBit_7 ?_
              refine x_icmp_ge (tgt := 31) C dX1_keyBit_8 (by decide) (by omega) (by omega) (fun c10 => ?_) (fun c10 => ?_)
              · skip
                refine x_iconst C dX1_keyBit_31 0 (by decide) ?_
                refine x_iret C G dX1_keyBit_32 ?_ (by decide) (by decide)
                have k0 : ((0 : Int)).toNat = 0 := rfl
                have k1 : ((0 + 1 : Int)).toNat = 1 := rfl
                have k2 : ((0 + 1 + 1 : Int)).toNat = 2 := rfl
                refine ⟨?_, rfl⟩
                simp only [k0, k1, k2] at *
                simp [kb3, *]
              · exfalso; omega
            · skip
              refine x_iconst C dX1_keyBit_21 1 (by decide) ?_
              refine x_iload_n C dX1_keyBit_22 2 rfl ?_
              refine x_ishlv C (4) (by decide) dX1_keyBit_23 ?_
              refine x_iret C G dX1_keyBit_24 ?_ (by decide) (by decide)
              have k0 : ((0 : Int)).toNat = 0 := rfl
              have k1 : ((0 + 1 : Int)).toNat = 1 := rfl
              have k2 : ((0 + 1 + 1 : Int)).toNat = 2 := rfl
              refine ⟨?_, rfl⟩
              simp only [k0, k1, k2] at *
              simp [kb3, *]
        · skip
          refine x_iconst C dX1_keyBit_21 1 (by decide) ?_
          refine x_iload_n C dX1_keyBit_22 2 rfl ?_
          refine x_ishlv C (2) (by decide) dX1_keyBit_23 ?_
          refine x_iret C G dX1_keyBit_24 ?_ (by decide) (by decide)
          have k0 : ((0 : Int)).toNat = 0 := rfl
          have k1 : ((0 + 1 : Int)).toNat = 1 := rfl
          have k2 : ((0 + 1 + 1 : Int)).toNat = 2 := rfl
          refine ⟨?_, rfl⟩
          simp only [k0, k1, k2] at *
          simp [kb3, *]
    · skip
      refine x_iconst C dX1_keyBit_21 1 (by decide) ?_
      refine x_iload_n C dX1_keyBit_22 2 rfl ?_
      refine x_ishlv C (1) (by decide) dX1_keyBit_23 ?_
      refine x_iret C G dX1_keyBit_24 ?_ (by decide) (by decide)
      have k0 : ((0 : Int)).toNat = 0 := rfl
      have k1 : ((0 + 1 : Int)).toNat = 1 := rfl
      have k2 : ((0 + 1 + 1 : Int)).toNat = 2 := rfl
      refine ⟨?_, rfl⟩
      simp only [k0, k1, k2] at *
      simp [kb3, *]

theorem kX1_changeKey_0 : Cond.fieldLink "LedgeLevels$Grid" 15 "LedgeLevels$Grid" "keyCells" "[I" ∈ wsX1_changeKey := by decide +kernel
theorem kX1_changeKey_1 : ∀ w ∈ wsX10, w ∈ wsX1_changeKey := by decide +kernel
theorem kX1_changeKey_2 : Cond.fieldLink "LedgeLevels$Grid" 18 "LedgeLevels$Grid" "allKeys" "I" ∈ wsX1_changeKey := by decide +kernel
set_option maxRecDepth 100000 in
set_option maxHeartbeats 1000000 in
theorem c_X1_changeKey {l : Launch} {D : va_G} {A : Nat → Prop} {h : vh} {g ak aq : Nat} {q : Nat → Int} {a : Nat} {x y : Int} (hg : h g = some (eO 1 [.ref ak, .ref aq, vI ((a : Nat) : Int)])) (hqq : h aq = some (eI D 3 q)) (hx : -2147483648 ≤ x ∧ x ≤ 2147483647) (hq : ∀ j, -1 ≤ q j ∧ q j ≤ 95) : MX l D A yX1_changeKey wsX1_changeKey { frames := 0, cells := 0, slots := 0, locals := 0 } [.ref g, vI x, vI y] h (fun rv h' => rv = none ∧ h' = hu (hu h aq (eI D 3 (ckq q x y))) g (eO 1 [.ref ak, .ref aq, vI ((cka q a x : Nat) : Int)])) := by
  refine MX.of (cc := cX1_changeKey) (maxL := 4) (ret := none) [(0, .ref g), (1, vI x), (2, vI y)] (by decide +kernel) rfl rfl (Nat.le_of_ble_eq_true rfl) ?_
  intro κ C hkl G
  subst hkl
  have C : CX κ "LedgeLevels$Grid" "changeKey" cX1_changeKey wsX1_changeKey { frames := 0, cells := 0, slots := 0, locals := 0 } D A 4 := C
  have hiz : nq (D.1 20) (D.1 21) := cx_iz C
  refine x_iconst C dX1_changeKey_0 0 (by decide) ?_
  refine x_istore_n C (ls' := [(0, .ref g), (1, vI x), (2, vI y), (3, vI 0)]) dX1_changeKey_1 (by decide) rfl ?_
  refine x_iload_n C dX1_changeKey_2 3 rfl ?_
  refine x_aload_n C dX1_changeKey_3 0 rfl ?_
  refine x_get C (v := .ref aq) hg (T := TX1) rfl kX1_changeKey_1 1 (by decide) kX1_changeKey_0 rfl dX1_changeKey_4 ?_
  refine x_alen C hqq (t0 := 0) rfl 3 rfl dX1_changeKey_7 ?_
  refine x_icmp_ge (tgt := 47) C dX1_changeKey_8 (by decide) (by omega) (by omega) (fun c1 => ?_) (fun c1 => ?_)
  · exfalso; omega
  · skip
    refine x_aload_n C dX1_changeKey_11 0 rfl ?_
    refine x_get C (v := .ref aq) hg (T := TX1) rfl kX1_changeKey_1 1 (by decide) kX1_changeKey_0 rfl dX1_changeKey_12 ?_
    refine x_iload_n C dX1_changeKey_15 3 rfl ?_
    refine x_iald C hqq ⟨by omega, by omega⟩ (by decide) dX1_changeKey_16 ?_
    have r2 := hq (Int.toNat 0)
    refine x_iload_n C dX1_changeKey_17 1 rfl ?_
    refine x_icmp_ne (tgt := 41) C dX1_changeKey_18 (by decide) (by omega) (by omega) (fun c3 => ?_) (fun c3 => ?_)
    · skip
      refine x_iinc C (x := 0) (ls' := [(0, .ref g), (1, vI x), (2, vI y), (3, vI (0 + 1))]) dX1_changeKey_41 3 rfl (by decide) rfl ?_
      refine x_goto (tgt := 2) C dX1_changeKey_44 (by decide) ?_
      refine x_iload_n C dX1_changeKey_2 3 rfl ?_
      refine x_aload_n C dX1_changeKey_3 0 rfl ?_
      refine x_get C (v := .ref aq) hg (T := TX1) rfl kX1_changeKey_1 1 (by decide) kX1_changeKey_0 rfl dX1_changeKey_4 ?_
      refine x_alen C hqq (t0 := 0) rfl 3 rfl dX1_changeKey_7 ?_
      refine x_icmp_ge (tgt := 47) C dX1_changeKey_8 (by decide) (by omega) (by omega) (fun c4 => ?_) (fun c4 => ?_)
      · exfalso; omega
      · skip
        refine x_aload_n C dX1_changeKey_11 0 rfl ?_
        refine x_get C (v := .ref aq) hg (T := TX1) rfl kX1_changeKey_1 1 (by decide) kX1_changeKey_0 rfl dX1_changeKey_12 ?_
        refine x_iload_n C dX1_changeKey_15 3 rfl ?_
        refine x_iald C hqq ⟨by omega, by omega⟩ (by decide) dX1_changeKey_16 ?_
        have r5 := hq (Int.toNat (0 + 1))
        refine x_iload_n C dX1_changeKey_17 1 rfl ?_
        refine x_icmp_ne (tgt := 41) C dX1_changeKey_18 (by decide) (by omega) (by omega) (fun c6 => ?_) (fun c6 => ?_)
        · skip
          refine x_iinc C (x := 0 + 1) (ls' := [(0, .ref g), (1, vI x), (2, vI y), (3, vI ((0 + 1) + 1))]) dX1_changeKey_41 3 rfl (by decide) rfl ?_
          refine x_goto (tgt := 2) C dX1_changeKey_44 (by decide) ?_
          refine x_iload_n C dX1_changeKey_2 3 rfl ?_
          refine x_aload_n C dX1_changeKey_3 0 rfl ?_
          refine x_get C (v := .ref aq) hg (T := TX1) rfl kX1_changeKey_1 1 (by decide) kX1_changeKey_0 rfl dX1_changeKey_4 ?_
          refine x_alen C hqq (t0 := 0) rfl 3 rfl dX1_changeKey_7 ?_
          refine x_icmp_ge (tgt := 47) C dX1_changeKey_8 (by decide) (by omega) (by omega) (fun c7 => ?_) (fun c7 => ?_)
          · exfalso; omega
          · skip
            refine x_aload_n C dX1_changeKey_11 0 rfl ?_
            refine x_get C (v := .ref aq) hg (T := TX1) rfl kX1_changeKey_1 1 (by decide) kX1_changeKey_0 rfl dX1_changeKey_12 ?_
            refine x_iload_n C dX1_changeKey_15 3 rfl ?_
            refine x_iald C hqq ⟨by omega, by omega⟩ (by decide) dX1_changeKey_16 ?_
            have r8 := hq (Int.toNat ((0 + 1) + 1))
            refine x_iload_n C dX1_changeKey_17 1 rfl ?_
            refine x_icmp_ne (tgt := 41) C dX1_changeKey_18 (by decide) (by omega) (by omega) (fun c9 => ?_) (fun c9 => ?_)
            · skip
              refine x_iinc C (x := (0 + 1) + 1) (ls' := [(0, .ref g), (1, vI x), (2, vI y), (3, vI (((0 + 1) + 1) + 1))]) dX1_changeKey_41 3 rfl (by decide) rfl ?_
              refine x_goto (tgt := 2) C dX1_changeKey_44 (by decide) ?_
              refine x_iload_n C dX1_changeKey_2 3 rfl ?_
              refine x_aload_n C dX1_changeKey_3 0 rfl ?_
              refine x_get C (v := .ref aq) hg (T := TX1) rfl kX1_changeKey_1 1 (by decide) kX1_changeKey_0 rfl dX1_changeKey_4 ?_
              refine x_alen C hqq (t0 := 0) rfl 3 rfl dX1_changeKey_7 ?_
              refine x_icmp_ge (tgt := 47) C dX1_changeKey_8 (by decide) (by omega) (by omega) (fun c10 => ?_) (fun c10 => ?_)
              · skip
                refine x_vret C G dX1_changeKey_47 ?_ (by decide) (by decide)
                refine ⟨rfl, ?_⟩
                have k0 : Int.toNat 0 = 0 := rfl
                have k1 : Int.toNat (0 + 1) = 1 := rfl
                have k2 : Int.toNat ((0 + 1) + 1) = 2 := rfl
                simp only [k0, k1, k2] at *
                have z1 : ckq q x y = q := by simp [ckq, *]
                have z2 : cka q a x = a := by simp [cka, *]
                rw [z1, z2, hu_i hqq, hu_i hg]
              · exfalso; omega
            · skip
              refine x_aload_n C dX1_changeKey_21 0 rfl ?_
              refine x_get C (v := .ref aq) hg (T := TX1) rfl kX1_changeKey_1 1 (by decide) kX1_changeKey_0 rfl dX1_changeKey_22 ?_
              refine x_iload_n C dX1_changeKey_25 3 rfl ?_
              refine x_iload_n C dX1_changeKey_26 2 rfl ?_
              refine x_iast C hqq ⟨by omega, by omega⟩ (by decide) dX1_changeKey_27 (x_hn (fun h11 e12 => ?_))
              have f13 : h11 aq = some (eI D 3 (fu q (Int.toNat ((0 + 1) + 1)) y)) := by rw [e12]; exact hu_s
              refine x_aload_n C dX1_changeKey_28 0 rfl ?_
              refine x_dup C dX1_changeKey_29 rfl ?_
              have n15 : nq g aq := vnt hg hqq (p := (3, 1)) (q := (0, 3)) rfl rfl (by decide)
              have f14 : h11 g = some (eO 1 [.ref ak, .ref aq, vI ((a : Nat) : Int)]) := by rw [e12, hu_n n15]; exact hg
              refine x_get C (v := vI ((a : Nat) : Int)) f14 (T := TX1) rfl kX1_changeKey_1 2 (by decide) kX1_changeKey_2 rfl dX1_changeKey_30 ?_
              refine x_iconst C dX1_changeKey_33 1 (by decide) ?_
              refine x_iload_n C dX1_changeKey_34 3 rfl ?_
              refine x_ishlv C (4) (by decide) dX1_changeKey_35 ?_
              refine x_ixorv C (((a ^^^ 4 : Nat) : Int)) (iI_xor a 4) dX1_changeKey_36 ?_
              refine x_put C f14 (T := TX1) rfl tyX1_ok nmX1 kX1_changeKey_1 2 (by decide) kX1_changeKey_2 rfl (fs' := [.ref ak, .ref aq, vI ((a ^^^ 4 : Nat) : Int)]) rfl rfl (by simp) rfl dX1_changeKey_37 (x_hn (fun h16 e17 => ?_))
              have f18 : h16 g = some (eO 1 [.ref ak, .ref aq, vI ((a ^^^ 4 : Nat) : Int)]) := by rw [e17]; exact hu_s
              refine x_vret C G dX1_changeKey_40 ?_ (by decide) (by decide)
              refine ⟨rfl, ?_⟩
              have k0 : Int.toNat 0 = 0 := rfl
              have k1 : Int.toNat (0 + 1) = 1 := rfl
              have k2 : Int.toNat ((0 + 1) + 1) = 2 := rfl
              simp only [k0, k1, k2] at *
              rw [e17, e12]; simp [ckq, cka, *]
        · skip
          refine x_aload_n C dX1_changeKey_21 0 rfl ?_
          refine x_get C (v := .ref aq) hg (T := TX1) rfl kX1_changeKey_1 1 (by decide) kX1_changeKey_0 rfl dX1_changeKey_22 ?_
          refine x_iload_n C dX1_changeKey_25 3 rfl ?_
          refine x_iload_n C dX1_changeKey_26 2 rfl ?_
          refine x_iast C hqq ⟨by omega, by omega⟩ (by decide) dX1_changeKey_27 (x_hn (fun h19 e20 => ?_))
          have f21 : h19 aq = some (eI D 3 (fu q (Int.toNat (0 + 1)) y)) := by rw [e20]; exact hu_s
          refine x_aload_n C dX1_changeKey_28 0 rfl ?_
          refine x_dup C dX1_changeKey_29 rfl ?_
          have n23 : nq g aq := vnt hg hqq (p := (3, 1)) (q := (0, 3)) rfl rfl (by decide)
          have f22 : h19 g = some (eO 1 [.ref ak, .ref aq, vI ((a : Nat) : Int)]) := by rw [e20, hu_n n23]; exact hg
          refine x_get C (v := vI ((a : Nat) : Int)) f22 (T := TX1) rfl kX1_changeKey_1 2 (by decide) kX1_changeKey_2 rfl dX1_changeKey_30 ?_
          refine x_iconst C dX1_changeKey_33 1 (by decide) ?_
          refine x_iload_n C dX1_changeKey_34 3 rfl ?_
          refine x_ishlv C (2) (by decide) dX1_changeKey_35 ?_
          refine x_ixorv C (((a ^^^ 2 : Nat) : Int)) (iI_xor a 2) dX1_changeKey_36 ?_
          refine x_put C f22 (T := TX1) rfl tyX1_ok nmX1 kX1_changeKey_1 2 (by decide) kX1_changeKey_2 rfl (fs' := [.ref ak, .ref aq, vI ((a ^^^ 2 : Nat) : Int)]) rfl rfl (by simp) rfl dX1_changeKey_37 (x_hn (fun h24 e25 => ?_))
          have f26 : h24 g = some (eO 1 [.ref ak, .ref aq, vI ((a ^^^ 2 : Nat) : Int)]) := by rw [e25]; exact hu_s
          refine x_vret C G dX1_changeKey_40 ?_ (by decide) (by decide)
          refine ⟨rfl, ?_⟩
          have k0 : Int.toNat 0 = 0 := rfl
          have k1 : Int.toNat (0 + 1) = 1 := rfl
          have k2 : Int.toNat ((0 + 1) + 1) = 2 := rfl
          simp only [k0, k1, k2] at *
          rw [e25, e20]; simp [ckq, cka, *]
    · skip
      refine x_aload_n C dX1_changeKey_21 0 rfl ?_
      refine x_get C (v := .ref aq) hg (T := TX1) rfl kX1_changeKey_1 1 (by decide) kX1_changeKey_0 rfl dX1_changeKey_22 ?_
      refine x_iload_n C dX1_changeKey_25 3 rfl ?_
      refine x_iload_n C dX1_changeKey_26 2 rfl ?_
      refine x_iast C hqq ⟨by omega, by omega⟩ (by decide) dX1_changeKey_27 (x_hn (fun h27 e28 => ?_))
      have f29 : h27 aq = some (eI D 3 (fu q (Int.toNat 0) y)) := by rw [e28]; exact hu_s
      refine x_aload_n C dX1_changeKey_28 0 rfl ?_
      refine x_dup C dX1_changeKey_29 rfl ?_
      have n31 : nq g aq := vnt hg hqq (p := (3, 1)) (q := (0, 3)) rfl rfl (by decide)
      have f30 : h27 g = some (eO 1 [.ref ak, .ref aq, vI ((a : Nat) : Int)]) := by rw [e28, hu_n n31]; exact hg
      refine x_get C (v := vI ((a : Nat) : Int)) f30 (T := TX1) rfl kX1_changeKey_1 2 (by decide) kX1_changeKey_2 rfl dX1_changeKey_30 ?_
      refine x_iconst C dX1_changeKey_33 1 (by decide) ?_
      refine x_iload_n C dX1_changeKey_34 3 rfl ?_
      refine x_ishlv C (1) (by decide) dX1_changeKey_35 ?_
      refine x_ixorv C (((a ^^^ 1 : Nat) : Int)) (iI_xor a 1) dX1_changeKey_36 ?_
      refine x_put C f30 (T := TX1) rfl tyX1_ok nmX1 kX1_changeKey_1 2 (by decide) kX1_changeKey_2 rfl (fs' := [.ref ak, .ref aq, vI ((a ^^^ 1 : Nat) : Int)]) rfl rfl (by simp) rfl dX1_changeKey_37 (x_hn (fun h32 e33 => ?_))
      have f34 : h32 g = some (eO 1 [.ref ak, .ref aq, vI ((a ^^^ 1 : Nat) : Int)]) := by rw [e33]; exact hu_s
      refine x_vret C G dX1_changeKey_40 ?_ (by decide) (by decide)
      refine ⟨rfl, ?_⟩
      have k0 : Int.toNat 0 = 0 := rfl
      have k1 : Int.toNat (0 + 1) = 1 := rfl
      have k2 : Int.toNat ((0 + 1) + 1) = 2 := rfl
      simp only [k0, k1, k2] at *
      rw [e33, e28]; simp [ckq, cka, *]

theorem kX1_has_0 : Cond.fieldLink "LedgeLevels$Grid" 9 "LedgeLevels$Grid" "kinds" "[I" ∈ wsX1_has := by decide +kernel
theorem kX1_has_1 : ∀ w ∈ wsX10, w ∈ wsX1_has := by decide +kernel
set_option maxRecDepth 100000 in
set_option maxHeartbeats 1000000 in
theorem c_X1_has {l : Launch} {D : va_G} {A : Nat → Prop} {h : vh} {g ak : Nat} {x1 x2 : Value} {f : Nat → Int} {z : Int} (hg : h g = some (eO 1 [.ref ak, x1, x2])) (hk : h ak = some (eI D 96 f)) (hz : -2147483648 ≤ z ∧ z ≤ 2147483647) (hf : ∀ j, 0 ≤ f j ∧ f j ≤ 8) : MX l D A yX1_has wsX1_has { frames := 0, cells := 0, slots := 0, locals := 0 } [.ref g, vI z] h (fun rv h' => rv = some (vI (bI (∃ c, c < 96 ∧ f c = z))) ∧ h' = h) := by
  refine MX.of (cc := cX1_has) (maxL := 3) (ret := (some .boolean)) [(0, .ref g), (1, vI z)] (by decide +kernel) rfl rfl (Nat.le_of_ble_eq_true rfl) ?_
  intro κ C hkl G
  subst hkl
  have C : CX κ "LedgeLevels$Grid" "has" cX1_has wsX1_has { frames := 0, cells := 0, slots := 0, locals := 0 } D A 3 := C
  have hiz : nq (D.1 20) (D.1 21) := cx_iz C
  refine x_iconst C dX1_has_0 0 (by decide) ?_
  refine x_istore_n C (ls' := [(0, .ref g), (1, vI z), (2, vI 0)]) dX1_has_1 (by decide) rfl ?_
  have LP : ∀ (n : Nat) (i : Int)   (hi : 0 ≤ i ∧ i ≤ 96) (hm : 96 - i < n) (ha : ∀ c : Nat, (c : Int) < i → f c ≠ z), X κ 0 0 h [(0, .ref g), (1, vI z), (2, vI i)] 2 [] := by
    intro n
    induction n with
    | zero => intro i hi hm ha; exfalso; omega
    | succ n ihLP =>
      intro i hi hm ha
      refine x_iload_n C dX1_has_2 2 rfl ?_
      refine x_bipush C dX1_has_3 96 (by decide) ?_
      refine x_icmp_ge (tgt := 26) C dX1_has_5 (by decide) (by omega) (by omega) (fun c2 => ?_) (fun c2 => ?_)
      · skip
        refine x_iconst C dX1_has_26 0 (by decide) ?_
        refine x_zret C G dX1_has_27 (by first | exact Or.inl rfl | exact Or.inr rfl) ?_ (by decide) (by decide)
        exact ⟨by rw [bI_f (fun q => by obtain ⟨c, c1, c2⟩ := q; exact ha c (by omega) c2)], rfl⟩
      · skip
        refine x_aload_n C dX1_has_8 0 rfl ?_
        refine x_get C (v := .ref ak) hg (T := TX1) rfl kX1_has_1 0 (by decide) kX1_has_0 rfl dX1_has_9 ?_
        refine x_iload_n C dX1_has_12 2 rfl ?_
        refine x_iald C hk ⟨by omega, by omega⟩ (by decide) dX1_has_13 ?_
        have r3 := hf (Int.toNat i)
        refine x_iload_n C dX1_has_14 1 rfl ?_
        refine x_icmp_ne (tgt := 20) C dX1_has_15 (by decide) (by omega) (by omega) (fun c4 => ?_) (fun c4 => ?_)
        · skip
          refine x_iinc C (x := i) (ls' := [(0, .ref g), (1, vI z), (2, vI (i + 1))]) dX1_has_20 2 rfl (by decide) rfl ?_
          refine x_goto (tgt := 2) C dX1_has_23 (by decide) ?_
          exact ihLP (i + 1) (by omega) (by omega) (by intro c hc; rcases (show (c : Int) < i ∨ c = i.toNat by omega) with q | q; exact ha c q; rw [q]; assumption)
        · skip
          refine x_iconst C dX1_has_18 1 (by decide) ?_
          refine x_zret C G dX1_has_19 (by first | exact Or.inl rfl | exact Or.inr rfl) ?_ (by decide) (by decide)
          exact ⟨by rw [bI_t ⟨i.toNat, by omega, by assumption⟩], rfl⟩
  exact LP (97) 0 (by omega) (by omega) (by intro c hc; omega)

theorem kX1_put_0 : Cond.initialized "LedgeLevels" ∈ wsX1_put := by decide +kernel
theorem kX1_put_1 : Cond.static yX7_isCell ∈ wsX1_put := by decide +kernel
theorem kX1_put_2 : Cond.methodLinkNest "LedgeLevels$Grid" 22 yX7_isCell "LedgeLevels" ∈ nwAll := by decide +kernel
theorem kX1_put_3 : Cond.fieldLink "LedgeLevels$Grid" 9 "LedgeLevels$Grid" "kinds" "[I" ∈ wsX1_put := by decide +kernel
theorem kX1_put_4 : ∀ w ∈ wsX10, w ∈ wsX1_put := by decide +kernel
set_option maxRecDepth 100000 in
set_option maxHeartbeats 1000000 in
theorem c_X1_put {l : Launch} {D : va_G} {A : Nat → Prop} {h : vh} {g ak aq : Nat} {f q : Nat → Int} {a : Nat} {z k : Int} (hg : h g = some (eO 1 [.ref ak, .ref aq, vI ((a : Nat) : Int)])) (hk : h ak = some (eI D 96 f)) (hqq : h aq = some (eI D 3 q)) (hz : 0 ≤ z ∧ z < 96) (hkk : 0 ≤ k ∧ k ≤ 8) (hf : ∀ j, 0 ≤ f j ∧ f j ≤ 8) (hq : ∀ j, -1 ≤ q j ∧ q j ≤ 95) : MX l D A yX1_put wsX1_put { frames := 1, cells := 0, slots := 0, locals := 23 } [.ref g, vI z, vI k] h (fun rv h' => rv = none ∧ h' = hu (hu (hu h ak (eI D 96 (fu f z.toNat k))) aq (eI D 3 (gpq f q z k))) g (eO 1 [.ref ak, .ref aq, vI ((gpa f q a z k : Nat) : Int)])) := by
  refine MX.of (cc := cX1_put) (maxL := 3) (ret := none) [(0, .ref g), (1, vI z), (2, vI k)] (by decide +kernel) rfl rfl (Nat.le_of_ble_eq_true rfl) ?_
  intro κ C hkl G
  subst hkl
  have C : CX κ "LedgeLevels$Grid" "put" cX1_put wsX1_put { frames := 1, cells := 0, slots := 0, locals := 23 } D A 3 := C
  have hiz : nq (D.1 20) (D.1 21) := cx_iz C
  have nn0 : nq g ak := vne hg hk (by intro q; have q2 := congrArg vtag q; simp [vtag] at q2)
  have mm0 : nq ak g := Ne.symm nn0
  have nn1 : nq g aq := vne hg hqq (by intro q; have q2 := congrArg vtag q; simp [vtag] at q2)
  have mm1 : nq aq g := Ne.symm nn1
  have nn2 : nq ak aq := vne hk hqq (by intro q; have q2 := congrArg vtag q; simp [vtag] at q2)
  have mm2 : nq aq ak := Ne.symm nn2
  refine x_iload_n C dX1_put_0 1 rfl ?_
  refine x_callSN C (n := 1) (As := [vI z]) (rest := []) (c_X7_isCell (by omega)) gX1_put_X7_isCell_n22 kX1_put_2 kX1_put_0 kX1_put_1 (by decide +kernel) rfl rfl rfl (Nat.le_of_ble_eq_true rfl) ⟨by decide, by decide⟩ ⟨by decide, by decide⟩ dX1_put_1 (fun rv1 h2 hp3 => ?_)
  obtain ⟨rfl, e4⟩ := hp3
  obtain rfl := e4.symm
  have hb1 : bI (0 ≤ z ∧ z < 96) = 1 := bI_t hz
  refine x_if_ne (tgt := 8) C dX1_put_4 (by decide) (by omega) (fun c5 => ?_) (fun c5 => ?_)
  · skip
    refine x_aload_n C dX1_put_8 0 rfl ?_
    refine x_get C (v := .ref ak) hg (T := TX1) rfl kX1_put_4 0 (by decide) kX1_put_3 rfl dX1_put_9 ?_
    refine x_iload_n C dX1_put_12 1 rfl ?_
    refine x_iald C hk ⟨by omega, by omega⟩ (by decide) dX1_put_13 ?_
    have r6 := hf (Int.toNat z)
    refine x_iconst C dX1_put_14 2 (by decide) ?_
    refine x_icmp_ne (tgt := 24) C dX1_put_15 (by decide) (by omega) (by omega) (fun c7 => ?_) (fun c7 => ?_)
    · skip
      refine x_aload_n C dX1_put_24 0 rfl ?_
      refine x_get C (v := .ref ak) hg (T := TX1) rfl kX1_put_4 0 (by decide) kX1_put_3 rfl dX1_put_25 ?_
      refine x_iload_n C dX1_put_28 1 rfl ?_
      refine x_iload_n C dX1_put_29 2 rfl ?_
      refine x_iast C hk ⟨by omega, by omega⟩ (by decide) dX1_put_30 (x_hn (fun h8 e9 => ?_))
      have f10 : h8 ak = some (eI D 96 (fu f (Int.toNat z) k)) := by rw [e9]; exact hu_s
      refine x_iload_n C dX1_put_31 2 rfl ?_
      refine x_iconst C dX1_put_32 2 (by decide) ?_
      refine x_icmp_ne (tgt := 42) C dX1_put_33 (by decide) (by omega) (by omega) (fun c11 => ?_) (fun c11 => ?_)
      · skip
        refine x_vret C G dX1_put_42 ?_ (by decide) (by decide)
        refine ⟨rfl, ?_⟩
        try rw [e9]
        try simp only [nq] at *
        funext b9
        by_cases b90 : b9 = g
        · rw [b90]; simp [hu, gpa, gpq, *]
        by_cases b91 : b9 = aq
        · rw [b91]; simp [hu, gpa, gpq, *]
        by_cases b92 : b9 = ak
        · rw [b92]; simp [hu, gpa, gpq, *]
        simp [hu, b90, b91, b92]
      · skip
        refine x_aload_n C dX1_put_36 0 rfl ?_
        refine x_iconst C dX1_put_37 (-1) (by decide) ?_
        refine x_iload_n C dX1_put_38 1 rfl ?_
        have n13 : nq g ak := vnt hg hk (p := (3, 1)) (q := (0, 96)) rfl rfl (by decide)
        have f12 : h8 g = some (eO 1 [.ref ak, .ref aq, vI ((a : Nat) : Int)]) := by rw [e9, hu_n n13]; exact hg
        have n15 : nq aq ak := vnt hqq hk (p := (0, 3)) (q := (0, 96)) rfl rfl (by decide)
        have f14 : h8 aq = some (eI D 3 q) := by rw [e9, hu_n n15]; exact hqq
        refine x_callV C (n := 2) (qc := (RX1, TX1, 3)) (As := [vI (-1), vI z]) (rest := []) (c_X1_changeKey f12 f14 (by omega) (by first | assumption | exact ckq_r hq)) gX1_put_X1_changeKey (by decide +kernel) f12 rfl rfl rfl rfl (Nat.le_of_ble_eq_true rfl) ⟨by decide, by decide⟩ ⟨by decide, by decide⟩ dX1_put_39 (fun rv16 h17 hp18 => ?_)
        obtain ⟨rfl, e19⟩ := hp18
        have f20 : h17 g = some (eO 1 [.ref ak, .ref aq, vI ((cka q a ((-1)) : Nat) : Int)]) := by rw [e19]; exact hu_s
        have n22 : nq aq g := vnt f14 f12 (p := (0, 3)) (q := (3, 1)) rfl rfl (by decide)
        have f21 : h17 aq = some (eI D 3 (ckq q ((-1)) z)) := by rw [e19, hu_n n22]; exact hu_s
        refine x_vret C G dX1_put_42 ?_ (by decide) (by decide)
        refine ⟨rfl, ?_⟩
        try rw [e19, e9]
        try simp only [nq] at *
        funext b9
        by_cases b90 : b9 = g
        · rw [b90]; simp [hu, gpa, gpq, *]
        by_cases b91 : b9 = aq
        · rw [b91]; simp [hu, gpa, gpq, *]
        by_cases b92 : b9 = ak
        · rw [b92]; simp [hu, gpa, gpq, *]
        simp [hu, b90, b91, b92]
    · skip
      refine x_aload_n C dX1_put_18 0 rfl ?_
      refine x_iload_n C dX1_put_19 1 rfl ?_
      refine x_iconst C dX1_put_20 (-1) (by decide) ?_
      refine x_callV C (n := 2) (qc := (RX1, TX1, 3)) (As := [vI z, vI (-1)]) (rest := []) (c_X1_changeKey hg hqq (by omega) (by assumption)) gX1_put_X1_changeKey (by decide +kernel) hg rfl rfl rfl rfl (Nat.le_of_ble_eq_true rfl) ⟨by decide, by decide⟩ ⟨by decide, by decide⟩ dX1_put_21 (fun rv23 h24 hp25 => ?_)
      obtain ⟨rfl, e26⟩ := hp25
      have f27 : h24 g = some (eO 1 [.ref ak, .ref aq, vI ((cka q a z : Nat) : Int)]) := by rw [e26]; exact hu_s
      have n29 : nq aq g := vnt hqq hg (p := (0, 3)) (q := (3, 1)) rfl rfl (by decide)
      have f28 : h24 aq = some (eI D 3 (ckq q z ((-1)))) := by rw [e26, hu_n n29]; exact hu_s
      refine x_aload_n C dX1_put_24 0 rfl ?_
      refine x_get C (v := .ref ak) f27 (T := TX1) rfl kX1_put_4 0 (by decide) kX1_put_3 rfl dX1_put_25 ?_
      refine x_iload_n C dX1_put_28 1 rfl ?_
      refine x_iload_n C dX1_put_29 2 rfl ?_
      have n31 : nq ak g := vnt hk hg (p := (0, 96)) (q := (3, 1)) rfl rfl (by decide)
      have n32 : nq ak aq := vnt hk hqq (p := (0, 96)) (q := (0, 3)) rfl rfl (by decide)
      have f30 : h24 ak = some (eI D 96 f) := by rw [e26, hu_n n31, hu_n n32]; exact hk
      refine x_iast C f30 ⟨by omega, by omega⟩ (by decide) dX1_put_30 (x_hn (fun h33 e34 => ?_))
      have f35 : h33 ak = some (eI D 96 (fu f (Int.toNat z) k)) := by rw [e34]; exact hu_s
      refine x_iload_n C dX1_put_31 2 rfl ?_
      refine x_iconst C dX1_put_32 2 (by decide) ?_
      refine x_icmp_ne (tgt := 42) C dX1_put_33 (by decide) (by omega) (by omega) (fun c36 => ?_) (fun c36 => ?_)
      · skip
        refine x_vret C G dX1_put_42 ?_ (by decide) (by decide)
        refine ⟨rfl, ?_⟩
        try rw [e34, e26]
        try simp only [nq] at *
        funext b9
        by_cases b90 : b9 = g
        · rw [b90]; simp [hu, gpa, gpq, *]
        by_cases b91 : b9 = aq
        · rw [b91]; simp [hu, gpa, gpq, *]
        by_cases b92 : b9 = ak
        · rw [b92]; simp [hu, gpa, gpq, *]
        simp [hu, b90, b91, b92]
      · skip
        refine x_aload_n C dX1_put_36 0 rfl ?_
        refine x_iconst C dX1_put_37 (-1) (by decide) ?_
        refine x_iload_n C dX1_put_38 1 rfl ?_
        have f37 : h33 g = some (eO 1 [.ref ak, .ref aq, vI ((cka q a z : Nat) : Int)]) := by rw [e34, hu_n (Ne.symm n31)]; exact f27
        have f38 : h33 aq = some (eI D 3 (ckq q z ((-1)))) := by rw [e34, hu_n (Ne.symm n32)]; exact f28
        refine x_callV C (n := 2) (qc := (RX1, TX1, 3)) (As := [vI (-1), vI z]) (rest := []) (c_X1_changeKey f37 f38 (by omega) (by first | assumption | exact ckq_r hq)) gX1_put_X1_changeKey (by decide +kernel) f37 rfl rfl rfl rfl (Nat.le_of_ble_eq_true rfl) ⟨by decide, by decide⟩ ⟨by decide, by decide⟩ dX1_put_39 (fun rv39 h40 hp41 => ?_)
        obtain ⟨rfl, e42⟩ := hp41
        have f43 : h40 g = some (eO 1 [.ref ak, .ref aq, vI ((cka (ckq q z ((-1))) (cka q a z) ((-1)) : Nat) : Int)]) := by rw [e42]; exact hu_s
        have f44 : h40 aq = some (eI D 3 (ckq (ckq q z ((-1))) ((-1)) z)) := by rw [e42, hu_n n29]; exact hu_s
        refine x_vret C G dX1_put_42 ?_ (by decide) (by decide)
        refine ⟨rfl, ?_⟩
        try rw [e42, e34, e26]
        try simp only [nq] at *
        funext b9
        by_cases b90 : b9 = g
        · rw [b90]; simp [hu, gpa, gpq, *]
        by_cases b91 : b9 = aq
        · rw [b91]; simp [hu, gpa, gpq, *]
        by_cases b92 : b9 = ak
        · rw [b92]; simp [hu, gpa, gpq, *]
        simp [hu, b90, b91, b92]
  · exfalso; omega

theorem gnf_r {g f : Nat → Int} (hg : ∀ j, 0 ≤ g j ∧ g j ≤ 8) (hf : ∀ j, 0 ≤ f j ∧ f j ≤ 8) : ∀ n, ∀ j, 0 ≤ gnf g f n j ∧ gnf g f n j ≤ 8
  | 0, j => hf j
  | n + 1, j => by unfold gnf fu; split; exact hg n; exact gnf_r hg hf n j
theorem gpq_r {f q : Nat → Int} (h : ∀ j, -1 ≤ q j ∧ q j ≤ 95) {c k : Int} (hc : -1 ≤ c ∧ c ≤ 95) : ∀ j, -1 ≤ gpq f q c k j ∧ gpq f q c k j ≤ 95 := by
  have h1 : ∀ j, -1 ≤ (if f c.toNat = 2 then ckq q c (-1) else q) j ∧ (if f c.toNat = 2 then ckq q c (-1) else q) j ≤ 95 := by
    split
    · exact ckq_r h
    · exact h
  show ∀ j, -1 ≤ (if k = 2 then ckq (if f c.toNat = 2 then ckq q c (-1) else q) (-1) c else (if f c.toNat = 2 then ckq q c (-1) else q)) j ∧ (if k = 2 then ckq (if f c.toNat = 2 then ckq q c (-1) else q) (-1) c else (if f c.toNat = 2 then ckq q c (-1) else q)) j ≤ 95
  split
  · exact ckq_r h1 hc
  · exact h1
theorem gnq_r {g f q : Nat → Int} (h : ∀ j, -1 ≤ q j ∧ q j ≤ 95) : ∀ n, n ≤ 96 → ∀ j, -1 ≤ gnq g f q n j ∧ gnq g f q n j ≤ 95
  | 0, _ => h
  | n + 1, hn => gpq_r (gnq_r h n (by omega)) (by omega)

set_option maxRecDepth 100000 in
set_option maxHeartbeats 1000000 in
theorem c_X1_putAllOf {l : Launch} {D : va_G} {A : Nat → Prop} {h : vh} {g ak aq o ok : Nat} {f q fo : Nat → Int} {a : Nat} {x1 x2 : Value} (hg : h g = some (eO 1 [.ref ak, .ref aq, vI ((a : Nat) : Int)])) (hk : h ak = some (eI D 96 f)) (hqq : h aq = some (eI D 3 q)) (ho : h o = some (eO 1 [.ref ok, x1, x2])) (hok : h ok = some (eI D 96 fo)) (hog : nq o g) (hka : nq ok ak) (hf : ∀ j, 0 ≤ f j ∧ f j ≤ 8) (hq : ∀ j, -1 ≤ q j ∧ q j ≤ 95) (hfo : ∀ j, 0 ≤ fo j ∧ fo j ≤ 8) : MX l D A yX1_putAllOf wsX1_putAllOf { frames := 2, cells := 0, slots := 0, locals := 45 } [.ref g, .ref o] h (fun rv h' => rv = none ∧ h' = hu (hu (hu h ak (eI D 96 (gnf fo f 96))) aq (eI D 3 (gnq fo f q 96))) g (eO 1 [.ref ak, .ref aq, vI ((gna fo f q a 96 : Nat) : Int)])) := by
  refine MX.of (cc := cX1_putAllOf) (maxL := 3) (ret := none) [(0, .ref g), (1, .ref o)] (by decide +kernel) rfl rfl (Nat.le_of_ble_eq_true rfl) ?_
  intro κ C hkl G
  subst hkl
  have C : CX κ "LedgeLevels$Grid" "putAllOf" cX1_putAllOf wsX1_putAllOf { frames := 2, cells := 0, slots := 0, locals := 45 } D A 3 := C
  have hiz : nq (D.1 20) (D.1 21) := cx_iz C
  have nn0 : nq g ak := vne hg hk (by intro q; have q2 := congrArg vtag q; simp [vtag] at q2)
  have mm0 : nq ak g := Ne.symm nn0
  have nn1 : nq g aq := vne hg hqq (by intro q; have q2 := congrArg vtag q; simp [vtag] at q2)
  have mm1 : nq aq g := Ne.symm nn1
  have nn2 : nq ak aq := vne hk hqq (by intro q; have q2 := congrArg vtag q; simp [vtag] at q2)
  have mm2 : nq aq ak := Ne.symm nn2
  refine x_iconst C dX1_putAllOf_0 0 (by decide) ?_
  refine x_istore_n C (ls' := [(0, .ref g), (1, .ref o), (2, vI 0)]) dX1_putAllOf_1 (by decide) rfl ?_
  have LP : ∀ (n : Nat) (i : Nat) (h1 : vh)  (fg : h1 g = some (eO 1 [.ref ak, .ref aq, vI ((gna fo f q a i : Nat) : Int)])) (fk : h1 ak = some (eI D 96 (gnf fo f i))) (fq : h1 aq = some (eI D 3 (gnq fo f q i))) (fo1 : h1 o = some (eO 1 [.ref ok, x1, x2])) (fo2 : h1 ok = some (eI D 96 fo)) (hi : i ≤ 96) (hm : 96 - i < n) (he : h1 = hu (hu (hu h ak (eI D 96 (gnf fo f i))) aq (eI D 3 (gnq fo f q i))) g (eO 1 [.ref ak, .ref aq, vI ((gna fo f q a i : Nat) : Int)])), X κ 0 0 h1 [(0, .ref g), (1, .ref o), (2, vI ((i : Nat) : Int))] 2 [] := by
    intro n
    induction n with
    | zero => intro i h1 fg fk fq fo1 fo2 hi hm he; exfalso; omega
    | succ n ihLP =>
      intro i h1 fg fk fq fo1 fo2 hi hm he
      refine x_iload_n C dX1_putAllOf_2 2 rfl ?_
      refine x_bipush C dX1_putAllOf_3 96 (by decide) ?_
      refine x_icmp_ge (tgt := 24) C dX1_putAllOf_5 (by decide) (by omega) (by omega) (fun c2 => ?_) (fun c2 => ?_)
      · skip
        refine x_vret C G dX1_putAllOf_24 ?_ (by decide) (by decide)
        obtain rfl : i = 96 := by omega
        exact ⟨rfl, he⟩
      · skip
        refine x_aload_n C dX1_putAllOf_8 0 rfl ?_
        refine x_iload_n C dX1_putAllOf_9 2 rfl ?_
        refine x_aload_n C dX1_putAllOf_10 1 rfl ?_
        refine x_iload_n C dX1_putAllOf_11 2 rfl ?_
        refine x_callV C (n := 1) (qc := (RX1, TX1, 3)) (As := [vI ((i : Nat) : Int)]) (rest := [vI ((i : Nat) : Int), .ref g]) (c_X1_kindAt fo1 fo2 (by omega)) gX1_putAllOf_X1_kindAt (by decide +kernel) fo1 rfl rfl rfl rfl (Nat.le_of_ble_eq_true rfl) ⟨by decide, by decide⟩ ⟨by decide, by decide⟩ dX1_putAllOf_12 (fun rv3 h4 hp5 => ?_)
        obtain ⟨rfl, e6⟩ := hp5
        obtain rfl := e6.symm
        refine x_topv (show kAt fo (((i : Nat) : Int)) = fo i from by rw [kAt, if_pos ⟨by omega, by omega⟩]; rfl) ?_
        refine x_callV C (n := 2) (qc := (RX1, TX1, 3)) (As := [vI ((i : Nat) : Int), vI (fo i)]) (rest := []) (c_X1_put fg fk fq (by omega) (hfo i) (gnf_r hfo hf i) (gnq_r hq i (by omega))) gX1_putAllOf_X1_put (by decide +kernel) fg rfl rfl rfl rfl (Nat.le_of_ble_eq_true rfl) ⟨by decide, by decide⟩ ⟨by decide, by decide⟩ dX1_putAllOf_15 (fun rv7 h8 hp9 => ?_)
        obtain ⟨rfl, e10⟩ := hp9
        have f11 : h8 g = some (eO 1 [.ref ak, .ref aq, vI ((gpa (gnf fo f i) (gnq fo f q i) (gna fo f q a i) (((i : Nat) : Int)) (fo i) : Nat) : Int)]) := by rw [e10]; exact hu_s
        have n13 : nq aq g := vnt fq fg (p := (0, 3)) (q := (3, 1)) rfl rfl (by decide)
        have f12 : h8 aq = some (eI D 3 (gpq (gnf fo f i) (gnq fo f q i) (((i : Nat) : Int)) (fo i))) := by rw [e10, hu_n n13]; exact hu_s
        have n15 : nq ak g := vnt fk fg (p := (0, 96)) (q := (3, 1)) rfl rfl (by decide)
        have n16 : nq ak aq := vnt fk fq (p := (0, 96)) (q := (0, 3)) rfl rfl (by decide)
        have f14 : h8 ak = some (eI D 96 (fu (gnf fo f i) (((i : Nat) : Int)).toNat (fo i))) := by rw [e10, hu_n n15, hu_n n16]; exact hu_s
        refine x_iinc C (x := ((i : Nat) : Int)) (ls' := [(0, .ref g), (1, .ref o), (2, vI ((((i : Nat) : Int)) + 1))]) dX1_putAllOf_18 2 rfl (by decide) rfl ?_
        refine x_goto (tgt := 2) C dX1_putAllOf_21 (by decide) ?_
        have n18 : nq o aq := vnt fo1 fq (p := (3, 1)) (q := (0, 3)) rfl rfl (by decide)
        have n19 : nq o ak := vnt fo1 fk (p := (3, 1)) (q := (0, 96)) rfl rfl (by decide)
        have f17 : h8 o = some (eO 1 [.ref ok, x1, x2]) := by rw [e10, hu_n hog, hu_n n18, hu_n n19]; exact fo1
        have n21 : nq ok g := vnt fo2 fg (p := (0, 96)) (q := (3, 1)) rfl rfl (by decide)
        have n22 : nq ok aq := vnt fo2 fq (p := (0, 96)) (q := (0, 3)) rfl rfl (by decide)
        have f20 : h8 ok = some (eI D 96 fo) := by rw [e10, hu_n n21, hu_n n22, hu_n hka]; exact fo2
        exact ihLP (i + 1) h8 f11 f14 f12 f17 f20 (by omega) (by omega) (by rw [e10, he, hu3 nn2 nn0 nn1]; rfl)
  exact LP (97) 0 h hg hk hqq ho hok (by omega) (by omega) (by show h = hu (hu (hu h ak (eI D 96 f)) aq (eI D 3 q)) g (eO 1 [.ref ak, .ref aq, vI ((a : Nat) : Int)]); rw [hu_i hk, hu_i hqq, hu_i hg])

theorem kX1_init_0 : Cond.methodLink "LedgeLevels$Grid" 3 Lib.objectInit ∈ wsX1_init := by decide +kernel
theorem kX1_init_1 : Cond.instanceMethod Lib.objectInit ∈ wsX1_init := by decide +kernel
theorem kX1_init_2 : Cond.code Lib.objectInit ⟨#[0xb1]⟩ 1 none ∈ wsX1_init := by decide +kernel
theorem kX1_init_3 : Cond.arrayClass (newarray.typeOf .int) ∈ wsX1_init := by decide +kernel
theorem kX1_init_4 : Cond.fieldLink "LedgeLevels$Grid" 9 "LedgeLevels$Grid" "kinds" "[I" ∈ wsX1_init := by decide +kernel
theorem kX1_init_5 : ∀ w ∈ wsX10, w ∈ wsX1_init := by decide +kernel
theorem kX1_init_6 : Cond.fieldLink "LedgeLevels$Grid" 15 "LedgeLevels$Grid" "keyCells" "[I" ∈ wsX1_init := by decide +kernel
theorem kX1_init_7 : Cond.fieldLink "LedgeLevels$Grid" 18 "LedgeLevels$Grid" "allKeys" "I" ∈ wsX1_init := by decide +kernel
set_option maxRecDepth 100000 in
set_option maxHeartbeats 1000000 in
theorem c_X1_init {l : Launch} {D : va_G} {A : Nat → Prop} {h : vh} {g : Nat} (hg : h g = some (eO 1 [.null, .null, vI 0]))  : MX l D A yX1_init wsX1_init { frames := 1, cells := 2, slots := 99, locals := 20 } [.ref g] h (fun rv h' => rv = none ∧ ∃ ak aq : Nat, h ak = none ∧ h aq = none ∧ ak ≠ aq ∧ h' = hu (hu (hu h ak (eI D 96 (fun _ => 0))) aq (eI D 3 (fun j => if j < 3 then -1 else 0))) g (eO 1 [.ref ak, .ref aq, vI ((0 : Nat) : Int)])) := by
  refine MX.of (cc := cX1_init) (maxL := 1) (ret := none) [(0, .ref g)] (by decide +kernel) rfl rfl (Nat.le_of_ble_eq_true rfl) ?_
  intro κ C hkl G
  subst hkl
  have C : CX κ "LedgeLevels$Grid" "<init>" cX1_init wsX1_init { frames := 1, cells := 2, slots := 99, locals := 20 } D A 1 := C
  have hiz : nq (D.1 20) (D.1 21) := cx_iz C
  refine x_aload_n C dX1_init_0 0 rfl ?_
  refine x_objInit C kX1_init_0 kX1_init_1 kX1_init_2 (by decide) (by decide) dX1_init_1 ?_
  refine x_aload_n C dX1_init_4 0 rfl ?_
  refine x_bipush C dX1_init_5 96 (by decide) ?_
  refine x_newI C (N := 96) kX1_init_3 (by decide) (by decide) (by decide) (by decide) dX1_init_7 (fun q1 nq4 => x_hn (fun h2 e3 => ?_))
  have nb5 : h q1 = none := nq4
  have f6 : h2 q1 = some (eI D 96 (fun _ => 0)) := by rw [e3]; exact hu_s
  have f7 : h2 g = some (eO 1 [.null, .null, vI 0]) := by rw [e3, hu_n (vnn hg nq4)]; exact hg
  refine x_putF C f7 (T := TX1) rfl tyX1_ok nmX1 kX1_init_5 0 (by decide) kX1_init_4 rfl rfl rfl (fs' := [.ref q1, .null, vI 0]) rfl rfl (by simp) rfl dX1_init_9 (x_hn (fun h8 e9 => ?_))
  have f10 : h8 g = some (eO 1 [.ref q1, .null, vI 0]) := by rw [e9]; exact hu_s
  refine x_aload_n C dX1_init_12 0 rfl ?_
  refine x_iconst C dX1_init_13 3 (by decide) ?_
  refine x_newI C (N := 3) kX1_init_3 (by decide) (by decide) (by decide) (by decide) dX1_init_14 (fun q11 nq14 => x_hn (fun h12 e13 => ?_))
  have nb15 : h q11 = none := by rw [e9, e3] at nq14; exact (hu_none (hu_none nq14).1).1
  have f16 : h12 q11 = some (eI D 3 (fun _ => 0)) := by rw [e13]; exact hu_s
  have f17 : h8 q1 = some (eI D 96 (fun _ => 0)) := by rw [e9, hu_n (Ne.symm (vnn hg nq4))]; exact f6
  refine x_dup C dX1_init_16 rfl ?_
  refine x_iconst C dX1_init_17 0 (by decide) ?_
  refine x_iconst C dX1_init_18 (-1) (by decide) ?_
  refine x_iast C f16 ⟨by omega, by omega⟩ (by decide) dX1_init_19 (x_hn (fun h18 e19 => ?_))
  have f20 : h18 q11 = some (eI D 3 (fu (fun _ => 0) (Int.toNat 0) ((-1)))) := by rw [e19]; exact hu_s
  refine x_dup C dX1_init_20 rfl ?_
  refine x_iconst C dX1_init_21 1 (by decide) ?_
  refine x_iconst C dX1_init_22 (-1) (by decide) ?_
  refine x_iast C f20 ⟨by omega, by omega⟩ (by decide) dX1_init_23 (x_hn (fun h21 e22 => ?_))
  have f23 : h21 q11 = some (eI D 3 (fu (fu (fun _ => 0) (Int.toNat 0) ((-1))) (Int.toNat 1) ((-1)))) := by rw [e22]; exact hu_s
  refine x_dup C dX1_init_24 rfl ?_
  refine x_iconst C dX1_init_25 2 (by decide) ?_
  refine x_iconst C dX1_init_26 (-1) (by decide) ?_
  refine x_iast C f23 ⟨by omega, by omega⟩ (by decide) dX1_init_27 (x_hn (fun h24 e25 => ?_))
  have f26 : h24 q11 = some (eI D 3 (fu (fu (fu (fun _ => 0) (Int.toNat 0) ((-1))) (Int.toNat 1) ((-1))) (Int.toNat 2) ((-1)))) := by rw [e25]; exact hu_s
  have f27 : h12 g = some (eO 1 [.ref q1, .null, vI 0]) := by rw [e13, hu_n (vnn f10 nq14)]; exact f10
  have f28 : h18 g = some (eO 1 [.ref q1, .null, vI 0]) := by rw [e19, hu_n (vnn f10 nq14)]; exact f27
  have f29 : h21 g = some (eO 1 [.ref q1, .null, vI 0]) := by rw [e22, hu_n (vnn f10 nq14)]; exact f28
  have f30 : h24 g = some (eO 1 [.ref q1, .null, vI 0]) := by rw [e25, hu_n (vnn f10 nq14)]; exact f29
  refine x_putF C f30 (T := TX1) rfl tyX1_ok nmX1 kX1_init_5 1 (by decide) kX1_init_6 rfl rfl rfl (fs' := [.ref q1, .ref q11, vI 0]) rfl rfl (by simp) rfl dX1_init_28 (x_hn (fun h31 e32 => ?_))
  have f33 : h31 g = some (eO 1 [.ref q1, .ref q11, vI 0]) := by rw [e32]; exact hu_s
  refine x_aload_n C dX1_init_31 0 rfl ?_
  refine x_iconst C dX1_init_32 0 (by decide) ?_
  refine x_put C f33 (T := TX1) rfl tyX1_ok nmX1 kX1_init_5 2 (by decide) kX1_init_7 rfl (fs' := [.ref q1, .ref q11, vI 0]) rfl rfl (by simp) rfl dX1_init_33 (x_hn (fun h34 e35 => ?_))
  have f36 : h34 g = some (eO 1 [.ref q1, .ref q11, vI 0]) := by rw [e35]; exact hu_s
  refine x_vret C G dX1_init_36 ?_ (by decide) (by decide)
  refine ⟨rfl, q1, q11, nb5, nb15, (vnn f17 nq14), ?_⟩
  have g0 := vnn hg nb5
  have g1 := vnn hg nb15
  have g2 := (vnn f17 nq14)
  rw [e35, e32, e25, e22, e19, e13, e9, e3]
  funext b9
  by_cases b1 : b9 = g
  · rw [b1]; simp [hu, g0, g1]
  · by_cases b2 : b9 = q11
    · rw [b2]; simp [hu, Ne.symm g1, Ne.symm g2]; funext j; simp [fu]; (repeat' split) <;> first | rfl | (exfalso; omega)
    · by_cases b3 : b9 = q1
      · rw [b3]; simp [hu, Ne.symm g0, g2]
      · simp [hu, b1, b2, b3]


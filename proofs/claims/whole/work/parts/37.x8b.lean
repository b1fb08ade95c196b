theorem cu3k {m : CS} {a b c : Nat} {x y z x' y' z' : Nat → Int} : cu (cu (cu (cu (cu (cu m a 0 x) b 0 y) c 0 z) a 0 x') b 0 y') c 0 z' = cu (cu (cu m a 0 x') b 0 y') c 0 z' := by
  funext k i
  by_cases h1 : k = c ∧ i = 0
  · simp only [cu, if_pos h1]
  · by_cases h2 : k = b ∧ i = 0
    · simp only [cu, if_neg h1, if_pos h2]
    · by_cases h3 : k = a ∧ i = 0
      · simp only [cu, if_neg h1, if_neg h2, if_pos h3]
      · simp only [cu, if_neg h1, if_neg h2, if_neg h3]
theorem fu_u {f : Nat → Int} {k : Nat} {x y : Int} : fu (fu f k x) k y = fu f k y := by
  funext j
  by_cases h : j = k
  · simp only [fu, if_pos h]
  · simp only [fu, if_neg h]
/-- the ground is laid: n cells of src so far -/
def lyG (src g : Nat → Int) (n : Nat) : Nat → Int := fun j => if j < n then src j else g j
def lyA (src : Nat → Int) : Nat → Nat
  | 0 => 0
  | n + 1 => lyA src n + (if src n = 2 then lyA src n + 1 else 0)
def lyB (src b : Nat → Int) (n : Nat) : Nat → Int := fun j => if j < n then (if src j = 2 then ((lyA src j + 1 : Nat) : Int) else 0) else b j
theorem lyA_m {src : Nat → Int} : ∀ {n k : Nat}, n ≤ k → lyA src n ≤ lyA src k := by
  intro n k h
  induction k with
  | zero => have : n = 0 := by omega
            subst this; exact Nat.le_refl _
  | succ k ih =>
    by_cases q : n = k + 1
    · subst q; exact Nat.le_refl _
    · have h1 := ih (by omega)
      show _ ≤ lyA src k + _
      omega
theorem lyG_0 {src g : Nat → Int} : lyG src g 0 = g := by funext j; exact if_neg (Nat.not_lt_zero _)
theorem lyB_0 {src g : Nat → Int} : lyB src g 0 = g := by funext j; exact if_neg (Nat.not_lt_zero _)
theorem lyG_s {src g : Nat → Int} {n : Nat} : fu (lyG src g n) n (src n) = lyG src g (n + 1) := by
  funext j
  unfold fu lyG
  by_cases q : j = n
  · rw [if_pos q, if_pos (by omega), q]
  · rw [if_neg q]
    by_cases r : j < n
    · rw [if_pos r, if_pos (by omega)]
    · rw [if_neg r, if_neg (by omega)]
theorem lyB_s {src b : Nat → Int} {n : Nat} {z : Int} (hz : z = if src n = 2 then ((lyA src n + 1 : Nat) : Int) else 0) : fu (lyB src b n) n z = lyB src b (n + 1) := by
  funext j
  unfold fu lyB
  by_cases q : j = n
  · rw [if_pos q, if_pos (by omega), q, hz]
  · rw [if_neg q]
    by_cases r : j < n
    · rw [if_pos r, if_pos (show j < n + 1 by omega)]
    · rw [if_neg r, if_neg (show ¬ j < n + 1 by omega)]
def layN (m : CS) (src : Nat → Int) (n : Nat) : CS := cu (cu (cu m 28 0 (lyG src (m 28 0) n)) 29 0 (lyB src (m 29 0) n)) 0 0 (fu (m 0 0) 30 ((lyA src n : Nat) : Int))
theorem layN_0 {m : CS} {src : Nat → Int} : layN m src 0 = cu m 0 0 (fu (m 0 0) 30 0) := by
  unfold layN
  rw [lyG_0, lyB_0]
  funext k i
  by_cases h1 : k = 0 ∧ i = 0
  · simp only [cu, if_pos h1]; rfl
  · by_cases h2 : k = 29 ∧ i = 0
    · simp only [cu, if_neg h1, if_pos h2]; rw [h2.1, h2.2]
    · by_cases h3 : k = 28 ∧ i = 0
      · simp only [cu, if_neg h1, if_neg h2, if_pos h3]; rw [h3.1, h3.2]
      · simp only [cu, if_neg h1, if_neg h2, if_neg h3]
theorem layN_s {m : CS} {src : Nat → Int} {n : Nat} {z : Int} (hz : z = if src n = 2 then ((lyA src n + 1 : Nat) : Int) else 0) : cu (cu (cu (layN m src n) 28 0 (fu (lyG src (m 28 0) n) n (src n))) 29 0 (fu (lyB src (m 29 0) n) n z)) 0 0 (fu (layN m src n 0 0) 30 ((lyA src (n + 1) : Nat) : Int)) = layN m src (n + 1) := by
  rw [lyG_s, lyB_s hz, show layN m src n 0 0 = fu (m 0 0) 30 ((lyA src n : Nat) : Int) from cu_s, fu_u]
  unfold layN
  rw [cu3k]

theorem kX8_lays_0 : Cond.fieldLink "LedgeLevelsModel" 115 "LedgeLevelsModel" "allKeys" "I" ∈ wsX8_lays := by decide +kernel
theorem kX8_lays_1 : ∀ w ∈ wsX80, w ∈ wsX8_lays := by decide +kernel
theorem kX8_lays_2 : Cond.fieldLink "LedgeLevelsModel" 85 "LedgeLevelsModel" "ground" "[I" ∈ wsX8_lays := by decide +kernel
theorem kX8_lays_3 : Cond.fieldLink "LedgeLevelsModel" 16 "LedgeLevelsModel" "grid" "[I" ∈ wsX8_lays := by decide +kernel
theorem kX8_lays_4 : Cond.fieldLink "LedgeLevelsModel" 88 "LedgeLevelsModel" "keyBit" "[I" ∈ wsX8_lays := by decide +kernel
theorem kX8_lays_5 : Cond.fieldLink "LedgeLevelsModel" 49 "LedgeLevelsModel" "shape" "[I" ∈ wsX8_lays := by decide +kernel
set_option maxRecDepth 100000 in
set_option maxHeartbeats 1000000 in
theorem c_X8_lays {l : Launch} {D : va_G} {A : Nat → Prop} {h : vh} {am : AD} {m : CS} {b k : Int} {src : Nat → Int}  (hR : RepM D am m h) (hb : 0 ≤ b ∧ b ≤ 1) (hk : 0 ≤ k ∧ k < 20 ∧ (b = 0 → k < 12)) (hs : ∀ j : Nat, j < 96 → src j = (if b = 0 then m 4 0 (Int.toNat (96 * k + j)) else m 16 0 (Int.toNat (96 * k + j)))) (hsr : ∀ j : Nat, 0 ≤ src j ∧ src j ≤ 8) (hA : lyA src 96 ≤ 7) : MX l D A yX8_lays wsX8_lays { frames := 0, cells := 0, slots := 0, locals := 0 } [.ref (am 0 0), vI b, vI k] h (fun rv h' => rv = none ∧ MP D am h (layN m src 96) h') := by
  refine MX.of (cc := cX8_lays) (maxL := 4) (ret := none) [(0, .ref (am 0 0)), (1, vI b), (2, vI k)] (by decide +kernel) rfl rfl (Nat.le_of_ble_eq_true rfl) ?_
  intro κ C hkl G
  subst hkl
  have C : CX κ "LedgeLevelsModel" "lays" cX8_lays wsX8_lays { frames := 0, cells := 0, slots := 0, locals := 0 } D A 4 := C
  have hiz : nq (D.1 20) (D.1 21) := cx_iz C
  refine x_aload_n C dX8_lays_0 0 rfl ?_
  refine x_iconst C dX8_lays_1 0 (by decide) ?_
  have f1 : h (am 0 0) = some (eO 8 [vI (m 0 0 0), .ref (am 1 0), vI (m 0 0 2), .ref (am 3 0), .ref (am 4 0), .ref (am 5 0), .ref (am 6 0), .ref (am 7 0), .ref (am 8 0), .ref (am 9 0), .ref (am 10 0), .ref (am 11 0), .ref (am 12 0), .ref (am 13 0), vI (m 0 0 14), .ref (am 15 0), .ref (am 16 0), .ref (am 17 0), .ref (am 18 0), .ref (am 19 0), .ref (am 20 0), .ref (am 21 0), .ref (am 22 0), .ref (am 23 0), .ref (am 24 0), .ref (am 25 0), .ref (am 26 0), .ref (am 27 0), .ref (am 28 0), .ref (am 29 0), vI (((m 0 0 30).toNat : Nat) : Int), vI (m 0 0 31), vI (m 0 0 32), vI (((m 0 0 33).toNat : Nat) : Int), vI (m 0 0 34), .ref (am 35 0), .ref (am 36 0), .ref (am 37 0)]) := hR.1 0 0 (lm0 (by decide))
  refine x_put C f1 (T := TX8) rfl tyX8_ok nmX8 kX8_lays_1 30 (by decide) kX8_lays_0 rfl (fs' := [vI (m 0 0 0), .ref (am 1 0), vI (m 0 0 2), .ref (am 3 0), .ref (am 4 0), .ref (am 5 0), .ref (am 6 0), .ref (am 7 0), .ref (am 8 0), .ref (am 9 0), .ref (am 10 0), .ref (am 11 0), .ref (am 12 0), .ref (am 13 0), vI (m 0 0 14), .ref (am 15 0), .ref (am 16 0), .ref (am 17 0), .ref (am 18 0), .ref (am 19 0), .ref (am 20 0), .ref (am 21 0), .ref (am 22 0), .ref (am 23 0), .ref (am 24 0), .ref (am 25 0), .ref (am 26 0), .ref (am 27 0), .ref (am 28 0), .ref (am 29 0), vI ((0 : Nat) : Int), vI (m 0 0 31), vI (m 0 0 32), vI (((m 0 0 33).toNat : Nat) : Int), vI (m 0 0 34), .ref (am 35 0), .ref (am 36 0), .ref (am 37 0)]) rfl rfl (by simp) rfl dX8_lays_2 (x_hn (fun h2 e3 => ?_))
  have f4 : h2 (am 0 0) = some (eO 8 [vI (m 0 0 0), .ref (am 1 0), vI (m 0 0 2), .ref (am 3 0), .ref (am 4 0), .ref (am 5 0), .ref (am 6 0), .ref (am 7 0), .ref (am 8 0), .ref (am 9 0), .ref (am 10 0), .ref (am 11 0), .ref (am 12 0), .ref (am 13 0), vI (m 0 0 14), .ref (am 15 0), .ref (am 16 0), .ref (am 17 0), .ref (am 18 0), .ref (am 19 0), .ref (am 20 0), .ref (am 21 0), .ref (am 22 0), .ref (am 23 0), .ref (am 24 0), .ref (am 25 0), .ref (am 26 0), .ref (am 27 0), .ref (am 28 0), .ref (am 29 0), vI ((0 : Nat) : Int), vI (m 0 0 31), vI (m 0 0 32), vI (((m 0 0 33).toNat : Nat) : Int), vI (m 0 0 34), .ref (am 35 0), .ref (am 36 0), .ref (am 37 0)]) := by rw [e3]; exact hu_s
  refine x_iconst C dX8_lays_5 0 (by decide) ?_
  refine x_istore_n C (ls' := [(0, .ref (am 0 0)), (1, vI b), (2, vI k), (3, vI 0)]) dX8_lays_6 (by decide) rfl ?_
  have LP : ∀ (N : Nat) (n : Nat) (h5 : vh)   (hn : n ≤ 96) (hN : 96 - n < N) (hcp : MP D am h (layN m src n) h5), X κ 0 0 h5 [(0, .ref (am 0 0)), (1, vI b), (2, vI k), (3, vI ((n : Nat) : Int))] 7 [] := by
    intro N
    induction N with
    | zero => intro n h5 hn hN hcp; exfalso; omega
    | succ N ihLP =>
      intro n h5 hn hN hcp
      have hA9 := lyA_m (src := src) hn
      have hs9 := hs n
      have hr9 := hsr n
      refine x_iload_n C dX8_lays_7 3 rfl ?_
      refine x_bipush C dX8_lays_8 96 (by decide) ?_
      refine x_icmp_ge (tgt := 95) C dX8_lays_10 (by decide) (by omega) (by omega) (fun c6 => ?_) (fun c6 => ?_)
      · skip
        refine x_vret C G dX8_lays_95 ?_ (by decide) (by decide)
        obtain rfl : n = 96 := by omega
        exact ⟨rfl, hcp⟩
      · skip
        have f7 : h5 (am 0 0) = some (eO 8 [vI (((layN m src n) 0 0) 0), .ref (am 1 0), vI (((layN m src n) 0 0) 2), .ref (am 3 0), .ref (am 4 0), .ref (am 5 0), .ref (am 6 0), .ref (am 7 0), .ref (am 8 0), .ref (am 9 0), .ref (am 10 0), .ref (am 11 0), .ref (am 12 0), .ref (am 13 0), vI (((layN m src n) 0 0) 14), .ref (am 15 0), .ref (am 16 0), .ref (am 17 0), .ref (am 18 0), .ref (am 19 0), .ref (am 20 0), .ref (am 21 0), .ref (am 22 0), .ref (am 23 0), .ref (am 24 0), .ref (am 25 0), .ref (am 26 0), .ref (am 27 0), .ref (am 28 0), .ref (am 29 0), vI (((((layN m src n) 0 0) 30).toNat : Nat) : Int), vI (((layN m src n) 0 0) 31), vI (((layN m src n) 0 0) 32), vI (((((layN m src n) 0 0) 33).toNat : Nat) : Int), vI (((layN m src n) 0 0) 34), .ref (am 35 0), .ref (am 36 0), .ref (am 37 0)]) := hcp.1.1 0 0 (lm0 (by decide))
        have f8 : h5 (am 0 0) = some (eO 8 [vI (((layN m src n) 0 0) 0), .ref (am 1 0), vI (((layN m src n) 0 0) 2), .ref (am 3 0), .ref (am 4 0), .ref (am 5 0), .ref (am 6 0), .ref (am 7 0), .ref (am 8 0), .ref (am 9 0), .ref (am 10 0), .ref (am 11 0), .ref (am 12 0), .ref (am 13 0), vI (((layN m src n) 0 0) 14), .ref (am 15 0), .ref (am 16 0), .ref (am 17 0), .ref (am 18 0), .ref (am 19 0), .ref (am 20 0), .ref (am 21 0), .ref (am 22 0), .ref (am 23 0), .ref (am 24 0), .ref (am 25 0), .ref (am 26 0), .ref (am 27 0), .ref (am 28 0), .ref (am 29 0), vI ((lyA src n : Nat) : Int), vI (((layN m src n) 0 0) 31), vI (((layN m src n) 0 0) 32), vI (((((layN m src n) 0 0) 33).toNat : Nat) : Int), vI (((layN m src n) 0 0) 34), .ref (am 35 0), .ref (am 36 0), .ref (am 37 0)]) := by have q9 := f7; exact q9
        have f9 : h5 (am 28 0) = some (eI D 96 (((layN m src n) 28 0))) := hcp.1.1 28 0 (lm0 (by decide))
        have f10 : h5 (am 28 0) = some (eI D 96 (lyG src (m 28 0) n)) := by have q9 := f9; exact q9
        have f11 : h5 (am 29 0) = some (eI D 96 (((layN m src n) 29 0))) := hcp.1.1 29 0 (lm0 (by decide))
        have f12 : h5 (am 29 0) = some (eI D 96 (lyB src (m 29 0) n)) := by have q9 := f11; exact q9
        have f13 : h5 (am 4 0) = some (eI D 1152 (((layN m src n) 4 0))) := hcp.1.1 4 0 (lm0 (by decide))
        have f14 : h5 (am 4 0) = some (eI D 1152 (m 4 0)) := by have q9 := f13; exact q9
        have f15 : h5 (am 16 0) = some (eI D 1920 (((layN m src n) 16 0))) := hcp.1.1 16 0 (lm0 (by decide))
        have f16 : h5 (am 16 0) = some (eI D 1920 (m 16 0)) := by have q9 := f15; exact q9
        refine x_aload_n C dX8_lays_13 0 rfl ?_
        refine x_get C (v := .ref (am 28 0)) f8 (T := TX8) rfl kX8_lays_1 28 (by decide) kX8_lays_2 rfl dX8_lays_14 ?_
        refine x_iload_n C dX8_lays_17 3 rfl ?_
        refine x_iload_n C dX8_lays_18 1 rfl ?_
        refine x_if_eq (tgt := 36) C dX8_lays_19 (by decide) (by omega) (fun c17 => ?_) (fun c17 => ?_)
        · skip
          refine x_aload_n C dX8_lays_36 0 rfl ?_
          refine x_get C (v := .ref (am 4 0)) f8 (T := TX8) rfl kX8_lays_1 4 (by decide) kX8_lays_3 rfl dX8_lays_37 ?_
          refine x_bipush C dX8_lays_40 96 (by decide) ?_
          refine x_iload_n C dX8_lays_42 2 rfl ?_
          refine x_imul C dX8_lays_43 ?_
          refine x_iload_n C dX8_lays_44 3 rfl ?_
          refine x_iadd C dX8_lays_45 ?_
          refine x_iald C f14 ⟨by omega, by omega⟩ (by decide) dX8_lays_46 ?_
          refine x_topv (show (m 4 0) (Int.toNat ((96 * k) + (((n : Nat) : Int)))) = src n from by rw [hs9 (by omega), if_pos (by assumption)]) ?_
          refine x_iast C f10 ⟨by omega, by omega⟩ (by decide) dX8_lays_47 (x_hn (fun h18 e19 => ?_))
          have f20 : h18 (am 28 0) = some (eI D 96 (fu (lyG src (m 28 0) n) (Int.toNat (((n : Nat) : Int))) (src n))) := by rw [e19]; exact hu_s
          refine x_aload_n C dX8_lays_48 0 rfl ?_
          have f21 : h18 (am 0 0) = some (eO 8 [vI (((layN m src n) 0 0) 0), .ref (am 1 0), vI (((layN m src n) 0 0) 2), .ref (am 3 0), .ref (am 4 0), .ref (am 5 0), .ref (am 6 0), .ref (am 7 0), .ref (am 8 0), .ref (am 9 0), .ref (am 10 0), .ref (am 11 0), .ref (am 12 0), .ref (am 13 0), vI (((layN m src n) 0 0) 14), .ref (am 15 0), .ref (am 16 0), .ref (am 17 0), .ref (am 18 0), .ref (am 19 0), .ref (am 20 0), .ref (am 21 0), .ref (am 22 0), .ref (am 23 0), .ref (am 24 0), .ref (am 25 0), .ref (am 26 0), .ref (am 27 0), .ref (am 28 0), .ref (am 29 0), vI ((lyA src n : Nat) : Int), vI (((layN m src n) 0 0) 31), vI (((layN m src n) 0 0) 32), vI (((((layN m src n) 0 0) 33).toNat : Nat) : Int), vI (((layN m src n) 0 0) 34), .ref (am 35 0), .ref (am 36 0), .ref (am 37 0)]) := by rw [e19, hu_n (hcp.1.ne (lm0 (by decide)) (lm0 (by decide)) (fun zz9 => absurd zz9.1 (by decide)))]; exact f8
          refine x_get C (v := .ref (am 29 0)) f21 (T := TX8) rfl kX8_lays_1 29 (by decide) kX8_lays_4 rfl dX8_lays_49 ?_
          refine x_iload_n C dX8_lays_52 3 rfl ?_
          refine x_aload_n C dX8_lays_53 0 rfl ?_
          refine x_get C (v := .ref (am 28 0)) f21 (T := TX8) rfl kX8_lays_1 28 (by decide) kX8_lays_2 rfl dX8_lays_54 ?_
          refine x_iload_n C dX8_lays_57 3 rfl ?_
          refine x_iald C f20 ⟨by omega, by omega⟩ (by decide) dX8_lays_58 ?_
          refine x_topv (show (fu (lyG src (m 28 0) n) (Int.toNat (((n : Nat) : Int))) (src n)) (Int.toNat (((n : Nat) : Int))) = src n from by exact fu_s) ?_
          refine x_iconst C dX8_lays_59 2 (by decide) ?_
          refine x_icmp_ne (tgt := 72) C dX8_lays_60 (by decide) (by omega) (by omega) (fun c22 => ?_) (fun c22 => ?_)
          · skip
            refine x_iconst C dX8_lays_72 0 (by decide) ?_
            have f23 : h18 (am 29 0) = some (eI D 96 (lyB src (m 29 0) n)) := by rw [e19, hu_n (hcp.1.ne (lm0 (by decide)) (lm0 (by decide)) (fun zz9 => absurd zz9.1 (by decide)))]; exact f12
            refine x_iast C f23 ⟨by omega, by omega⟩ (by decide) dX8_lays_73 (x_hn (fun h24 e25 => ?_))
            have f26 : h24 (am 29 0) = some (eI D 96 (fu (lyB src (m 29 0) n) (Int.toNat (((n : Nat) : Int))) 0)) := by rw [e25]; exact hu_s
            refine x_aload_n C dX8_lays_74 0 rfl ?_
            refine x_dup C dX8_lays_75 rfl ?_
            have f27 : h24 (am 0 0) = some (eO 8 [vI (((layN m src n) 0 0) 0), .ref (am 1 0), vI (((layN m src n) 0 0) 2), .ref (am 3 0), .ref (am 4 0), .ref (am 5 0), .ref (am 6 0), .ref (am 7 0), .ref (am 8 0), .ref (am 9 0), .ref (am 10 0), .ref (am 11 0), .ref (am 12 0), .ref (am 13 0), vI (((layN m src n) 0 0) 14), .ref (am 15 0), .ref (am 16 0), .ref (am 17 0), .ref (am 18 0), .ref (am 19 0), .ref (am 20 0), .ref (am 21 0), .ref (am 22 0), .ref (am 23 0), .ref (am 24 0), .ref (am 25 0), .ref (am 26 0), .ref (am 27 0), .ref (am 28 0), .ref (am 29 0), vI ((lyA src n : Nat) : Int), vI (((layN m src n) 0 0) 31), vI (((layN m src n) 0 0) 32), vI (((((layN m src n) 0 0) 33).toNat : Nat) : Int), vI (((layN m src n) 0 0) 34), .ref (am 35 0), .ref (am 36 0), .ref (am 37 0)]) := by rw [e25, hu_n (hcp.1.ne (lm0 (by decide)) (lm0 (by decide)) (fun zz9 => absurd zz9.1 (by decide)))]; exact f21
            refine x_get C (v := vI ((lyA src n : Nat) : Int)) f27 (T := TX8) rfl kX8_lays_1 30 (by decide) kX8_lays_0 rfl dX8_lays_76 ?_
            refine x_aload_n C dX8_lays_79 0 rfl ?_
            refine x_get C (v := .ref (am 29 0)) f27 (T := TX8) rfl kX8_lays_1 29 (by decide) kX8_lays_4 rfl dX8_lays_80 ?_
            refine x_iload_n C dX8_lays_83 3 rfl ?_
            refine x_iald C f26 ⟨by omega, by omega⟩ (by decide) dX8_lays_84 ?_
            refine x_topv (show (fu (lyB src (m 29 0) n) (Int.toNat (((n : Nat) : Int))) 0) (Int.toNat (((n : Nat) : Int))) = ((if src n = 2 then lyA src n + 1 else 0 : Nat) : Int) from by first | (rw [if_pos (by assumption)]; exact fu_s) | (rw [if_neg (by assumption)]; exact fu_s)) ?_
            refine x_iadd C dX8_lays_85 ?_
            refine x_topv (show (((lyA src n : Nat) : Int)) + (((if src n = 2 then lyA src n + 1 else 0 : Nat) : Int)) = ((lyA src (n + 1) : Nat) : Int) from by show _ = ((lyA src n + (if src n = 2 then lyA src n + 1 else 0) : Nat) : Int); omega) ?_
            refine x_put C f27 (T := TX8) rfl tyX8_ok nmX8 kX8_lays_1 30 (by decide) kX8_lays_0 rfl (fs' := [vI (((layN m src n) 0 0) 0), .ref (am 1 0), vI (((layN m src n) 0 0) 2), .ref (am 3 0), .ref (am 4 0), .ref (am 5 0), .ref (am 6 0), .ref (am 7 0), .ref (am 8 0), .ref (am 9 0), .ref (am 10 0), .ref (am 11 0), .ref (am 12 0), .ref (am 13 0), vI (((layN m src n) 0 0) 14), .ref (am 15 0), .ref (am 16 0), .ref (am 17 0), .ref (am 18 0), .ref (am 19 0), .ref (am 20 0), .ref (am 21 0), .ref (am 22 0), .ref (am 23 0), .ref (am 24 0), .ref (am 25 0), .ref (am 26 0), .ref (am 27 0), .ref (am 28 0), .ref (am 29 0), vI ((lyA src (n + 1) : Nat) : Int), vI (((layN m src n) 0 0) 31), vI (((layN m src n) 0 0) 32), vI (((((layN m src n) 0 0) 33).toNat : Nat) : Int), vI (((layN m src n) 0 0) 34), .ref (am 35 0), .ref (am 36 0), .ref (am 37 0)]) rfl rfl (by simp) rfl dX8_lays_86 (x_hn (fun h28 e29 => ?_))
            have f30 : h28 (am 0 0) = some (eO 8 [vI (((layN m src n) 0 0) 0), .ref (am 1 0), vI (((layN m src n) 0 0) 2), .ref (am 3 0), .ref (am 4 0), .ref (am 5 0), .ref (am 6 0), .ref (am 7 0), .ref (am 8 0), .ref (am 9 0), .ref (am 10 0), .ref (am 11 0), .ref (am 12 0), .ref (am 13 0), vI (((layN m src n) 0 0) 14), .ref (am 15 0), .ref (am 16 0), .ref (am 17 0), .ref (am 18 0), .ref (am 19 0), .ref (am 20 0), .ref (am 21 0), .ref (am 22 0), .ref (am 23 0), .ref (am 24 0), .ref (am 25 0), .ref (am 26 0), .ref (am 27 0), .ref (am 28 0), .ref (am 29 0), vI ((lyA src (n + 1) : Nat) : Int), vI (((layN m src n) 0 0) 31), vI (((layN m src n) 0 0) 32), vI (((((layN m src n) 0 0) 33).toNat : Nat) : Int), vI (((layN m src n) 0 0) 34), .ref (am 35 0), .ref (am 36 0), .ref (am 37 0)]) := by rw [e29]; exact hu_s
            refine x_iinc C (x := ((n : Nat) : Int)) (ls' := [(0, .ref (am 0 0)), (1, vI b), (2, vI k), (3, vI ((((n : Nat) : Int)) + 1))]) dX8_lays_89 3 rfl (by decide) rfl ?_
            refine x_goto (tgt := 7) C dX8_lays_92 (by decide) ?_
            have cp31 : MP D am h (cu (cu (cu (layN m src n) 28 0 (fu (lyG src (m 28 0) n) (Int.toNat (((n : Nat) : Int))) (src n))) 29 0 (fu (lyB src (m 29 0) n) (Int.toNat (((n : Nat) : Int))) 0)) 0 0 ((fu ((layN m src n) 0 0) 30 ((lyA src (n + 1) : Nat) : Int)))) h28 := by rw [e29, e25, e19]; exact (MP.up (MP.up (MP.up hcp (lm0 (by decide)) (fu (lyG src (m 28 0) n) (Int.toNat (((n : Nat) : Int))) (src n)) rfl) (lm0 (by decide)) (fu (lyB src (m 29 0) n) (Int.toNat (((n : Nat) : Int))) 0) rfl) (lm0 (by decide)) ((fu ((layN m src n) 0 0) 30 ((lyA src (n + 1) : Nat) : Int))) rfl)
            exact ihLP (n + 1) h28 (by omega) (by omega) (by
    have q9 := cp31
    first
      | (rw [← layN_s (m := m) (src := src) (n := n) (z := ((lyA src n : Nat) : Int) + 1) ((if_pos (by assumption)).symm)]; exact q9)
      | (rw [← layN_s (m := m) (src := src) (n := n) (z := 0) ((if_neg (by assumption)).symm)]; exact q9))
          · skip
            refine x_aload_n C dX8_lays_63 0 rfl ?_
            refine x_get C (v := vI ((lyA src n : Nat) : Int)) f21 (T := TX8) rfl kX8_lays_1 30 (by decide) kX8_lays_0 rfl dX8_lays_64 ?_
            refine x_iconst C dX8_lays_67 1 (by decide) ?_
            refine x_iadd C dX8_lays_68 ?_
            refine x_goto (tgt := 73) C dX8_lays_69 (by decide) ?_
            have f32 : h18 (am 29 0) = some (eI D 96 (lyB src (m 29 0) n)) := by rw [e19, hu_n (hcp.1.ne (lm0 (by decide)) (lm0 (by decide)) (fun zz9 => absurd zz9.1 (by decide)))]; exact f12
            refine x_iast C f32 ⟨by omega, by omega⟩ (by decide) dX8_lays_73 (x_hn (fun h33 e34 => ?_))
            have f35 : h33 (am 29 0) = some (eI D 96 (fu (lyB src (m 29 0) n) (Int.toNat (((n : Nat) : Int))) ((((lyA src n : Nat) : Int)) + 1))) := by rw [e34]; exact hu_s
            refine x_aload_n C dX8_lays_74 0 rfl ?_
            refine x_dup C dX8_lays_75 rfl ?_
            have f36 : h33 (am 0 0) = some (eO 8 [vI (((layN m src n) 0 0) 0), .ref (am 1 0), vI (((layN m src n) 0 0) 2), .ref (am 3 0), .ref (am 4 0), .ref (am 5 0), .ref (am 6 0), .ref (am 7 0), .ref (am 8 0), .ref (am 9 0), .ref (am 10 0), .ref (am 11 0), .ref (am 12 0), .ref (am 13 0), vI (((layN m src n) 0 0) 14), .ref (am 15 0), .ref (am 16 0), .ref (am 17 0), .ref (am 18 0), .ref (am 19 0), .ref (am 20 0), .ref (am 21 0), .ref (am 22 0), .ref (am 23 0), .ref (am 24 0), .ref (am 25 0), .ref (am 26 0), .ref (am 27 0), .ref (am 28 0), .ref (am 29 0), vI ((lyA src n : Nat) : Int), vI (((layN m src n) 0 0) 31), vI (((layN m src n) 0 0) 32), vI (((((layN m src n) 0 0) 33).toNat : Nat) : Int), vI (((layN m src n) 0 0) 34), .ref (am 35 0), .ref (am 36 0), .ref (am 37 0)]) := by rw [e34, hu_n (hcp.1.ne (lm0 (by decide)) (lm0 (by decide)) (fun zz9 => absurd zz9.1 (by decide)))]; exact f21
            refine x_get C (v := vI ((lyA src n : Nat) : Int)) f36 (T := TX8) rfl kX8_lays_1 30 (by decide) kX8_lays_0 rfl dX8_lays_76 ?_
            refine x_aload_n C dX8_lays_79 0 rfl ?_
            refine x_get C (v := .ref (am 29 0)) f36 (T := TX8) rfl kX8_lays_1 29 (by decide) kX8_lays_4 rfl dX8_lays_80 ?_
            refine x_iload_n C dX8_lays_83 3 rfl ?_
            refine x_iald C f35 ⟨by omega, by omega⟩ (by decide) dX8_lays_84 ?_
            refine x_topv (show (fu (lyB src (m 29 0) n) (Int.toNat (((n : Nat) : Int))) ((((lyA src n : Nat) : Int)) + 1)) (Int.toNat (((n : Nat) : Int))) = ((if src n = 2 then lyA src n + 1 else 0 : Nat) : Int) from by first | (rw [if_pos (by assumption)]; exact fu_s) | (rw [if_neg (by assumption)]; exact fu_s)) ?_
            refine x_iadd C dX8_lays_85 ?_
            refine x_topv (show (((lyA src n : Nat) : Int)) + (((if src n = 2 then lyA src n + 1 else 0 : Nat) : Int)) = ((lyA src (n + 1) : Nat) : Int) from by show _ = ((lyA src n + (if src n = 2 then lyA src n + 1 else 0) : Nat) : Int); omega) ?_
            refine x_put C f36 (T := TX8) rfl tyX8_ok nmX8 kX8_lays_1 30 (by decide) kX8_lays_0 rfl (fs' := [vI (((layN m src n) 0 0) 0), .ref (am 1 0), vI (((layN m src n) 0 0) 2), .ref (am 3 0), .ref (am 4 0), .ref (am 5 0), .ref (am 6 0), .ref (am 7 0), .ref (am 8 0), .ref (am 9 0), .ref (am 10 0), .ref (am 11 0), .ref (am 12 0), .ref (am 13 0), vI (((layN m src n) 0 0) 14), .ref (am 15 0), .ref (am 16 0), .ref (am 17 0), .ref (am 18 0), .ref (am 19 0), .ref (am 20 0), .ref (am 21 0), .ref (am 22 0), .ref (am 23 0), .ref (am 24 0), .ref (am 25 0), .ref (am 26 0), .ref (am 27 0), .ref (am 28 0), .ref (am 29 0), vI ((lyA src (n + 1) : Nat) : Int), vI (((layN m src n) 0 0) 31), vI (((layN m src n) 0 0) 32), vI (((((layN m src n) 0 0) 33).toNat : Nat) : Int), vI (((layN m src n) 0 0) 34), .ref (am 35 0), .ref (am 36 0), .ref (am 37 0)]) rfl rfl (by simp) rfl dX8_lays_86 (x_hn (fun h37 e38 => ?_))
            have f39 : h37 (am 0 0) = some (eO 8 [vI (((layN m src n) 0 0) 0), .ref (am 1 0), vI (((layN m src n) 0 0) 2), .ref (am 3 0), .ref (am 4 0), .ref (am 5 0), .ref (am 6 0), .ref (am 7 0), .ref (am 8 0), .ref (am 9 0), .ref (am 10 0), .ref (am 11 0), .ref (am 12 0), .ref (am 13 0), vI (((layN m src n) 0 0) 14), .ref (am 15 0), .ref (am 16 0), .ref (am 17 0), .ref (am 18 0), .ref (am 19 0), .ref (am 20 0), .ref (am 21 0), .ref (am 22 0), .ref (am 23 0), .ref (am 24 0), .ref (am 25 0), .ref (am 26 0), .ref (am 27 0), .ref (am 28 0), .ref (am 29 0), vI ((lyA src (n + 1) : Nat) : Int), vI (((layN m src n) 0 0) 31), vI (((layN m src n) 0 0) 32), vI (((((layN m src n) 0 0) 33).toNat : Nat) : Int), vI (((layN m src n) 0 0) 34), .ref (am 35 0), .ref (am 36 0), .ref (am 37 0)]) := by rw [e38]; exact hu_s
            refine x_iinc C (x := ((n : Nat) : Int)) (ls' := [(0, .ref (am 0 0)), (1, vI b), (2, vI k), (3, vI ((((n : Nat) : Int)) + 1))]) dX8_lays_89 3 rfl (by decide) rfl ?_
            refine x_goto (tgt := 7) C dX8_lays_92 (by decide) ?_
            have cp40 : MP D am h (cu (cu (cu (layN m src n) 28 0 (fu (lyG src (m 28 0) n) (Int.toNat (((n : Nat) : Int))) (src n))) 29 0 (fu (lyB src (m 29 0) n) (Int.toNat (((n : Nat) : Int))) ((((lyA src n : Nat) : Int)) + 1))) 0 0 ((fu ((layN m src n) 0 0) 30 ((lyA src (n + 1) : Nat) : Int)))) h37 := by rw [e38, e34, e19]; exact (MP.up (MP.up (MP.up hcp (lm0 (by decide)) (fu (lyG src (m 28 0) n) (Int.toNat (((n : Nat) : Int))) (src n)) rfl) (lm0 (by decide)) (fu (lyB src (m 29 0) n) (Int.toNat (((n : Nat) : Int))) ((((lyA src n : Nat) : Int)) + 1)) rfl) (lm0 (by decide)) ((fu ((layN m src n) 0 0) 30 ((lyA src (n + 1) : Nat) : Int))) rfl)
            exact ihLP (n + 1) h37 (by omega) (by omega) (by
    have q9 := cp40
    first
      | (rw [← layN_s (m := m) (src := src) (n := n) (z := ((lyA src n : Nat) : Int) + 1) ((if_pos (by assumption)).symm)]; exact q9)
      | (rw [← layN_s (m := m) (src := src) (n := n) (z := 0) ((if_neg (by assumption)).symm)]; exact q9))
        · skip
          refine x_aload_n C dX8_lays_22 0 rfl ?_
          refine x_get C (v := .ref (am 16 0)) f8 (T := TX8) rfl kX8_lays_1 16 (by decide) kX8_lays_5 rfl dX8_lays_23 ?_
          refine x_bipush C dX8_lays_26 96 (by decide) ?_
          refine x_iload_n C dX8_lays_28 2 rfl ?_
          refine x_imul C dX8_lays_29 ?_
          refine x_iload_n C dX8_lays_30 3 rfl ?_
          refine x_iadd C dX8_lays_31 ?_
          refine x_iald C f16 ⟨by omega, by omega⟩ (by decide) dX8_lays_32 ?_
          refine x_topv (show (m 16 0) (Int.toNat ((96 * k) + (((n : Nat) : Int)))) = src n from by rw [hs9 (by omega), if_neg (by assumption)]) ?_
          refine x_goto (tgt := 47) C dX8_lays_33 (by decide) ?_
          refine x_iast C f10 ⟨by omega, by omega⟩ (by decide) dX8_lays_47 (x_hn (fun h41 e42 => ?_))
          have f43 : h41 (am 28 0) = some (eI D 96 (fu (lyG src (m 28 0) n) (Int.toNat (((n : Nat) : Int))) (src n))) := by rw [e42]; exact hu_s
          refine x_aload_n C dX8_lays_48 0 rfl ?_
          have f44 : h41 (am 0 0) = some (eO 8 [vI (((layN m src n) 0 0) 0), .ref (am 1 0), vI (((layN m src n) 0 0) 2), .ref (am 3 0), .ref (am 4 0), .ref (am 5 0), .ref (am 6 0), .ref (am 7 0), .ref (am 8 0), .ref (am 9 0), .ref (am 10 0), .ref (am 11 0), .ref (am 12 0), .ref (am 13 0), vI (((layN m src n) 0 0) 14), .ref (am 15 0), .ref (am 16 0), .ref (am 17 0), .ref (am 18 0), .ref (am 19 0), .ref (am 20 0), .ref (am 21 0), .ref (am 22 0), .ref (am 23 0), .ref (am 24 0), .ref (am 25 0), .ref (am 26 0), .ref (am 27 0), .ref (am 28 0), .ref (am 29 0), vI ((lyA src n : Nat) : Int), vI (((layN m src n) 0 0) 31), vI (((layN m src n) 0 0) 32), vI (((((layN m src n) 0 0) 33).toNat : Nat) : Int), vI (((layN m src n) 0 0) 34), .ref (am 35 0), .ref (am 36 0), .ref (am 37 0)]) := by rw [e42, hu_n (hcp.1.ne (lm0 (by decide)) (lm0 (by decide)) (fun zz9 => absurd zz9.1 (by decide)))]; exact f8
          refine x_get C (v := .ref (am 29 0)) f44 (T := TX8) rfl kX8_lays_1 29 (by decide) kX8_lays_4 rfl dX8_lays_49 ?_
          refine x_iload_n C dX8_lays_52 3 rfl ?_
          refine x_aload_n C dX8_lays_53 0 rfl ?_
          refine x_get C (v := .ref (am 28 0)) f44 (T := TX8) rfl kX8_lays_1 28 (by decide) kX8_lays_2 rfl dX8_lays_54 ?_
          refine x_iload_n C dX8_lays_57 3 rfl ?_
          refine x_iald C f43 ⟨by omega, by omega⟩ (by decide) dX8_lays_58 ?_
          refine x_topv (show (fu (lyG src (m 28 0) n) (Int.toNat (((n : Nat) : Int))) (src n)) (Int.toNat (((n : Nat) : Int))) = src n from by exact fu_s) ?_
          refine x_iconst C dX8_lays_59 2 (by decide) ?_
          refine x_icmp_ne (tgt := 72) C dX8_lays_60 (by decide) (by omega) (by omega) (fun c45 => ?_) (fun c45 => ?_)
          · skip
            refine x_iconst C dX8_lays_72 0 (by decide) ?_
            have f46 : h41 (am 29 0) = some (eI D 96 (lyB src (m 29 0) n)) := by rw [e42, hu_n (hcp.1.ne (lm0 (by decide)) (lm0 (by decide)) (fun zz9 => absurd zz9.1 (by decide)))]; exact f12
            refine x_iast C f46 ⟨by omega, by omega⟩ (by decide) dX8_lays_73 (x_hn (fun h47 e48 => ?_))
            have f49 : h47 (am 29 0) = some (eI D 96 (fu (lyB src (m 29 0) n) (Int.toNat (((n : Nat) : Int))) 0)) := by rw [e48]; exact hu_s
            refine x_aload_n C dX8_lays_74 0 rfl ?_
            refine x_dup C dX8_lays_75 rfl ?_
            have f50 : h47 (am 0 0) = some (eO 8 [vI (((layN m src n) 0 0) 0), .ref (am 1 0), vI (((layN m src n) 0 0) 2), .ref (am 3 0), .ref (am 4 0), .ref (am 5 0), .ref (am 6 0), .ref (am 7 0), .ref (am 8 0), .ref (am 9 0), .ref (am 10 0), .ref (am 11 0), .ref (am 12 0), .ref (am 13 0), vI (((layN m src n) 0 0) 14), .ref (am 15 0), .ref (am 16 0), .ref (am 17 0), .ref (am 18 0), .ref (am 19 0), .ref (am 20 0), .ref (am 21 0), .ref (am 22 0), .ref (am 23 0), .ref (am 24 0), .ref (am 25 0), .ref (am 26 0), .ref (am 27 0), .ref (am 28 0), .ref (am 29 0), vI ((lyA src n : Nat) : Int), vI (((layN m src n) 0 0) 31), vI (((layN m src n) 0 0) 32), vI (((((layN m src n) 0 0) 33).toNat : Nat) : Int), vI (((layN m src n) 0 0) 34), .ref (am 35 0), .ref (am 36 0), .ref (am 37 0)]) := by rw [e48, hu_n (hcp.1.ne (lm0 (by decide)) (lm0 (by decide)) (fun zz9 => absurd zz9.1 (by decide)))]; exact f44
            refine x_get C (v := vI ((lyA src n : Nat) : Int)) f50 (T := TX8) rfl kX8_lays_1 30 (by decide) kX8_lays_0 rfl dX8_lays_76 ?_
            refine x_aload_n C dX8_lays_79 0 rfl ?_
            refine x_get C (v := .ref (am 29 0)) f50 (T := TX8) rfl kX8_lays_1 29 (by decide) kX8_lays_4 rfl dX8_lays_80 ?_
            refine x_iload_n C dX8_lays_83 3 rfl ?_
            refine x_iald C f49 ⟨by omega, by omega⟩ (by decide) dX8_lays_84 ?_
            refine x_topv (show (fu (lyB src (m 29 0) n) (Int.toNat (((n : Nat) : Int))) 0) (Int.toNat (((n : Nat) : Int))) = ((if src n = 2 then lyA src n + 1 else 0 : Nat) : Int) from by first | (rw [if_pos (by assumption)]; exact fu_s) | (rw [if_neg (by assumption)]; exact fu_s)) ?_
            refine x_iadd C dX8_lays_85 ?_
            refine x_topv (show (((lyA src n : Nat) : Int)) + (((if src n = 2 then lyA src n + 1 else 0 : Nat) : Int)) = ((lyA src (n + 1) : Nat) : Int) from by show _ = ((lyA src n + (if src n = 2 then lyA src n + 1 else 0) : Nat) : Int); omega) ?_
            refine x_put C f50 (T := TX8) rfl tyX8_ok nmX8 kX8_lays_1 30 (by decide) kX8_lays_0 rfl (fs' := [vI (((layN m src n) 0 0) 0), .ref (am 1 0), vI (((layN m src n) 0 0) 2), .ref (am 3 0), .ref (am 4 0), .ref (am 5 0), .ref (am 6 0), .ref (am 7 0), .ref (am 8 0), .ref (am 9 0), .ref (am 10 0), .ref (am 11 0), .ref (am 12 0), .ref (am 13 0), vI (((layN m src n) 0 0) 14), .ref (am 15 0), .ref (am 16 0), .ref (am 17 0), .ref (am 18 0), .ref (am 19 0), .ref (am 20 0), .ref (am 21 0), .ref (am 22 0), .ref (am 23 0), .ref (am 24 0), .ref (am 25 0), .ref (am 26 0), .ref (am 27 0), .ref (am 28 0), .ref (am 29 0), vI ((lyA src (n + 1) : Nat) : Int), vI (((layN m src n) 0 0) 31), vI (((layN m src n) 0 0) 32), vI (((((layN m src n) 0 0) 33).toNat : Nat) : Int), vI (((layN m src n) 0 0) 34), .ref (am 35 0), .ref (am 36 0), .ref (am 37 0)]) rfl rfl (by simp) rfl dX8_lays_86 (x_hn (fun h51 e52 => ?_))
            have f53 : h51 (am 0 0) = some (eO 8 [vI (((layN m src n) 0 0) 0), .ref (am 1 0), vI (((layN m src n) 0 0) 2), .ref (am 3 0), .ref (am 4 0), .ref (am 5 0), .ref (am 6 0), .ref (am 7 0), .ref (am 8 0), .ref (am 9 0), .ref (am 10 0), .ref (am 11 0), .ref (am 12 0), .ref (am 13 0), vI (((layN m src n) 0 0) 14), .ref (am 15 0), .ref (am 16 0), .ref (am 17 0), .ref (am 18 0), .ref (am 19 0), .ref (am 20 0), .ref (am 21 0), .ref (am 22 0), .ref (am 23 0), .ref (am 24 0), .ref (am 25 0), .ref (am 26 0), .ref (am 27 0), .ref (am 28 0), .ref (am 29 0), vI ((lyA src (n + 1) : Nat) : Int), vI (((layN m src n) 0 0) 31), vI (((layN m src n) 0 0) 32), vI (((((layN m src n) 0 0) 33).toNat : Nat) : Int), vI (((layN m src n) 0 0) 34), .ref (am 35 0), .ref (am 36 0), .ref (am 37 0)]) := by rw [e52]; exact hu_s
            refine x_iinc C (x := ((n : Nat) : Int)) (ls' := [(0, .ref (am 0 0)), (1, vI b), (2, vI k), (3, vI ((((n : Nat) : Int)) + 1))]) dX8_lays_89 3 rfl (by decide) rfl ?_
            refine x_goto (tgt := 7) C dX8_lays_92 (by decide) ?_
            have cp54 : MP D am h (cu (cu (cu (layN m src n) 28 0 (fu (lyG src (m 28 0) n) (Int.toNat (((n : Nat) : Int))) (src n))) 29 0 (fu (lyB src (m 29 0) n) (Int.toNat (((n : Nat) : Int))) 0)) 0 0 ((fu ((layN m src n) 0 0) 30 ((lyA src (n + 1) : Nat) : Int)))) h51 := by rw [e52, e48, e42]; exact (MP.up (MP.up (MP.up hcp (lm0 (by decide)) (fu (lyG src (m 28 0) n) (Int.toNat (((n : Nat) : Int))) (src n)) rfl) (lm0 (by decide)) (fu (lyB src (m 29 0) n) (Int.toNat (((n : Nat) : Int))) 0) rfl) (lm0 (by decide)) ((fu ((layN m src n) 0 0) 30 ((lyA src (n + 1) : Nat) : Int))) rfl)
            exact ihLP (n + 1) h51 (by omega) (by omega) (by
    have q9 := cp54
    first
      | (rw [← layN_s (m := m) (src := src) (n := n) (z := ((lyA src n : Nat) : Int) + 1) ((if_pos (by assumption)).symm)]; exact q9)
      | (rw [← layN_s (m := m) (src := src) (n := n) (z := 0) ((if_neg (by assumption)).symm)]; exact q9))
          · skip
            refine x_aload_n C dX8_lays_63 0 rfl ?_
            refine x_get C (v := vI ((lyA src n : Nat) : Int)) f44 (T := TX8) rfl kX8_lays_1 30 (by decide) kX8_lays_0 rfl dX8_lays_64 ?_
            refine x_iconst C dX8_lays_67 1 (by decide) ?_
            refine x_iadd C dX8_lays_68 ?_
            refine x_goto (tgt := 73) C dX8_lays_69 (by decide) ?_
            have f55 : h41 (am 29 0) = some (eI D 96 (lyB src (m 29 0) n)) := by rw [e42, hu_n (hcp.1.ne (lm0 (by decide)) (lm0 (by decide)) (fun zz9 => absurd zz9.1 (by decide)))]; exact f12
            refine x_iast C f55 ⟨by omega, by omega⟩ (by decide) dX8_lays_73 (x_hn (fun h56 e57 => ?_))
            have f58 : h56 (am 29 0) = some (eI D 96 (fu (lyB src (m 29 0) n) (Int.toNat (((n : Nat) : Int))) ((((lyA src n : Nat) : Int)) + 1))) := by rw [e57]; exact hu_s
            refine x_aload_n C dX8_lays_74 0 rfl ?_
            refine x_dup C dX8_lays_75 rfl ?_
            have f59 : h56 (am 0 0) = some (eO 8 [vI (((layN m src n) 0 0) 0), .ref (am 1 0), vI (((layN m src n) 0 0) 2), .ref (am 3 0), .ref (am 4 0), .ref (am 5 0), .ref (am 6 0), .ref (am 7 0), .ref (am 8 0), .ref (am 9 0), .ref (am 10 0), .ref (am 11 0), .ref (am 12 0), .ref (am 13 0), vI (((layN m src n) 0 0) 14), .ref (am 15 0), .ref (am 16 0), .ref (am 17 0), .ref (am 18 0), .ref (am 19 0), .ref (am 20 0), .ref (am 21 0), .ref (am 22 0), .ref (am 23 0), .ref (am 24 0), .ref (am 25 0), .ref (am 26 0), .ref (am 27 0), .ref (am 28 0), .ref (am 29 0), vI ((lyA src n : Nat) : Int), vI (((layN m src n) 0 0) 31), vI (((layN m src n) 0 0) 32), vI (((((layN m src n) 0 0) 33).toNat : Nat) : Int), vI (((layN m src n) 0 0) 34), .ref (am 35 0), .ref (am 36 0), .ref (am 37 0)]) := by rw [e57, hu_n (hcp.1.ne (lm0 (by decide)) (lm0 (by decide)) (fun zz9 => absurd zz9.1 (by decide)))]; exact f44
            refine x_get C (v := vI ((lyA src n : Nat) : Int)) f59 (T := TX8) rfl kX8_lays_1 30 (by decide) kX8_lays_0 rfl dX8_lays_76 ?_
            refine x_aload_n C dX8_lays_79 0 rfl ?_
            refine x_get C (v := .ref (am 29 0)) f59 (T := TX8) rfl kX8_lays_1 29 (by decide) kX8_lays_4 rfl dX8_lays_80 ?_
            refine x_iload_n C dX8_lays_83 3 rfl ?_
            refine x_iald C f58 ⟨by omega, by omega⟩ (by decide) dX8_lays_84 ?_
            refine x_topv (show (fu (lyB src (m 29 0) n) (Int.toNat (((n : Nat) : Int))) ((((lyA src n : Nat) : Int)) + 1)) (Int.toNat (((n : Nat) : Int))) = ((if src n = 2 then lyA src n + 1 else 0 : Nat) : Int) from by first | (rw [if_pos (by assumption)]; exact fu_s) | (rw [if_neg (by assumption)]; exact fu_s)) ?_
            refine x_iadd C dX8_lays_85 ?_
            refine x_topv (show (((lyA src n : Nat) : Int)) + (((if src n = 2 then lyA src n + 1 else 0 : Nat) : Int)) = ((lyA src (n + 1) : Nat) : Int) from by show _ = ((lyA src n + (if src n = 2 then lyA src n + 1 else 0) : Nat) : Int); omega) ?_
            refine x_put C f59 (T := TX8) rfl tyX8_ok nmX8 kX8_lays_1 30 (by decide) kX8_lays_0 rfl (fs' := [vI (((layN m src n) 0 0) 0), .ref (am 1 0), vI (((layN m src n) 0 0) 2), .ref (am 3 0), .ref (am 4 0), .ref (am 5 0), .ref (am 6 0), .ref (am 7 0), .ref (am 8 0), .ref (am 9 0), .ref (am 10 0), .ref (am 11 0), .ref (am 12 0), .ref (am 13 0), vI (((layN m src n) 0 0) 14), .ref (am 15 0), .ref (am 16 0), .ref (am 17 0), .ref (am 18 0), .ref (am 19 0), .ref (am 20 0), .ref (am 21 0), .ref (am 22 0), .ref (am 23 0), .ref (am 24 0), .ref (am 25 0), .ref (am 26 0), .ref (am 27 0), .ref (am 28 0), .ref (am 29 0), vI ((lyA src (n + 1) : Nat) : Int), vI (((layN m src n) 0 0) 31), vI (((layN m src n) 0 0) 32), vI (((((layN m src n) 0 0) 33).toNat : Nat) : Int), vI (((layN m src n) 0 0) 34), .ref (am 35 0), .ref (am 36 0), .ref (am 37 0)]) rfl rfl (by simp) rfl dX8_lays_86 (x_hn (fun h60 e61 => ?_))
            have f62 : h60 (am 0 0) = some (eO 8 [vI (((layN m src n) 0 0) 0), .ref (am 1 0), vI (((layN m src n) 0 0) 2), .ref (am 3 0), .ref (am 4 0), .ref (am 5 0), .ref (am 6 0), .ref (am 7 0), .ref (am 8 0), .ref (am 9 0), .ref (am 10 0), .ref (am 11 0), .ref (am 12 0), .ref (am 13 0), vI (((layN m src n) 0 0) 14), .ref (am 15 0), .ref (am 16 0), .ref (am 17 0), .ref (am 18 0), .ref (am 19 0), .ref (am 20 0), .ref (am 21 0), .ref (am 22 0), .ref (am 23 0), .ref (am 24 0), .ref (am 25 0), .ref (am 26 0), .ref (am 27 0), .ref (am 28 0), .ref (am 29 0), vI ((lyA src (n + 1) : Nat) : Int), vI (((layN m src n) 0 0) 31), vI (((layN m src n) 0 0) 32), vI (((((layN m src n) 0 0) 33).toNat : Nat) : Int), vI (((layN m src n) 0 0) 34), .ref (am 35 0), .ref (am 36 0), .ref (am 37 0)]) := by rw [e61]; exact hu_s
            refine x_iinc C (x := ((n : Nat) : Int)) (ls' := [(0, .ref (am 0 0)), (1, vI b), (2, vI k), (3, vI ((((n : Nat) : Int)) + 1))]) dX8_lays_89 3 rfl (by decide) rfl ?_
            refine x_goto (tgt := 7) C dX8_lays_92 (by decide) ?_
            have cp63 : MP D am h (cu (cu (cu (layN m src n) 28 0 (fu (lyG src (m 28 0) n) (Int.toNat (((n : Nat) : Int))) (src n))) 29 0 (fu (lyB src (m 29 0) n) (Int.toNat (((n : Nat) : Int))) ((((lyA src n : Nat) : Int)) + 1))) 0 0 ((fu ((layN m src n) 0 0) 30 ((lyA src (n + 1) : Nat) : Int)))) h60 := by rw [e61, e57, e42]; exact (MP.up (MP.up (MP.up hcp (lm0 (by decide)) (fu (lyG src (m 28 0) n) (Int.toNat (((n : Nat) : Int))) (src n)) rfl) (lm0 (by decide)) (fu (lyB src (m 29 0) n) (Int.toNat (((n : Nat) : Int))) ((((lyA src n : Nat) : Int)) + 1)) rfl) (lm0 (by decide)) ((fu ((layN m src n) 0 0) 30 ((lyA src (n + 1) : Nat) : Int))) rfl)
            exact ihLP (n + 1) h60 (by omega) (by omega) (by
    have q9 := cp63
    first
      | (rw [← layN_s (m := m) (src := src) (n := n) (z := ((lyA src n : Nat) : Int) + 1) ((if_pos (by assumption)).symm)]; exact q9)
      | (rw [← layN_s (m := m) (src := src) (n := n) (z := 0) ((if_neg (by assumption)).symm)]; exact q9))
  have cp64 : MP D am h (cu m 0 0 ((fu (m 0 0) 30 ((0 : Nat) : Int)))) h2 := by rw [e3]; exact (MP.up (MP.rf hR) (lm0 (by decide)) ((fu (m 0 0) 30 ((0 : Nat) : Int))) rfl)
  exact LP (97) 0 h2 (by omega) (by omega) (by rw [layN_0]; exact cp64)

theorem kX8_isSolid_0 : Cond.fieldLink "LedgeLevelsModel" 85 "LedgeLevelsModel" "ground" "[I" ∈ wsX8_isSolid := by decide +kernel
theorem kX8_isSolid_1 : ∀ w ∈ wsX80, w ∈ wsX8_isSolid := by decide +kernel
theorem kX8_isSolid_2 : Cond.fieldLink "LedgeLevelsModel" 118 "LedgeLevelsModel" "taken" "I" ∈ wsX8_isSolid := by decide +kernel
theorem kX8_isSolid_3 : Cond.fieldLink "LedgeLevelsModel" 115 "LedgeLevelsModel" "allKeys" "I" ∈ wsX8_isSolid := by decide +kernel
set_option maxRecDepth 100000 in
set_option maxHeartbeats 1000000 in
theorem c_X8_isSolid {l : Launch} {D : va_G} {A : Nat → Prop} {h : vh} {am : AD} {m : CS} {x y : Int}  (hR : RepM D am m h) (hx : -1 ≤ x ∧ x ≤ 12) (hy : -1 ≤ y ∧ y ≤ 8) (hG : ∀ j, 0 ≤ m 28 0 j ∧ m 28 0 j ≤ 8) (ht : 0 ≤ m 0 0 33 ∧ m 0 0 33 < 8) (hal : 0 ≤ m 0 0 30 ∧ m 0 0 30 < 8) : MX l D A yX8_isSolid wsX8_isSolid { frames := 1, cells := 0, slots := 0, locals := 22 } [.ref (am 0 0), vI x, vI y] h (fun rv h' => rv = some (vI (bI (¬ (0 ≤ x ∧ x ≤ 11) ∨ sol (m 28 0) (m 0 0 30).toNat (m 0 0 33).toNat (12 * y + x)))) ∧ h' = h) := by
  refine MX.of (cc := cX8_isSolid) (maxL := 4) (ret := (some .boolean)) [(0, .ref (am 0 0)), (1, vI x), (2, vI y)] (by decide +kernel) rfl rfl (Nat.le_of_ble_eq_true rfl) ?_
  intro κ C hkl G
  subst hkl
  have C : CX κ "LedgeLevelsModel" "isSolid" cX8_isSolid wsX8_isSolid { frames := 1, cells := 0, slots := 0, locals := 22 } D A 4 := C
  have hiz : nq (D.1 20) (D.1 21) := cx_iz C
  refine x_iload_n C dX8_isSolid_0 1 rfl ?_
  refine x_iconst C dX8_isSolid_1 0 (by decide) ?_
  refine x_bipush C dX8_isSolid_2 11 (by decide) ?_
  refine x_callS C (n := 3) (As := [vI x, vI 0, vI 11]) (rest := []) (c_X8_in (by omega) (by omega) (by omega)) gX8_isSolid_X8_in (by decide +kernel) rfl rfl rfl (Nat.le_of_ble_eq_true rfl) ⟨by decide, by decide⟩ ⟨(by decide), (by decide)⟩ dX8_isSolid_4 (fun rv1 h2 hp3 => ?_)
  obtain ⟨rfl, e4⟩ := hp3
  obtain rfl := e4.symm
  have hbr := bI_01 (0 ≤ x ∧ x ≤ 11)
  refine x_if_eq (tgt := 14) C dX8_isSolid_7 (by decide) (by omega) (fun c5 => ?_) (fun c5 => ?_)
  · skip
    refine x_iconst C dX8_isSolid_14 1 (by decide) ?_
    refine x_zret C G dX8_isSolid_15 (by first | exact Or.inl rfl | exact Or.inr rfl) ?_ (by decide) (by decide)
    exact ⟨congrArg (fun z => some (vI z)) (bI_t (by first | exact Or.inl (fun z9 => by have := bI_t z9; omega) | exact Or.inr (Or.inl (by omega)))).symm, rfl⟩
  · skip
    have q8 : 0 ≤ x ∧ x ≤ 11 := bI_ne.mp c5
    refine x_iload_n C dX8_isSolid_10 2 rfl ?_
    refine x_if_ge (tgt := 16) C dX8_isSolid_11 (by decide) (by omega) (fun c6 => ?_) (fun c6 => ?_)
    · skip
      refine x_iload_n C dX8_isSolid_16 2 rfl ?_
      refine x_bipush C dX8_isSolid_17 7 (by decide) ?_
      refine x_icmp_le (tgt := 24) C dX8_isSolid_19 (by decide) (by omega) (by omega) (fun c7 => ?_) (fun c7 => ?_)
      · skip
        refine x_aload_n C dX8_isSolid_24 0 rfl ?_
        have f8 : h (am 0 0) = some (eO 8 [vI (m 0 0 0), .ref (am 1 0), vI (m 0 0 2), .ref (am 3 0), .ref (am 4 0), .ref (am 5 0), .ref (am 6 0), .ref (am 7 0), .ref (am 8 0), .ref (am 9 0), .ref (am 10 0), .ref (am 11 0), .ref (am 12 0), .ref (am 13 0), vI (m 0 0 14), .ref (am 15 0), .ref (am 16 0), .ref (am 17 0), .ref (am 18 0), .ref (am 19 0), .ref (am 20 0), .ref (am 21 0), .ref (am 22 0), .ref (am 23 0), .ref (am 24 0), .ref (am 25 0), .ref (am 26 0), .ref (am 27 0), .ref (am 28 0), .ref (am 29 0), vI (((m 0 0 30).toNat : Nat) : Int), vI (m 0 0 31), vI (m 0 0 32), vI (((m 0 0 33).toNat : Nat) : Int), vI (m 0 0 34), .ref (am 35 0), .ref (am 36 0), .ref (am 37 0)]) := hR.1 0 0 (lm0 (by decide))
        refine x_get C (v := .ref (am 28 0)) f8 (T := TX8) rfl kX8_isSolid_1 28 (by decide) kX8_isSolid_0 rfl dX8_isSolid_25 ?_
        refine x_bipush C dX8_isSolid_28 12 (by decide) ?_
        refine x_iload_n C dX8_isSolid_30 2 rfl ?_
        refine x_imul C dX8_isSolid_31 ?_
        refine x_iload_n C dX8_isSolid_32 1 rfl ?_
        refine x_iadd C dX8_isSolid_33 ?_
        have f9 : h (am 28 0) = some (eI D 96 (m 28 0)) := hR.1 28 0 (lm0 (by decide))
        refine x_iald C f9 ⟨by omega, by omega⟩ (by decide) dX8_isSolid_34 ?_
        have r10 := hG (Int.toNat ((12 * y) + x))
        refine x_istore_n C (ls' := [(0, .ref (am 0 0)), (1, vI x), (2, vI y), (3, vI ((m 28 0) (Int.toNat ((12 * y) + x))))]) dX8_isSolid_35 (by decide) rfl ?_
        refine x_iload_n C dX8_isSolid_36 3 rfl ?_
        refine x_iconst C dX8_isSolid_37 1 (by decide) ?_
        refine x_icmp_eq (tgt := 63) C dX8_isSolid_38 (by decide) (by omega) (by omega) (fun c11 => ?_) (fun c11 => ?_)
        · skip
          refine x_iconst C dX8_isSolid_63 1 (by decide) ?_
          refine x_goto (tgt := 68) C dX8_isSolid_64 (by decide) ?_
          refine x_zret C G dX8_isSolid_68 (by first | exact Or.inl rfl | exact Or.inr rfl) ?_ (by decide) (by decide)
          have q8 : 0 ≤ x ∧ x ≤ 11 := bI_ne.mp (by assumption)
          have hk : kAt (m 28 0) (12 * y + x) = m 28 0 (Int.toNat (12 * y + x)) := if_pos (by omega)
          first
            | (refine ⟨congrArg (fun z => some (vI z)) (bI_t (Or.inr ?_)).symm, rfl⟩; unfold sol; rw [hk]; omega)
            | (refine ⟨congrArg (fun z => some (vI z)) (bI_f (fun z9 => ?_)).symm, rfl⟩
               rcases z9 with z8 | z8
               · exact z8 q8
               · unfold sol at z8; rw [hk] at z8; omega)
        · skip
          refine x_iload_n C dX8_isSolid_41 3 rfl ?_
          refine x_bipush C dX8_isSolid_42 6 (by decide) ?_
          refine x_icmp_ge (tgt := 63) C dX8_isSolid_44 (by decide) (by omega) (by omega) (fun c12 => ?_) (fun c12 => ?_)
          · skip
            refine x_iconst C dX8_isSolid_63 1 (by decide) ?_
            refine x_goto (tgt := 68) C dX8_isSolid_64 (by decide) ?_
            refine x_zret C G dX8_isSolid_68 (by first | exact Or.inl rfl | exact Or.inr rfl) ?_ (by decide) (by decide)
            have q8 : 0 ≤ x ∧ x ≤ 11 := bI_ne.mp (by assumption)
            have hk : kAt (m 28 0) (12 * y + x) = m 28 0 (Int.toNat (12 * y + x)) := if_pos (by omega)
            first
              | (refine ⟨congrArg (fun z => some (vI z)) (bI_t (Or.inr ?_)).symm, rfl⟩; unfold sol; rw [hk]; omega)
              | (refine ⟨congrArg (fun z => some (vI z)) (bI_f (fun z9 => ?_)).symm, rfl⟩
                 rcases z9 with z8 | z8
                 · exact z8 q8
                 · unfold sol at z8; rw [hk] at z8; omega)
          · skip
            refine x_iload_n C dX8_isSolid_47 3 rfl ?_
            refine x_iconst C dX8_isSolid_48 3 (by decide) ?_
            refine x_icmp_ne (tgt := 67) C dX8_isSolid_49 (by decide) (by omega) (by omega) (fun c13 => ?_) (fun c13 => ?_)
            · skip
              refine x_iconst C dX8_isSolid_67 0 (by decide) ?_
              refine x_zret C G dX8_isSolid_68 (by first | exact Or.inl rfl | exact Or.inr rfl) ?_ (by decide) (by decide)
              have q8 : 0 ≤ x ∧ x ≤ 11 := bI_ne.mp (by assumption)
              have hk : kAt (m 28 0) (12 * y + x) = m 28 0 (Int.toNat (12 * y + x)) := if_pos (by omega)
              first
                | (refine ⟨congrArg (fun z => some (vI z)) (bI_t (Or.inr ?_)).symm, rfl⟩; unfold sol; rw [hk]; omega)
                | (refine ⟨congrArg (fun z => some (vI z)) (bI_f (fun z9 => ?_)).symm, rfl⟩
                   rcases z9 with z8 | z8
                   · exact z8 q8
                   · unfold sol at z8; rw [hk] at z8; omega)
            · skip
              refine x_aload_n C dX8_isSolid_52 0 rfl ?_
              refine x_get C (v := vI (((m 0 0 33).toNat : Nat) : Int)) f8 (T := TX8) rfl kX8_isSolid_1 33 (by decide) kX8_isSolid_2 rfl dX8_isSolid_53 ?_
              refine x_aload_n C dX8_isSolid_56 0 rfl ?_
              refine x_get C (v := vI (((m 0 0 30).toNat : Nat) : Int)) f8 (T := TX8) rfl kX8_isSolid_1 30 (by decide) kX8_isSolid_3 rfl dX8_isSolid_57 ?_
              refine x_icmp_eq (tgt := 67) C dX8_isSolid_60 (by decide) (by omega) (by omega) (fun c14 => ?_) (fun c14 => ?_)
              · skip
                refine x_iconst C dX8_isSolid_67 0 (by decide) ?_
                refine x_zret C G dX8_isSolid_68 (by first | exact Or.inl rfl | exact Or.inr rfl) ?_ (by decide) (by decide)
                have q8 : 0 ≤ x ∧ x ≤ 11 := bI_ne.mp (by assumption)
                have hk : kAt (m 28 0) (12 * y + x) = m 28 0 (Int.toNat (12 * y + x)) := if_pos (by omega)
                first
                  | (refine ⟨congrArg (fun z => some (vI z)) (bI_t (Or.inr ?_)).symm, rfl⟩; unfold sol; rw [hk]; omega)
                  | (refine ⟨congrArg (fun z => some (vI z)) (bI_f (fun z9 => ?_)).symm, rfl⟩
                     rcases z9 with z8 | z8
                     · exact z8 q8
                     · unfold sol at z8; rw [hk] at z8; omega)
              · skip
                refine x_iconst C dX8_isSolid_63 1 (by decide) ?_
                refine x_goto (tgt := 68) C dX8_isSolid_64 (by decide) ?_
                refine x_zret C G dX8_isSolid_68 (by first | exact Or.inl rfl | exact Or.inr rfl) ?_ (by decide) (by decide)
                have q8 : 0 ≤ x ∧ x ≤ 11 := bI_ne.mp (by assumption)
                have hk : kAt (m 28 0) (12 * y + x) = m 28 0 (Int.toNat (12 * y + x)) := if_pos (by omega)
                first
                  | (refine ⟨congrArg (fun z => some (vI z)) (bI_t (Or.inr ?_)).symm, rfl⟩; unfold sol; rw [hk]; omega)
                  | (refine ⟨congrArg (fun z => some (vI z)) (bI_f (fun z9 => ?_)).symm, rfl⟩
                     rcases z9 with z8 | z8
                     · exact z8 q8
                     · unfold sol at z8; rw [hk] at z8; omega)
      · skip
        refine x_iconst C dX8_isSolid_22 0 (by decide) ?_
        refine x_zret C G dX8_isSolid_23 (by first | exact Or.inl rfl | exact Or.inr rfl) ?_ (by decide) (by decide)
        refine ⟨congrArg (fun z => some (vI z)) (bI_f (fun z9 => ?_)).symm, rfl⟩
        have q8 : 0 ≤ x ∧ x ≤ 11 := bI_ne.mp (by assumption)
        rcases z9 with z8 | z8
        · exact z8 q8
        · have hk : kAt (m 28 0) (12 * y + x) = 0 := if_neg (by omega)
          unfold sol at z8
          rw [hk] at z8
          omega
    · skip
      refine x_iconst C dX8_isSolid_14 1 (by decide) ?_
      refine x_zret C G dX8_isSolid_15 (by first | exact Or.inl rfl | exact Or.inr rfl) ?_ (by decide) (by decide)
      exact ⟨congrArg (fun z => some (vI z)) (bI_t (by first | exact Or.inl (fun z9 => by have := bI_t z9; omega) | exact Or.inr (Or.inl (by omega)))).symm, rfl⟩


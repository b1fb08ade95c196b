def cnK (g : Nat → Int) : Nat → Nat
  | 0 => 0
  | n + 1 => cnK g n + (if g n = 2 then 1 else 0)
theorem cnK_t {g : Nat → Int} {n : Nat} (h : g n = 2) : cnK g (n + 1) = cnK g n + 1 := by show cnK g n + _ = _; rw [if_pos h]
theorem cnK_f {g : Nat → Int} {n : Nat} (h : ¬ g n = 2) : cnK g (n + 1) = cnK g n := by show cnK g n + _ = _; rw [if_neg h]; rfl
theorem cnK_le (g : Nat → Int) : ∀ n, cnK g n ≤ n
  | 0 => Nat.le_refl _
  | n + 1 => by have := cnK_le g n; unfold cnK; split <;> omega
def shG (F : Nat → Int) (b n : Nat) : Nat → Int := fun j => if b ≤ j ∧ j < b + n then F (j + 1) else F j
theorem shG_0 {F : Nat → Int} {b : Nat} : shG F b 0 = F := by funext j; exact if_neg (by omega)
theorem shG_v {F : Nat → Int} {b n : Nat} : shG F b n (b + n + 1) = F (b + n + 1) := if_neg (by omega)
theorem shG_s {F : Nat → Int} {b n : Nat} : fu (shG F b n) (b + n) (shG F b n (b + n + 1)) = shG F b (n + 1) := by
  rw [shG_v]
  funext j
  unfold fu shG
  by_cases q : j = b + n
  · rw [if_pos q, if_pos (by omega), q]
  · rw [if_neg q]
    by_cases r : b ≤ j ∧ j < b + n
    · rw [if_pos r, if_pos (by omega)]
    · rw [if_neg r, if_neg (by omega)]
def rmF (F : Nat → Int) (b d : Nat) (x : Int) : Nat → Int := fu (if d < 40 then F else shG F b 39) (b + hd40 d) x
/-- an edit is remembered -/
def remM (m : CS) (u : Nat) (z k : Int) : CS := cu (cu (cu m 9 0 (rmF (m 9 0) (40 * u) (m 8 0 u).toNat z)) 10 0 (rmF (m 10 0) (40 * u) (m 8 0 u).toNat k)) 8 0 (fu (m 8 0) u ((hd40 (m 8 0 u).toNat + 1 : Nat) : Int))
theorem cu_44 {m : CS} {a b : Nat} {A B A' B' : Nat → Int} (n : ¬ a = b) : cu (cu (cu (cu m a 0 A) b 0 B) a 0 A') b 0 B' = cu (cu m a 0 A') b 0 B' := by
  rw [cu_sw (m := cu m a 0 A) (a := b) (fun z => n z.symm), cu_u, cu_u]
theorem rem_lo {m : CS} {u : Nat} {z k : Int} {i : Nat} {v : Int} (hd : (m 8 0 u).toNat < 40) (hi : i = 40 * u + (m 8 0 u).toNat) (hv : v = (((m 8 0 u).toNat + 1 : Nat) : Int)) : remM m u z k = cu (cu (cu m 9 0 (fu (m 9 0) i z)) 10 0 (fu (m 10 0) i k)) 8 0 (fu (m 8 0) u v) := by
  unfold remM rmF hd40
  rw [if_pos hd, if_pos hd, if_pos hd, hi, hv]
theorem rem_hi {m : CS} {u : Nat} {z k : Int} {i : Nat} {v : Int} (hd : ¬ (m 8 0 u).toNat < 40) (hi : i = 40 * u + 39) (hv : v = 40) : remM m u z k = cu (cu (cu m 9 0 (fu (shG (m 9 0) (40 * u) 39) i z)) 10 0 (fu (shG (m 10 0) (40 * u) 39) i k)) 8 0 (fu (m 8 0) u v) := by
  unfold remM rmF hd40
  rw [if_neg hd, if_neg hd, if_neg hd, hi, hv]
  rfl
theorem SM.rem {a b : CS} {u : Nat} {z k : Int} (h : SM a b) : SM (remM a u z k) (remM b u z k) := by
  obtain ⟨h1, h2, h3, _⟩ := id h
  unfold remM
  refine SM.up9 (by decide) ?_ (SM.up9 (by decide) ?_ (SM.up9 (by decide) ?_ h))
  · rw [h1 8 0 (by decide) (by decide)]
  · rw [h1 8 0 (by decide) (by decide), h1 10 0 (by decide) (by decide)]
  · rw [h1 8 0 (by decide) (by decide), h1 9 0 (by decide) (by decide)]

theorem kX8_keysOf_0 : Cond.fieldLink "LedgeLevelsModel" 16 "LedgeLevelsModel" "grid" "[I" ∈ wsX8_keysOf := by decide +kernel
theorem kX8_keysOf_1 : ∀ w ∈ wsX80, w ∈ wsX8_keysOf := by decide +kernel
set_option maxRecDepth 100000 in
set_option maxHeartbeats 1000000 in
theorem c_X8_keysOf {l : Launch} {D : va_G} {A : Nat → Prop} {h : vh} {am : AD} {m : CS} {u : Int}  (hR : RepM D am m h) (hu : 0 ≤ u ∧ u < 12) (hg9 : ∀ j : Nat, j < 96 → 0 ≤ m 4 0 (96 * u.toNat + j) ∧ m 4 0 (96 * u.toNat + j) ≤ 8) : MX l D A yX8_keysOf wsX8_keysOf { frames := 0, cells := 0, slots := 0, locals := 0 } [.ref (am 0 0), vI u] h (fun rv h' => rv = some (vI ((cnK (fun j => m 4 0 (96 * u.toNat + j)) 96 : Nat) : Int)) ∧ h' = h) := by
  refine MX.of (cc := cX8_keysOf) (maxL := 4) (ret := (some .int)) [(0, .ref (am 0 0)), (1, vI u)] (by decide +kernel) rfl rfl (Nat.le_of_ble_eq_true rfl) ?_
  intro κ C hkl G
  subst hkl
  have C : CX κ "LedgeLevelsModel" "keysOf" cX8_keysOf wsX8_keysOf { frames := 0, cells := 0, slots := 0, locals := 0 } D A 4 := C
  have hiz : nq (D.1 20) (D.1 21) := cx_iz C
  refine x_iconst C dX8_keysOf_0 0 (by decide) ?_
  refine x_topv (show 0 = ((cnK (fun j => m 4 0 (96 * u.toNat + j)) 0 : Nat) : Int) from by rfl) ?_
  refine x_istore_n C (ls' := [(0, .ref (am 0 0)), (1, vI u), (2, vI ((cnK (fun j => m 4 0 (96 * u.toNat + j)) 0 : Nat) : Int))]) dX8_keysOf_1 (by decide) rfl ?_
  refine x_iconst C dX8_keysOf_2 0 (by decide) ?_
  refine x_istore_n C (ls' := [(0, .ref (am 0 0)), (1, vI u), (2, vI ((cnK (fun j => m 4 0 (96 * u.toNat + j)) 0 : Nat) : Int)), (3, vI 0)]) dX8_keysOf_3 (by decide) rfl ?_
  have LP : ∀ (N : Nat) (n : Nat)   (hn : n ≤ 96) (hN : 96 - n < N), X κ 0 0 h [(0, .ref (am 0 0)), (1, vI u), (2, vI ((cnK (fun j => m 4 0 (96 * u.toNat + j)) n : Nat) : Int)), (3, vI ((n : Nat) : Int))] 4 [] := by
    intro N
    induction N with
    | zero => intro n hn hN; exfalso; omega
    | succ N ihLP =>
      intro n hn hN
      refine x_iload_n C dX8_keysOf_4 3 rfl ?_
      refine x_bipush C dX8_keysOf_5 96 (by decide) ?_
      refine x_icmp_ge (tgt := 39) C dX8_keysOf_7 (by decide) (by omega) (by omega) (fun c2 => ?_) (fun c2 => ?_)
      · skip
        refine x_iload_n C dX8_keysOf_39 2 rfl ?_
        refine x_iret C G dX8_keysOf_40 ?_ (by decide) (by decide)
        obtain rfl : n = 96 := by omega
        exact ⟨rfl, rfl⟩
      · skip
        have hg8 := hg9 n (by omega)
        refine x_iload_n C dX8_keysOf_10 2 rfl ?_
        refine x_aload_n C dX8_keysOf_11 0 rfl ?_
        have f3 : h (am 0 0) = some (eO 8 [vI (m 0 0 0), .ref (am 1 0), vI (m 0 0 2), .ref (am 3 0), .ref (am 4 0), .ref (am 5 0), .ref (am 6 0), .ref (am 7 0), .ref (am 8 0), .ref (am 9 0), .ref (am 10 0), .ref (am 11 0), .ref (am 12 0), .ref (am 13 0), vI (m 0 0 14), .ref (am 15 0), .ref (am 16 0), .ref (am 17 0), .ref (am 18 0), .ref (am 19 0), .ref (am 20 0), .ref (am 21 0), .ref (am 22 0), .ref (am 23 0), .ref (am 24 0), .ref (am 25 0), .ref (am 26 0), .ref (am 27 0), .ref (am 28 0), .ref (am 29 0), vI (((m 0 0 30).toNat : Nat) : Int), vI (m 0 0 31), vI (m 0 0 32), vI (((m 0 0 33).toNat : Nat) : Int), vI (m 0 0 34), .ref (am 35 0), .ref (am 36 0), .ref (am 37 0)]) := hR.1 0 0 (lm0 (by decide))
        refine x_get C (v := .ref (am 4 0)) f3 (T := TX8) rfl kX8_keysOf_1 4 (by decide) kX8_keysOf_0 rfl dX8_keysOf_12 ?_
        refine x_bipush C dX8_keysOf_15 96 (by decide) ?_
        refine x_iload_n C dX8_keysOf_17 1 rfl ?_
        refine x_imul C dX8_keysOf_18 ?_
        refine x_iload_n C dX8_keysOf_19 3 rfl ?_
        refine x_iadd C dX8_keysOf_20 ?_
        have f4 : h (am 4 0) = some (eI D 1152 (m 4 0)) := hR.1 4 0 (lm0 (by decide))
        refine x_iald C f4 ⟨by omega, by omega⟩ (by decide) dX8_keysOf_21 ?_
        refine x_topv (show (m 4 0) (Int.toNat ((96 * u) + (((n : Nat) : Int)))) = m 4 0 (96 * u.toNat + n) from by rw [show Int.toNat (96 * u + ((n : Nat) : Int)) = 96 * u.toNat + n by omega]) ?_
        refine x_iconst C dX8_keysOf_22 2 (by decide) ?_
        refine x_icmp_ne (tgt := 30) C dX8_keysOf_23 (by decide) (by omega) (by omega) (fun c5 => ?_) (fun c5 => ?_)
        · skip
          refine x_iconst C dX8_keysOf_30 0 (by decide) ?_
          refine x_iadd C dX8_keysOf_31 ?_
          refine x_topv (show (((cnK (fun j => m 4 0 (96 * u.toNat + j)) n : Nat) : Int)) + 0 = ((cnK (fun j => m 4 0 (96 * u.toNat + j)) (n + 1) : Nat) : Int) from by first | (rw [cnK_t (g := (fun j => m 4 0 (96 * u.toNat + j))) (n := n) (by assumption)]; omega) | (rw [cnK_f (g := (fun j => m 4 0 (96 * u.toNat + j))) (n := n) (by assumption)]; omega)) ?_
          refine x_istore_n C (ls' := [(0, .ref (am 0 0)), (1, vI u), (2, vI (((cnK (fun j => m 4 0 (96 * u.toNat + j)) (n + 1) : Nat) : Int))), (3, vI ((n : Nat) : Int))]) dX8_keysOf_32 (by decide) rfl ?_
          refine x_iinc C (x := ((n : Nat) : Int)) (ls' := [(0, .ref (am 0 0)), (1, vI u), (2, vI (((cnK (fun j => m 4 0 (96 * u.toNat + j)) (n + 1) : Nat) : Int))), (3, vI ((((n : Nat) : Int)) + 1))]) dX8_keysOf_33 3 rfl (by decide) rfl ?_
          refine x_goto (tgt := 4) C dX8_keysOf_36 (by decide) ?_
          exact ihLP (n + 1) (by omega) (by omega)
        · skip
          refine x_iconst C dX8_keysOf_26 1 (by decide) ?_
          refine x_goto (tgt := 31) C dX8_keysOf_27 (by decide) ?_
          refine x_iadd C dX8_keysOf_31 ?_
          refine x_topv (show (((cnK (fun j => m 4 0 (96 * u.toNat + j)) n : Nat) : Int)) + 1 = ((cnK (fun j => m 4 0 (96 * u.toNat + j)) (n + 1) : Nat) : Int) from by first | (rw [cnK_t (g := (fun j => m 4 0 (96 * u.toNat + j))) (n := n) (by assumption)]; omega) | (rw [cnK_f (g := (fun j => m 4 0 (96 * u.toNat + j))) (n := n) (by assumption)]; omega)) ?_
          refine x_istore_n C (ls' := [(0, .ref (am 0 0)), (1, vI u), (2, vI (((cnK (fun j => m 4 0 (96 * u.toNat + j)) (n + 1) : Nat) : Int))), (3, vI ((n : Nat) : Int))]) dX8_keysOf_32 (by decide) rfl ?_
          refine x_iinc C (x := ((n : Nat) : Int)) (ls' := [(0, .ref (am 0 0)), (1, vI u), (2, vI (((cnK (fun j => m 4 0 (96 * u.toNat + j)) (n + 1) : Nat) : Int))), (3, vI ((((n : Nat) : Int)) + 1))]) dX8_keysOf_33 3 rfl (by decide) rfl ?_
          refine x_goto (tgt := 4) C dX8_keysOf_36 (by decide) ?_
          exact ihLP (n + 1) (by omega) (by omega)
  exact LP (97) 0 (by omega) (by omega)

theorem kX8_remembers_0 : Cond.fieldLink "LedgeLevelsModel" 28 "LedgeLevelsModel" "undos" "[I" ∈ wsX8_remembers := by decide +kernel
theorem kX8_remembers_1 : ∀ w ∈ wsX80, w ∈ wsX8_remembers := by decide +kernel
theorem kX8_remembers_2 : Cond.fieldLink "LedgeLevelsModel" 31 "LedgeLevelsModel" "undoCell" "[I" ∈ wsX8_remembers := by decide +kernel
theorem kX8_remembers_3 : Cond.fieldLink "LedgeLevelsModel" 34 "LedgeLevelsModel" "undoKind" "[I" ∈ wsX8_remembers := by decide +kernel
set_option maxRecDepth 100000 in
set_option maxHeartbeats 1000000 in
theorem c_X8_remembers {l : Launch} {D : va_G} {A : Nat → Prop} {h : vh} {am : AD} {m : CS} {u z k : Int}  (hR : RepM D am m h) (hu : 0 ≤ u ∧ u < 12) (hd : 0 ≤ m 8 0 u.toNat ∧ m 8 0 u.toNat ≤ 40) : MX l D A yX8_remembers wsX8_remembers { frames := 0, cells := 0, slots := 0, locals := 0 } [.ref (am 0 0), vI u, vI z, vI k] h (fun rv h' => rv = none ∧ MP D am h (remM m u.toNat z k) h') := by
  refine MX.of (cc := cX8_remembers) (maxL := 6) (ret := none) [(0, .ref (am 0 0)), (1, vI u), (2, vI z), (3, vI k)] (by decide +kernel) rfl rfl (Nat.le_of_ble_eq_true rfl) ?_
  intro κ C hkl G
  subst hkl
  have C : CX κ "LedgeLevelsModel" "remembers" cX8_remembers wsX8_remembers { frames := 0, cells := 0, slots := 0, locals := 0 } D A 6 := C
  have hiz : nq (D.1 20) (D.1 21) := cx_iz C
  refine x_aload_n C dX8_remembers_0 0 rfl ?_
  have f1 : h (am 0 0) = some (eO 8 [vI (m 0 0 0), .ref (am 1 0), vI (m 0 0 2), .ref (am 3 0), .ref (am 4 0), .ref (am 5 0), .ref (am 6 0), .ref (am 7 0), .ref (am 8 0), .ref (am 9 0), .ref (am 10 0), .ref (am 11 0), .ref (am 12 0), .ref (am 13 0), vI (m 0 0 14), .ref (am 15 0), .ref (am 16 0), .ref (am 17 0), .ref (am 18 0), .ref (am 19 0), .ref (am 20 0), .ref (am 21 0), .ref (am 22 0), .ref (am 23 0), .ref (am 24 0), .ref (am 25 0), .ref (am 26 0), .ref (am 27 0), .ref (am 28 0), .ref (am 29 0), vI (((m 0 0 30).toNat : Nat) : Int), vI (m 0 0 31), vI (m 0 0 32), vI (((m 0 0 33).toNat : Nat) : Int), vI (m 0 0 34), .ref (am 35 0), .ref (am 36 0), .ref (am 37 0)]) := hR.1 0 0 (lm0 (by decide))
  refine x_get C (v := .ref (am 8 0)) f1 (T := TX8) rfl kX8_remembers_1 8 (by decide) kX8_remembers_0 rfl dX8_remembers_1 ?_
  refine x_iload_n C dX8_remembers_4 1 rfl ?_
  have f2 : h (am 8 0) = some (eI D 12 (m 8 0)) := hR.1 8 0 (lm0 (by decide))
  refine x_iald C f2 ⟨by omega, by omega⟩ (by decide) dX8_remembers_5 ?_
  refine x_topv (show (m 8 0) (Int.toNat u) = m 8 0 u.toNat from by rfl) ?_
  refine x_istore C (ls' := [(0, .ref (am 0 0)), (1, vI u), (2, vI z), (3, vI k), (4, vI (m 8 0 u.toNat))]) dX8_remembers_6 (by decide) rfl ?_
  refine x_iload C dX8_remembers_8 4 rfl ?_
  refine x_bipush C dX8_remembers_10 40 (by decide) ?_
  refine x_icmp_ne (tgt := 76) C dX8_remembers_12 (by decide) (by omega) (by omega) (fun c3 => ?_) (fun c3 => ?_)
  · skip
    refine x_aload_n C dX8_remembers_76 0 rfl ?_
    refine x_get C (v := .ref (am 9 0)) f1 (T := TX8) rfl kX8_remembers_1 9 (by decide) kX8_remembers_2 rfl dX8_remembers_77 ?_
    refine x_bipush C dX8_remembers_80 40 (by decide) ?_
    refine x_iload_n C dX8_remembers_82 1 rfl ?_
    refine x_imul C dX8_remembers_83 ?_
    refine x_iload C dX8_remembers_84 4 rfl ?_
    refine x_iadd C dX8_remembers_86 ?_
    refine x_iload_n C dX8_remembers_87 2 rfl ?_
    have f4 : h (am 9 0) = some (eI D 480 (m 9 0)) := hR.1 9 0 (lm0 (by decide))
    refine x_iast C f4 ⟨by omega, by omega⟩ (by decide) dX8_remembers_88 (x_hn (fun h5 e6 => ?_))
    have f7 : h5 (am 9 0) = some (eI D 480 (fu (m 9 0) (Int.toNat ((40 * u) + (m 8 0 u.toNat))) z)) := by rw [e6]; exact hu_s
    refine x_aload_n C dX8_remembers_89 0 rfl ?_
    have f8 : h5 (am 0 0) = some (eO 8 [vI (m 0 0 0), .ref (am 1 0), vI (m 0 0 2), .ref (am 3 0), .ref (am 4 0), .ref (am 5 0), .ref (am 6 0), .ref (am 7 0), .ref (am 8 0), .ref (am 9 0), .ref (am 10 0), .ref (am 11 0), .ref (am 12 0), .ref (am 13 0), vI (m 0 0 14), .ref (am 15 0), .ref (am 16 0), .ref (am 17 0), .ref (am 18 0), .ref (am 19 0), .ref (am 20 0), .ref (am 21 0), .ref (am 22 0), .ref (am 23 0), .ref (am 24 0), .ref (am 25 0), .ref (am 26 0), .ref (am 27 0), .ref (am 28 0), .ref (am 29 0), vI (((m 0 0 30).toNat : Nat) : Int), vI (m 0 0 31), vI (m 0 0 32), vI (((m 0 0 33).toNat : Nat) : Int), vI (m 0 0 34), .ref (am 35 0), .ref (am 36 0), .ref (am 37 0)]) := by rw [e6, hu_n (hR.ne (lm0 (by decide)) (lm0 (by decide)) (fun zz9 => absurd zz9.1 (by decide)))]; exact f1
    refine x_get C (v := .ref (am 10 0)) f8 (T := TX8) rfl kX8_remembers_1 10 (by decide) kX8_remembers_3 rfl dX8_remembers_90 ?_
    refine x_bipush C dX8_remembers_93 40 (by decide) ?_
    refine x_iload_n C dX8_remembers_95 1 rfl ?_
    refine x_imul C dX8_remembers_96 ?_
    refine x_iload C dX8_remembers_97 4 rfl ?_
    refine x_iadd C dX8_remembers_99 ?_
    refine x_iload_n C dX8_remembers_100 3 rfl ?_
    have f9 : h (am 10 0) = some (eI D 480 (m 10 0)) := hR.1 10 0 (lm0 (by decide))
    have f10 : h5 (am 10 0) = some (eI D 480 (m 10 0)) := by rw [e6, hu_n (hR.ne (lm0 (by decide)) (lm0 (by decide)) (fun zz9 => absurd zz9.1 (by decide)))]; exact f9
    refine x_iast C f10 ⟨by omega, by omega⟩ (by decide) dX8_remembers_101 (x_hn (fun h11 e12 => ?_))
    have f13 : h11 (am 10 0) = some (eI D 480 (fu (m 10 0) (Int.toNat ((40 * u) + (m 8 0 u.toNat))) k)) := by rw [e12]; exact hu_s
    refine x_aload_n C dX8_remembers_102 0 rfl ?_
    have f14 : h11 (am 0 0) = some (eO 8 [vI (m 0 0 0), .ref (am 1 0), vI (m 0 0 2), .ref (am 3 0), .ref (am 4 0), .ref (am 5 0), .ref (am 6 0), .ref (am 7 0), .ref (am 8 0), .ref (am 9 0), .ref (am 10 0), .ref (am 11 0), .ref (am 12 0), .ref (am 13 0), vI (m 0 0 14), .ref (am 15 0), .ref (am 16 0), .ref (am 17 0), .ref (am 18 0), .ref (am 19 0), .ref (am 20 0), .ref (am 21 0), .ref (am 22 0), .ref (am 23 0), .ref (am 24 0), .ref (am 25 0), .ref (am 26 0), .ref (am 27 0), .ref (am 28 0), .ref (am 29 0), vI (((m 0 0 30).toNat : Nat) : Int), vI (m 0 0 31), vI (m 0 0 32), vI (((m 0 0 33).toNat : Nat) : Int), vI (m 0 0 34), .ref (am 35 0), .ref (am 36 0), .ref (am 37 0)]) := by rw [e12, hu_n (hR.ne (lm0 (by decide)) (lm0 (by decide)) (fun zz9 => absurd zz9.1 (by decide)))]; exact f8
    refine x_get C (v := .ref (am 8 0)) f14 (T := TX8) rfl kX8_remembers_1 8 (by decide) kX8_remembers_0 rfl dX8_remembers_103 ?_
    refine x_iload_n C dX8_remembers_106 1 rfl ?_
    refine x_iload C dX8_remembers_107 4 rfl ?_
    refine x_iconst C dX8_remembers_109 1 (by decide) ?_
    refine x_iadd C dX8_remembers_110 ?_
    have f15 : h5 (am 8 0) = some (eI D 12 (m 8 0)) := by rw [e6, hu_n (hR.ne (lm0 (by decide)) (lm0 (by decide)) (fun zz9 => absurd zz9.1 (by decide)))]; exact f2
    have f16 : h11 (am 8 0) = some (eI D 12 (m 8 0)) := by rw [e12, hu_n (hR.ne (lm0 (by decide)) (lm0 (by decide)) (fun zz9 => absurd zz9.1 (by decide)))]; exact f15
    refine x_iast C f16 ⟨by omega, by omega⟩ (by decide) dX8_remembers_111 (x_hn (fun h17 e18 => ?_))
    have f19 : h17 (am 8 0) = some (eI D 12 (fu (m 8 0) (Int.toNat u) ((m 8 0 u.toNat) + 1))) := by rw [e18]; exact hu_s
    refine x_vret C G dX8_remembers_112 ?_ (by decide) (by decide)
    have cp20 : MP D am h (cu (cu (cu m 9 0 (fu (m 9 0) (Int.toNat ((40 * u) + (m 8 0 u.toNat))) z)) 10 0 (fu (m 10 0) (Int.toNat ((40 * u) + (m 8 0 u.toNat))) k)) 8 0 (fu (m 8 0) (Int.toNat u) ((m 8 0 u.toNat) + 1))) h17 := by rw [e18, e12, e6]; exact (MP.up (MP.up (MP.up (MP.rf hR) (lm0 (by decide)) (fu (m 9 0) (Int.toNat ((40 * u) + (m 8 0 u.toNat))) z) rfl) (lm0 (by decide)) (fu (m 10 0) (Int.toNat ((40 * u) + (m 8 0 u.toNat))) k) rfl) (lm0 (by decide)) (fu (m 8 0) (Int.toNat u) ((m 8 0 u.toNat) + 1)) rfl)
    refine ⟨rfl, ?_⟩
    have q9 := cp20
    first
      | (rw [rem_lo (m := m) (u := u.toNat) (by omega) (show Int.toNat (40 * u + m 8 0 u.toNat) = 40 * u.toNat + (m 8 0 u.toNat).toNat by omega) (show m 8 0 u.toNat + 1 = _ by omega)]; exact q9)
      | (rw [rem_hi (m := m) (u := u.toNat) (by omega) (show Int.toNat (40 * u + 39) = 40 * u.toNat + 39 by omega) (show (39 : Int) + 1 = 40 by omega)]; rw [cu_44 (by decide)] at q9; rw [show n = 39 by omega] at q9; exact q9)
  · skip
    refine x_bipush C dX8_remembers_15 40 (by decide) ?_
    refine x_iload_n C dX8_remembers_17 1 rfl ?_
    refine x_imul C dX8_remembers_18 ?_
    refine x_istore C (ls' := [(0, .ref (am 0 0)), (1, vI u), (2, vI z), (3, vI k), (4, vI (m 8 0 u.toNat)), (5, vI (40 * u))]) dX8_remembers_19 (by decide) rfl ?_
    have LP : ∀ (N : Nat) (n : Nat) (y : Int) (h21 : vh)   (hn : n ≤ 39) (hy : y = 40 * u + n) (hN : 39 - n < N) (h40 : m 8 0 u.toNat = 40) (hcp : MP D am h (cu (cu m 9 0 (shG (m 9 0) (40 * u.toNat) n)) 10 0 (shG (m 10 0) (40 * u.toNat) n)) h21), X κ 0 0 h21 [(0, .ref (am 0 0)), (1, vI u), (2, vI z), (3, vI k), (4, vI (m 8 0 u.toNat)), (5, vI y)] 21 [] := by
      intro N
      induction N with
      | zero => intro n y h21 hn hy hN h40 hcp; exfalso; omega
      | succ N ihLP =>
        intro n y h21 hn hy hN h40 hcp
        subst hy
        refine x_iload C dX8_remembers_21 5 rfl ?_
        refine x_bipush C dX8_remembers_23 40 (by decide) ?_
        refine x_iload_n C dX8_remembers_25 1 rfl ?_
        refine x_imul C dX8_remembers_26 ?_
        refine x_bipush C dX8_remembers_27 40 (by decide) ?_
        refine x_iadd C dX8_remembers_29 ?_
        refine x_iconst C dX8_remembers_30 1 (by decide) ?_
        refine x_isub C dX8_remembers_31 ?_
        refine x_icmp_ge (tgt := 73) C dX8_remembers_32 (by decide) (by omega) (by omega) (fun c22 => ?_) (fun c22 => ?_)
        · skip
          refine x_iinc C (x := m 8 0 u.toNat) (ls' := [(0, .ref (am 0 0)), (1, vI u), (2, vI z), (3, vI k), (4, vI ((m 8 0 u.toNat) + (-1))), (5, vI (40 * u + ((n : Nat) : Int)))]) dX8_remembers_73 4 rfl (by decide) rfl ?_
          rw [show m 8 0 u.toNat + (-1) = 39 by omega]
          refine x_aload_n C dX8_remembers_76 0 rfl ?_
          have f23 : h21 (am 0 0) = some (eO 8 [vI (((cu (cu m 9 0 (shG (m 9 0) (40 * u.toNat) n)) 10 0 (shG (m 10 0) (40 * u.toNat) n)) 0 0) 0), .ref (am 1 0), vI (((cu (cu m 9 0 (shG (m 9 0) (40 * u.toNat) n)) 10 0 (shG (m 10 0) (40 * u.toNat) n)) 0 0) 2), .ref (am 3 0), .ref (am 4 0), .ref (am 5 0), .ref (am 6 0), .ref (am 7 0), .ref (am 8 0), .ref (am 9 0), .ref (am 10 0), .ref (am 11 0), .ref (am 12 0), .ref (am 13 0), vI (((cu (cu m 9 0 (shG (m 9 0) (40 * u.toNat) n)) 10 0 (shG (m 10 0) (40 * u.toNat) n)) 0 0) 14), .ref (am 15 0), .ref (am 16 0), .ref (am 17 0), .ref (am 18 0), .ref (am 19 0), .ref (am 20 0), .ref (am 21 0), .ref (am 22 0), .ref (am 23 0), .ref (am 24 0), .ref (am 25 0), .ref (am 26 0), .ref (am 27 0), .ref (am 28 0), .ref (am 29 0), vI (((((cu (cu m 9 0 (shG (m 9 0) (40 * u.toNat) n)) 10 0 (shG (m 10 0) (40 * u.toNat) n)) 0 0) 30).toNat : Nat) : Int), vI (((cu (cu m 9 0 (shG (m 9 0) (40 * u.toNat) n)) 10 0 (shG (m 10 0) (40 * u.toNat) n)) 0 0) 31), vI (((cu (cu m 9 0 (shG (m 9 0) (40 * u.toNat) n)) 10 0 (shG (m 10 0) (40 * u.toNat) n)) 0 0) 32), vI (((((cu (cu m 9 0 (shG (m 9 0) (40 * u.toNat) n)) 10 0 (shG (m 10 0) (40 * u.toNat) n)) 0 0) 33).toNat : Nat) : Int), vI (((cu (cu m 9 0 (shG (m 9 0) (40 * u.toNat) n)) 10 0 (shG (m 10 0) (40 * u.toNat) n)) 0 0) 34), .ref (am 35 0), .ref (am 36 0), .ref (am 37 0)]) := hcp.1.1 0 0 (lm0 (by decide))
          refine x_get C (v := .ref (am 9 0)) f23 (T := TX8) rfl kX8_remembers_1 9 (by decide) kX8_remembers_2 rfl dX8_remembers_77 ?_
          refine x_bipush C dX8_remembers_80 40 (by decide) ?_
          refine x_iload_n C dX8_remembers_82 1 rfl ?_
          refine x_imul C dX8_remembers_83 ?_
          refine x_iload C dX8_remembers_84 4 rfl ?_
          refine x_iadd C dX8_remembers_86 ?_
          refine x_iload_n C dX8_remembers_87 2 rfl ?_
          have f24 : h21 (am 9 0) = some (eI D 480 (((cu (cu m 9 0 (shG (m 9 0) (40 * u.toNat) n)) 10 0 (shG (m 10 0) (40 * u.toNat) n)) 9 0))) := hcp.1.1 9 0 (lm0 (by decide))
          refine x_iast C f24 ⟨by omega, by omega⟩ (by decide) dX8_remembers_88 (x_hn (fun h25 e26 => ?_))
          have f27 : h25 (am 9 0) = some (eI D 480 (fu (((cu (cu m 9 0 (shG (m 9 0) (40 * u.toNat) n)) 10 0 (shG (m 10 0) (40 * u.toNat) n)) 9 0)) (Int.toNat ((40 * u) + 39)) z)) := by rw [e26]; exact hu_s
          refine x_aload_n C dX8_remembers_89 0 rfl ?_
          have f28 : h25 (am 0 0) = some (eO 8 [vI (((cu (cu m 9 0 (shG (m 9 0) (40 * u.toNat) n)) 10 0 (shG (m 10 0) (40 * u.toNat) n)) 0 0) 0), .ref (am 1 0), vI (((cu (cu m 9 0 (shG (m 9 0) (40 * u.toNat) n)) 10 0 (shG (m 10 0) (40 * u.toNat) n)) 0 0) 2), .ref (am 3 0), .ref (am 4 0), .ref (am 5 0), .ref (am 6 0), .ref (am 7 0), .ref (am 8 0), .ref (am 9 0), .ref (am 10 0), .ref (am 11 0), .ref (am 12 0), .ref (am 13 0), vI (((cu (cu m 9 0 (shG (m 9 0) (40 * u.toNat) n)) 10 0 (shG (m 10 0) (40 * u.toNat) n)) 0 0) 14), .ref (am 15 0), .ref (am 16 0), .ref (am 17 0), .ref (am 18 0), .ref (am 19 0), .ref (am 20 0), .ref (am 21 0), .ref (am 22 0), .ref (am 23 0), .ref (am 24 0), .ref (am 25 0), .ref (am 26 0), .ref (am 27 0), .ref (am 28 0), .ref (am 29 0), vI (((((cu (cu m 9 0 (shG (m 9 0) (40 * u.toNat) n)) 10 0 (shG (m 10 0) (40 * u.toNat) n)) 0 0) 30).toNat : Nat) : Int), vI (((cu (cu m 9 0 (shG (m 9 0) (40 * u.toNat) n)) 10 0 (shG (m 10 0) (40 * u.toNat) n)) 0 0) 31), vI (((cu (cu m 9 0 (shG (m 9 0) (40 * u.toNat) n)) 10 0 (shG (m 10 0) (40 * u.toNat) n)) 0 0) 32), vI (((((cu (cu m 9 0 (shG (m 9 0) (40 * u.toNat) n)) 10 0 (shG (m 10 0) (40 * u.toNat) n)) 0 0) 33).toNat : Nat) : Int), vI (((cu (cu m 9 0 (shG (m 9 0) (40 * u.toNat) n)) 10 0 (shG (m 10 0) (40 * u.toNat) n)) 0 0) 34), .ref (am 35 0), .ref (am 36 0), .ref (am 37 0)]) := by rw [e26, hu_n (hcp.1.ne (lm0 (by decide)) (lm0 (by decide)) (fun zz9 => absurd zz9.1 (by decide)))]; exact f23
          refine x_get C (v := .ref (am 10 0)) f28 (T := TX8) rfl kX8_remembers_1 10 (by decide) kX8_remembers_3 rfl dX8_remembers_90 ?_
          refine x_bipush C dX8_remembers_93 40 (by decide) ?_
          refine x_iload_n C dX8_remembers_95 1 rfl ?_
          refine x_imul C dX8_remembers_96 ?_
          refine x_iload C dX8_remembers_97 4 rfl ?_
          refine x_iadd C dX8_remembers_99 ?_
          refine x_iload_n C dX8_remembers_100 3 rfl ?_
          have f29 : h21 (am 10 0) = some (eI D 480 (((cu (cu m 9 0 (shG (m 9 0) (40 * u.toNat) n)) 10 0 (shG (m 10 0) (40 * u.toNat) n)) 10 0))) := hcp.1.1 10 0 (lm0 (by decide))
          have f30 : h25 (am 10 0) = some (eI D 480 (((cu (cu m 9 0 (shG (m 9 0) (40 * u.toNat) n)) 10 0 (shG (m 10 0) (40 * u.toNat) n)) 10 0))) := by rw [e26, hu_n (hcp.1.ne (lm0 (by decide)) (lm0 (by decide)) (fun zz9 => absurd zz9.1 (by decide)))]; exact f29
          refine x_iast C f30 ⟨by omega, by omega⟩ (by decide) dX8_remembers_101 (x_hn (fun h31 e32 => ?_))
          have f33 : h31 (am 10 0) = some (eI D 480 (fu (((cu (cu m 9 0 (shG (m 9 0) (40 * u.toNat) n)) 10 0 (shG (m 10 0) (40 * u.toNat) n)) 10 0)) (Int.toNat ((40 * u) + 39)) k)) := by rw [e32]; exact hu_s
          refine x_aload_n C dX8_remembers_102 0 rfl ?_
          have f34 : h31 (am 0 0) = some (eO 8 [vI (((cu (cu m 9 0 (shG (m 9 0) (40 * u.toNat) n)) 10 0 (shG (m 10 0) (40 * u.toNat) n)) 0 0) 0), .ref (am 1 0), vI (((cu (cu m 9 0 (shG (m 9 0) (40 * u.toNat) n)) 10 0 (shG (m 10 0) (40 * u.toNat) n)) 0 0) 2), .ref (am 3 0), .ref (am 4 0), .ref (am 5 0), .ref (am 6 0), .ref (am 7 0), .ref (am 8 0), .ref (am 9 0), .ref (am 10 0), .ref (am 11 0), .ref (am 12 0), .ref (am 13 0), vI (((cu (cu m 9 0 (shG (m 9 0) (40 * u.toNat) n)) 10 0 (shG (m 10 0) (40 * u.toNat) n)) 0 0) 14), .ref (am 15 0), .ref (am 16 0), .ref (am 17 0), .ref (am 18 0), .ref (am 19 0), .ref (am 20 0), .ref (am 21 0), .ref (am 22 0), .ref (am 23 0), .ref (am 24 0), .ref (am 25 0), .ref (am 26 0), .ref (am 27 0), .ref (am 28 0), .ref (am 29 0), vI (((((cu (cu m 9 0 (shG (m 9 0) (40 * u.toNat) n)) 10 0 (shG (m 10 0) (40 * u.toNat) n)) 0 0) 30).toNat : Nat) : Int), vI (((cu (cu m 9 0 (shG (m 9 0) (40 * u.toNat) n)) 10 0 (shG (m 10 0) (40 * u.toNat) n)) 0 0) 31), vI (((cu (cu m 9 0 (shG (m 9 0) (40 * u.toNat) n)) 10 0 (shG (m 10 0) (40 * u.toNat) n)) 0 0) 32), vI (((((cu (cu m 9 0 (shG (m 9 0) (40 * u.toNat) n)) 10 0 (shG (m 10 0) (40 * u.toNat) n)) 0 0) 33).toNat : Nat) : Int), vI (((cu (cu m 9 0 (shG (m 9 0) (40 * u.toNat) n)) 10 0 (shG (m 10 0) (40 * u.toNat) n)) 0 0) 34), .ref (am 35 0), .ref (am 36 0), .ref (am 37 0)]) := by rw [e32, hu_n (hcp.1.ne (lm0 (by decide)) (lm0 (by decide)) (fun zz9 => absurd zz9.1 (by decide)))]; exact f28
          refine x_get C (v := .ref (am 8 0)) f34 (T := TX8) rfl kX8_remembers_1 8 (by decide) kX8_remembers_0 rfl dX8_remembers_103 ?_
          refine x_iload_n C dX8_remembers_106 1 rfl ?_
          refine x_iload C dX8_remembers_107 4 rfl ?_
          refine x_iconst C dX8_remembers_109 1 (by decide) ?_
          refine x_iadd C dX8_remembers_110 ?_
          have f35 : h21 (am 8 0) = some (eI D 12 (((cu (cu m 9 0 (shG (m 9 0) (40 * u.toNat) n)) 10 0 (shG (m 10 0) (40 * u.toNat) n)) 8 0))) := hcp.1.1 8 0 (lm0 (by decide))
          have f36 : h25 (am 8 0) = some (eI D 12 (((cu (cu m 9 0 (shG (m 9 0) (40 * u.toNat) n)) 10 0 (shG (m 10 0) (40 * u.toNat) n)) 8 0))) := by rw [e26, hu_n (hcp.1.ne (lm0 (by decide)) (lm0 (by decide)) (fun zz9 => absurd zz9.1 (by decide)))]; exact f35
          have f37 : h31 (am 8 0) = some (eI D 12 (((cu (cu m 9 0 (shG (m 9 0) (40 * u.toNat) n)) 10 0 (shG (m 10 0) (40 * u.toNat) n)) 8 0))) := by rw [e32, hu_n (hcp.1.ne (lm0 (by decide)) (lm0 (by decide)) (fun zz9 => absurd zz9.1 (by decide)))]; exact f36
          refine x_iast C f37 ⟨by omega, by omega⟩ (by decide) dX8_remembers_111 (x_hn (fun h38 e39 => ?_))
          have f40 : h38 (am 8 0) = some (eI D 12 (fu (((cu (cu m 9 0 (shG (m 9 0) (40 * u.toNat) n)) 10 0 (shG (m 10 0) (40 * u.toNat) n)) 8 0)) (Int.toNat u) (39 + 1))) := by rw [e39]; exact hu_s
          refine x_vret C G dX8_remembers_112 ?_ (by decide) (by decide)
          have cp41 : MP D am h (cu (cu (cu (cu (cu m 9 0 (shG (m 9 0) (40 * u.toNat) n)) 10 0 (shG (m 10 0) (40 * u.toNat) n)) 9 0 (fu (((cu (cu m 9 0 (shG (m 9 0) (40 * u.toNat) n)) 10 0 (shG (m 10 0) (40 * u.toNat) n)) 9 0)) (Int.toNat ((40 * u) + 39)) z)) 10 0 (fu (((cu (cu m 9 0 (shG (m 9 0) (40 * u.toNat) n)) 10 0 (shG (m 10 0) (40 * u.toNat) n)) 10 0)) (Int.toNat ((40 * u) + 39)) k)) 8 0 (fu (((cu (cu m 9 0 (shG (m 9 0) (40 * u.toNat) n)) 10 0 (shG (m 10 0) (40 * u.toNat) n)) 8 0)) (Int.toNat u) (39 + 1))) h38 := by rw [e39, e32, e26]; exact (MP.up (MP.up (MP.up hcp (lm0 (by decide)) (fu (((cu (cu m 9 0 (shG (m 9 0) (40 * u.toNat) n)) 10 0 (shG (m 10 0) (40 * u.toNat) n)) 9 0)) (Int.toNat ((40 * u) + 39)) z) rfl) (lm0 (by decide)) (fu (((cu (cu m 9 0 (shG (m 9 0) (40 * u.toNat) n)) 10 0 (shG (m 10 0) (40 * u.toNat) n)) 10 0)) (Int.toNat ((40 * u) + 39)) k) rfl) (lm0 (by decide)) (fu (((cu (cu m 9 0 (shG (m 9 0) (40 * u.toNat) n)) 10 0 (shG (m 10 0) (40 * u.toNat) n)) 8 0)) (Int.toNat u) (39 + 1)) rfl)
          refine ⟨rfl, ?_⟩
          have q9 := cp41
          first
            | (rw [rem_lo (m := m) (u := u.toNat) (by omega) (show Int.toNat (40 * u + m 8 0 u.toNat) = 40 * u.toNat + (m 8 0 u.toNat).toNat by omega) (show m 8 0 u.toNat + 1 = _ by omega)]; exact q9)
            | (rw [rem_hi (m := m) (u := u.toNat) (by omega) (show Int.toNat (40 * u + 39) = 40 * u.toNat + 39 by omega) (show (39 : Int) + 1 = 40 by omega)]; rw [cu_44 (by decide)] at q9; rw [show n = 39 by omega] at q9; exact q9)
        · skip
          refine x_aload_n C dX8_remembers_35 0 rfl ?_
          have f42 : h21 (am 0 0) = some (eO 8 [vI (((cu (cu m 9 0 (shG (m 9 0) (40 * u.toNat) n)) 10 0 (shG (m 10 0) (40 * u.toNat) n)) 0 0) 0), .ref (am 1 0), vI (((cu (cu m 9 0 (shG (m 9 0) (40 * u.toNat) n)) 10 0 (shG (m 10 0) (40 * u.toNat) n)) 0 0) 2), .ref (am 3 0), .ref (am 4 0), .ref (am 5 0), .ref (am 6 0), .ref (am 7 0), .ref (am 8 0), .ref (am 9 0), .ref (am 10 0), .ref (am 11 0), .ref (am 12 0), .ref (am 13 0), vI (((cu (cu m 9 0 (shG (m 9 0) (40 * u.toNat) n)) 10 0 (shG (m 10 0) (40 * u.toNat) n)) 0 0) 14), .ref (am 15 0), .ref (am 16 0), .ref (am 17 0), .ref (am 18 0), .ref (am 19 0), .ref (am 20 0), .ref (am 21 0), .ref (am 22 0), .ref (am 23 0), .ref (am 24 0), .ref (am 25 0), .ref (am 26 0), .ref (am 27 0), .ref (am 28 0), .ref (am 29 0), vI (((((cu (cu m 9 0 (shG (m 9 0) (40 * u.toNat) n)) 10 0 (shG (m 10 0) (40 * u.toNat) n)) 0 0) 30).toNat : Nat) : Int), vI (((cu (cu m 9 0 (shG (m 9 0) (40 * u.toNat) n)) 10 0 (shG (m 10 0) (40 * u.toNat) n)) 0 0) 31), vI (((cu (cu m 9 0 (shG (m 9 0) (40 * u.toNat) n)) 10 0 (shG (m 10 0) (40 * u.toNat) n)) 0 0) 32), vI (((((cu (cu m 9 0 (shG (m 9 0) (40 * u.toNat) n)) 10 0 (shG (m 10 0) (40 * u.toNat) n)) 0 0) 33).toNat : Nat) : Int), vI (((cu (cu m 9 0 (shG (m 9 0) (40 * u.toNat) n)) 10 0 (shG (m 10 0) (40 * u.toNat) n)) 0 0) 34), .ref (am 35 0), .ref (am 36 0), .ref (am 37 0)]) := hcp.1.1 0 0 (lm0 (by decide))
          refine x_get C (v := .ref (am 9 0)) f42 (T := TX8) rfl kX8_remembers_1 9 (by decide) kX8_remembers_2 rfl dX8_remembers_36 ?_
          refine x_iload C dX8_remembers_39 5 rfl ?_
          refine x_aload_n C dX8_remembers_41 0 rfl ?_
          refine x_get C (v := .ref (am 9 0)) f42 (T := TX8) rfl kX8_remembers_1 9 (by decide) kX8_remembers_2 rfl dX8_remembers_42 ?_
          refine x_iload C dX8_remembers_45 5 rfl ?_
          refine x_iconst C dX8_remembers_47 1 (by decide) ?_
          refine x_iadd C dX8_remembers_48 ?_
          have f43 : h21 (am 9 0) = some (eI D 480 (((cu (cu m 9 0 (shG (m 9 0) (40 * u.toNat) n)) 10 0 (shG (m 10 0) (40 * u.toNat) n)) 9 0))) := hcp.1.1 9 0 (lm0 (by decide))
          refine x_iald C f43 ⟨by omega, by omega⟩ (by decide) dX8_remembers_49 ?_
          refine x_iast C f43 ⟨by omega, by omega⟩ (by decide) dX8_remembers_50 (x_hn (fun h44 e45 => ?_))
          have f46 : h44 (am 9 0) = some (eI D 480 (fu (((cu (cu m 9 0 (shG (m 9 0) (40 * u.toNat) n)) 10 0 (shG (m 10 0) (40 * u.toNat) n)) 9 0)) (Int.toNat (40 * u + ((n : Nat) : Int))) ((((cu (cu m 9 0 (shG (m 9 0) (40 * u.toNat) n)) 10 0 (shG (m 10 0) (40 * u.toNat) n)) 9 0)) (Int.toNat ((40 * u + ((n : Nat) : Int)) + 1))))) := by rw [e45]; exact hu_s
          refine x_aload_n C dX8_remembers_51 0 rfl ?_
          have f47 : h44 (am 0 0) = some (eO 8 [vI (((cu (cu m 9 0 (shG (m 9 0) (40 * u.toNat) n)) 10 0 (shG (m 10 0) (40 * u.toNat) n)) 0 0) 0), .ref (am 1 0), vI (((cu (cu m 9 0 (shG (m 9 0) (40 * u.toNat) n)) 10 0 (shG (m 10 0) (40 * u.toNat) n)) 0 0) 2), .ref (am 3 0), .ref (am 4 0), .ref (am 5 0), .ref (am 6 0), .ref (am 7 0), .ref (am 8 0), .ref (am 9 0), .ref (am 10 0), .ref (am 11 0), .ref (am 12 0), .ref (am 13 0), vI (((cu (cu m 9 0 (shG (m 9 0) (40 * u.toNat) n)) 10 0 (shG (m 10 0) (40 * u.toNat) n)) 0 0) 14), .ref (am 15 0), .ref (am 16 0), .ref (am 17 0), .ref (am 18 0), .ref (am 19 0), .ref (am 20 0), .ref (am 21 0), .ref (am 22 0), .ref (am 23 0), .ref (am 24 0), .ref (am 25 0), .ref (am 26 0), .ref (am 27 0), .ref (am 28 0), .ref (am 29 0), vI (((((cu (cu m 9 0 (shG (m 9 0) (40 * u.toNat) n)) 10 0 (shG (m 10 0) (40 * u.toNat) n)) 0 0) 30).toNat : Nat) : Int), vI (((cu (cu m 9 0 (shG (m 9 0) (40 * u.toNat) n)) 10 0 (shG (m 10 0) (40 * u.toNat) n)) 0 0) 31), vI (((cu (cu m 9 0 (shG (m 9 0) (40 * u.toNat) n)) 10 0 (shG (m 10 0) (40 * u.toNat) n)) 0 0) 32), vI (((((cu (cu m 9 0 (shG (m 9 0) (40 * u.toNat) n)) 10 0 (shG (m 10 0) (40 * u.toNat) n)) 0 0) 33).toNat : Nat) : Int), vI (((cu (cu m 9 0 (shG (m 9 0) (40 * u.toNat) n)) 10 0 (shG (m 10 0) (40 * u.toNat) n)) 0 0) 34), .ref (am 35 0), .ref (am 36 0), .ref (am 37 0)]) := by rw [e45, hu_n (hcp.1.ne (lm0 (by decide)) (lm0 (by decide)) (fun zz9 => absurd zz9.1 (by decide)))]; exact f42
          refine x_get C (v := .ref (am 10 0)) f47 (T := TX8) rfl kX8_remembers_1 10 (by decide) kX8_remembers_3 rfl dX8_remembers_52 ?_
          refine x_iload C dX8_remembers_55 5 rfl ?_
          refine x_aload_n C dX8_remembers_57 0 rfl ?_
          refine x_get C (v := .ref (am 10 0)) f47 (T := TX8) rfl kX8_remembers_1 10 (by decide) kX8_remembers_3 rfl dX8_remembers_58 ?_
          refine x_iload C dX8_remembers_61 5 rfl ?_
          refine x_iconst C dX8_remembers_63 1 (by decide) ?_
          refine x_iadd C dX8_remembers_64 ?_
          have f48 : h21 (am 10 0) = some (eI D 480 (((cu (cu m 9 0 (shG (m 9 0) (40 * u.toNat) n)) 10 0 (shG (m 10 0) (40 * u.toNat) n)) 10 0))) := hcp.1.1 10 0 (lm0 (by decide))
          have f49 : h44 (am 10 0) = some (eI D 480 (((cu (cu m 9 0 (shG (m 9 0) (40 * u.toNat) n)) 10 0 (shG (m 10 0) (40 * u.toNat) n)) 10 0))) := by rw [e45, hu_n (hcp.1.ne (lm0 (by decide)) (lm0 (by decide)) (fun zz9 => absurd zz9.1 (by decide)))]; exact f48
          refine x_iald C f49 ⟨by omega, by omega⟩ (by decide) dX8_remembers_65 ?_
          refine x_iast C f49 ⟨by omega, by omega⟩ (by decide) dX8_remembers_66 (x_hn (fun h50 e51 => ?_))
          have f52 : h50 (am 10 0) = some (eI D 480 (fu (((cu (cu m 9 0 (shG (m 9 0) (40 * u.toNat) n)) 10 0 (shG (m 10 0) (40 * u.toNat) n)) 10 0)) (Int.toNat (40 * u + ((n : Nat) : Int))) ((((cu (cu m 9 0 (shG (m 9 0) (40 * u.toNat) n)) 10 0 (shG (m 10 0) (40 * u.toNat) n)) 10 0)) (Int.toNat ((40 * u + ((n : Nat) : Int)) + 1))))) := by rw [e51]; exact hu_s
          refine x_iinc C (x := 40 * u + ((n : Nat) : Int)) (ls' := [(0, .ref (am 0 0)), (1, vI u), (2, vI z), (3, vI k), (4, vI (m 8 0 u.toNat)), (5, vI ((40 * u + ((n : Nat) : Int)) + 1))]) dX8_remembers_67 5 rfl (by decide) rfl ?_
          refine x_goto (tgt := 21) C dX8_remembers_70 (by decide) ?_
          have cp53 : MP D am h (cu (cu (cu (cu m 9 0 (shG (m 9 0) (40 * u.toNat) n)) 10 0 (shG (m 10 0) (40 * u.toNat) n)) 9 0 (fu (((cu (cu m 9 0 (shG (m 9 0) (40 * u.toNat) n)) 10 0 (shG (m 10 0) (40 * u.toNat) n)) 9 0)) (Int.toNat (40 * u + ((n : Nat) : Int))) ((((cu (cu m 9 0 (shG (m 9 0) (40 * u.toNat) n)) 10 0 (shG (m 10 0) (40 * u.toNat) n)) 9 0)) (Int.toNat ((40 * u + ((n : Nat) : Int)) + 1))))) 10 0 (fu (((cu (cu m 9 0 (shG (m 9 0) (40 * u.toNat) n)) 10 0 (shG (m 10 0) (40 * u.toNat) n)) 10 0)) (Int.toNat (40 * u + ((n : Nat) : Int))) ((((cu (cu m 9 0 (shG (m 9 0) (40 * u.toNat) n)) 10 0 (shG (m 10 0) (40 * u.toNat) n)) 10 0)) (Int.toNat ((40 * u + ((n : Nat) : Int)) + 1))))) h50 := by rw [e51, e45]; exact (MP.up (MP.up hcp (lm0 (by decide)) (fu (((cu (cu m 9 0 (shG (m 9 0) (40 * u.toNat) n)) 10 0 (shG (m 10 0) (40 * u.toNat) n)) 9 0)) (Int.toNat (40 * u + ((n : Nat) : Int))) ((((cu (cu m 9 0 (shG (m 9 0) (40 * u.toNat) n)) 10 0 (shG (m 10 0) (40 * u.toNat) n)) 9 0)) (Int.toNat ((40 * u + ((n : Nat) : Int)) + 1)))) rfl) (lm0 (by decide)) (fu (((cu (cu m 9 0 (shG (m 9 0) (40 * u.toNat) n)) 10 0 (shG (m 10 0) (40 * u.toNat) n)) 10 0)) (Int.toNat (40 * u + ((n : Nat) : Int))) ((((cu (cu m 9 0 (shG (m 9 0) (40 * u.toNat) n)) 10 0 (shG (m 10 0) (40 * u.toNat) n)) 10 0)) (Int.toNat ((40 * u + ((n : Nat) : Int)) + 1)))) rfl)
          exact ihLP (n + 1) ((40 * u + ((n : Nat) : Int)) + 1) h50 (by omega) (by omega) (by omega) (by omega) (by have q9 := cp53; rw [cu_44 (by decide)] at q9; rw [show Int.toNat (40 * u + ((n : Nat) : Int)) = 40 * u.toNat + n by omega, show Int.toNat (40 * u + ((n : Nat) : Int) + 1) = 40 * u.toNat + n + 1 by omega] at q9; rw [← shG_s, ← shG_s]; exact q9)
    exact LP (40) 0 (40 * u) h (by omega) (by omega) (by omega) (by omega) (by rw [shG_0, shG_0, cu_id rfl, cu_id rfl]; exact (MP.rf hR))

theorem kX8_set_0 : Cond.fieldLink "LedgeLevelsModel" 101 "LedgeLevelsModel" "thrown" "I" ∈ wsX8_set := by decide +kernel
theorem kX8_set_1 : ∀ w ∈ wsX80, w ∈ wsX8_set := by decide +kernel
theorem kX8_set_2 : Cond.fieldLink "LedgeLevelsModel" 16 "LedgeLevelsModel" "grid" "[I" ∈ wsX8_set := by decide +kernel
theorem kX8_set_3 : Cond.fieldLink "LedgeLevelsModel" 37 "LedgeLevelsModel" "redos" "[I" ∈ wsX8_set := by decide +kernel
theorem kX8_set_4 : Cond.fieldLink "LedgeLevelsModel" 22 "LedgeLevelsModel" "proofs" "[I" ∈ wsX8_set := by decide +kernel
set_option maxRecDepth 100000 in
set_option maxHeartbeats 4000000 in
theorem c_X8_set {l : Launch} {D : va_G} {A : Nat → Prop} {h : vh} {am : AD} {m : CS} {u z k : Int}  (hR : RepM D am m h) (hM1 : Mk1 m) (hi_u : -2147483648 ≤ u ∧ u ≤ 2147483647) (hi_z : -2147483648 ≤ z ∧ z ≤ 2147483647) (hi_k : -2147483648 ≤ k ∧ k ≤ 2147483647) (hG4 : ∀ i j : Nat, (i : Int) < m 0 0 2 → j < 96 → 0 ≤ m 4 0 (96 * i + j) ∧ m 4 0 (96 * i + j) ≤ 8) (hun : ∀ i : Nat, (i : Int) < m 0 0 2 → 0 ≤ m 8 0 i ∧ 0 ≤ m 11 0 i ∧ m 8 0 i + m 11 0 i ≤ 40) : MX l D A yX8_set wsX8_set { frames := 2, cells := 0, slots := 0, locals := 43 } [.ref (am 0 0), vI u, vI z, vI k] h (fun rv h' => ∃ (r : Int) (m1 : CS), rv = some (vI r) ∧ MP D am h (m1) h' ∧ ((m1 0 0 0 = 1 ∧ (¬ (0 ≤ u ∧ u < m 0 0 2) ∨ ¬ (0 ≤ z ∧ z < 96)) ∧ SM m m1) ∨ (m1 0 0 0 = 2 ∧ (0 ≤ u ∧ u < m 0 0 2 ∧ (0 ≤ z ∧ z < 96) ∧ ¬ (0 ≤ k ∧ k ≤ 8)) ∧ SM m m1) ∨ (m1 0 0 0 = 3 ∧ (0 ≤ u ∧ u < m 0 0 2 ∧ (0 ≤ z ∧ z < 96) ∧ (0 ≤ k ∧ k ≤ 8) ∧ k = 2 ∧ m 4 0 (96 * u + z).toNat ≠ 2 ∧ cnK (fun j => m 4 0 (96 * u.toNat + j)) 96 = 3) ∧ SM m m1) ∨ (m1 0 0 0 = 0 ∧ (0 ≤ u ∧ u < m 0 0 2 ∧ (0 ≤ z ∧ z < 96) ∧ (0 ≤ k ∧ k ≤ 8) ∧ ¬ (k = 2 ∧ m 4 0 (96 * u + z).toNat ≠ 2 ∧ cnK (fun j => m 4 0 (96 * u.toNat + j)) 96 = 3)) ∧ r = m 4 0 (96 * u + z).toNat ∧ SM (cu (cu (remM (cu m 4 0 (fu (m 4 0) (96 * u + z).toNat k)) u.toNat z (10 * m 4 0 (96 * u + z).toNat + k)) 11 0 (fu (m 11 0) u.toNat 0)) 6 0 (fu (m 6 0) u.toNat (-2))) m1))) := by
  refine MX.of (cc := cX8_set) (maxL := 5) (ret := (some .int)) [(0, .ref (am 0 0)), (1, vI u), (2, vI z), (3, vI k)] (by decide +kernel) rfl rfl (Nat.le_of_ble_eq_true rfl) ?_
  intro κ C hkl G
  subst hkl
  have C : CX κ "LedgeLevelsModel" "set" cX8_set wsX8_set { frames := 2, cells := 0, slots := 0, locals := 43 } D A 5 := C
  have hiz : nq (D.1 20) (D.1 21) := cx_iz C
  obtain ⟨hM1a, hM1b⟩ := id hM1
  refine x_aload_n C dX8_set_0 0 rfl ?_
  refine x_iconst C dX8_set_1 0 (by decide) ?_
  have f1 : h (am 0 0) = some (eO 8 [vI (m 0 0 0), .ref (am 1 0), vI (m 0 0 2), .ref (am 3 0), .ref (am 4 0), .ref (am 5 0), .ref (am 6 0), .ref (am 7 0), .ref (am 8 0), .ref (am 9 0), .ref (am 10 0), .ref (am 11 0), .ref (am 12 0), .ref (am 13 0), vI (m 0 0 14), .ref (am 15 0), .ref (am 16 0), .ref (am 17 0), .ref (am 18 0), .ref (am 19 0), .ref (am 20 0), .ref (am 21 0), .ref (am 22 0), .ref (am 23 0), .ref (am 24 0), .ref (am 25 0), .ref (am 26 0), .ref (am 27 0), .ref (am 28 0), .ref (am 29 0), vI (((m 0 0 30).toNat : Nat) : Int), vI (m 0 0 31), vI (m 0 0 32), vI (((m 0 0 33).toNat : Nat) : Int), vI (m 0 0 34), .ref (am 35 0), .ref (am 36 0), .ref (am 37 0)]) := hR.1 0 0 (lm0 (by decide))
  refine x_put C f1 (T := TX8) rfl tyX8_ok nmX8 kX8_set_1 0 (by decide) kX8_set_0 rfl (fs' := [vI 0, .ref (am 1 0), vI (m 0 0 2), .ref (am 3 0), .ref (am 4 0), .ref (am 5 0), .ref (am 6 0), .ref (am 7 0), .ref (am 8 0), .ref (am 9 0), .ref (am 10 0), .ref (am 11 0), .ref (am 12 0), .ref (am 13 0), vI (m 0 0 14), .ref (am 15 0), .ref (am 16 0), .ref (am 17 0), .ref (am 18 0), .ref (am 19 0), .ref (am 20 0), .ref (am 21 0), .ref (am 22 0), .ref (am 23 0), .ref (am 24 0), .ref (am 25 0), .ref (am 26 0), .ref (am 27 0), .ref (am 28 0), .ref (am 29 0), vI (((m 0 0 30).toNat : Nat) : Int), vI (m 0 0 31), vI (m 0 0 32), vI (((m 0 0 33).toNat : Nat) : Int), vI (m 0 0 34), .ref (am 35 0), .ref (am 36 0), .ref (am 37 0)]) rfl rfl (by simp) rfl dX8_set_2 (x_hn (fun h2 e3 => ?_))
  have f4 : h2 (am 0 0) = some (eO 8 [vI 0, .ref (am 1 0), vI (m 0 0 2), .ref (am 3 0), .ref (am 4 0), .ref (am 5 0), .ref (am 6 0), .ref (am 7 0), .ref (am 8 0), .ref (am 9 0), .ref (am 10 0), .ref (am 11 0), .ref (am 12 0), .ref (am 13 0), vI (m 0 0 14), .ref (am 15 0), .ref (am 16 0), .ref (am 17 0), .ref (am 18 0), .ref (am 19 0), .ref (am 20 0), .ref (am 21 0), .ref (am 22 0), .ref (am 23 0), .ref (am 24 0), .ref (am 25 0), .ref (am 26 0), .ref (am 27 0), .ref (am 28 0), .ref (am 29 0), vI (((m 0 0 30).toNat : Nat) : Int), vI (m 0 0 31), vI (m 0 0 32), vI (((m 0 0 33).toNat : Nat) : Int), vI (m 0 0 34), .ref (am 35 0), .ref (am 36 0), .ref (am 37 0)]) := by rw [e3]; exact hu_s
  refine x_aload_n C dX8_set_5 0 rfl ?_
  refine x_iload_n C dX8_set_6 1 rfl ?_
  have cp6 : MP D am h (cu m 0 0 ((fu (m 0 0) 0 0))) h2 := by rw [e3]; exact (MP.up (MP.rf hR) (lm0 (by decide)) ((fu (m 0 0) 0 0)) rfl)
  refine x_callV C (n := 1) (qc := (RX8, TX8, 38)) (As := [vI u]) (rest := []) (c_X8_isLevel (cp6.1) (hM1) (by omega)) gX8_set_X8_isLevel (by decide +kernel) f4 rfl rfl rfl rfl (Nat.le_of_ble_eq_true rfl) ⟨by decide, by decide⟩ ⟨(by decide), (by decide)⟩ dX8_set_7 (fun rv7 h8 hp9 => ?_)
  obtain ⟨rfl, e10⟩ := hp9
  obtain rfl := e10.symm
  refine x_topv (show bI (0 ≤ u ∧ u ≤ ((cu m 0 0 ((fu (m 0 0) 0 0)))) 0 0 2 - 1) = bI (0 ≤ u ∧ u ≤ m 0 0 2 - 1) from by rfl) ?_
  have hbr5 := bI_cs ((0 ≤ u ∧ u ≤ m 0 0 2 - 1))
  refine x_if_eq (tgt := 20) C dX8_set_10 (by decide) (by omega) (fun c11 => ?_) (fun c11 => ?_)
  · skip
    refine x_aload_n C dX8_set_20 0 rfl ?_
    refine x_iconst C dX8_set_21 1 (by decide) ?_
    have cp12 : MP D am h (cu m 0 0 ((fu (m 0 0) 0 0))) h2 := by rw [e3]; exact (MP.up (MP.rf hR) (lm0 (by decide)) ((fu (m 0 0) 0 0)) rfl)
    refine x_callV C (n := 1) (qc := (RX8, TX8, 38)) (As := [vI 1]) (rest := []) (c_X8_fails (cp12.1)) gX8_set_X8_fails (by decide +kernel) f4 rfl rfl rfl rfl (Nat.le_of_ble_eq_true rfl) ⟨by decide, by decide⟩ ⟨(by decide), (by decide)⟩ dX8_set_22 (fun rv13 h14 hp15 => ?_)
    obtain ⟨rfl, cp17⟩ := hp15
    have cp18 : MP D am h ((cu ((cu m 0 0 ((fu (m 0 0) 0 0)))) 0 0 ((fu (((cu m 0 0 ((fu (m 0 0) 0 0)))) 0 0) 0 1)))) h14 := MP.trans cp12 cp17
    refine x_iret C G dX8_set_25 ?_ (by decide) (by decide)
    first
      | exact ⟨_, _, rfl, cp18, Or.inl (⟨rfl, by omega, (by repeat (first | exact SM.rf | refine SM.th ?_ | refine SM.rem ?_ | refine SM.o2 ?_ | refine SM.o14 ?_ | refine SM.sr ?_ | refine SM.ly (by assumption) (by assumption) ?_ | refine SM.bm ?_ | refine SM.st ?_ | refine SM.mv ?_ | refine SM.up (by decide) ?_))⟩)⟩
      | exact ⟨_, _, rfl, cp18, Or.inr (Or.inl (⟨rfl, by omega, (by repeat (first | exact SM.rf | refine SM.th ?_ | refine SM.rem ?_ | refine SM.o2 ?_ | refine SM.o14 ?_ | refine SM.sr ?_ | refine SM.ly (by assumption) (by assumption) ?_ | refine SM.bm ?_ | refine SM.st ?_ | refine SM.mv ?_ | refine SM.up (by decide) ?_))⟩))⟩
      | exact ⟨_, _, rfl, cp18, Or.inr (Or.inr (Or.inl (⟨rfl, by omega, (by repeat (first | exact SM.rf | refine SM.th ?_ | refine SM.rem ?_ | refine SM.o2 ?_ | refine SM.o14 ?_ | refine SM.sr ?_ | refine SM.ly (by assumption) (by assumption) ?_ | refine SM.bm ?_ | refine SM.st ?_ | refine SM.mv ?_ | refine SM.up (by decide) ?_))⟩)))⟩
      | exact ⟨_, _, rfl, cp18, Or.inr (Or.inr (Or.inr (⟨rfl, by omega, by first | rfl | omega, (by repeat (first | exact SM.rf | refine SM.th ?_ | refine SM.rem ?_ | refine SM.o2 ?_ | refine SM.o14 ?_ | refine SM.sr ?_ | refine SM.ly (by assumption) (by assumption) ?_ | refine SM.bm ?_ | refine SM.st ?_ | refine SM.mv ?_ | refine SM.up (by decide) ?_))⟩)))⟩
  · skip
    refine x_iload_n C dX8_set_13 2 rfl ?_
    refine x_callS C (n := 1) (As := [vI z]) (rest := []) (c_X8_isCell (by omega)) gX8_set_X8_isCell (by decide +kernel) rfl rfl rfl (Nat.le_of_ble_eq_true rfl) ⟨by decide, by decide⟩ ⟨(by decide), (by decide)⟩ dX8_set_14 (fun rv20 h21 hp22 => ?_)
    obtain ⟨rfl, e23⟩ := hp22
    obtain rfl := e23.symm
    have hbr19 := bI_cs ((0 ≤ z ∧ z ≤ 95))
    refine x_if_ne (tgt := 26) C dX8_set_17 (by decide) (by omega) (fun c24 => ?_) (fun c24 => ?_)
    · skip
      refine x_iload_n C dX8_set_26 3 rfl ?_
      refine x_iconst C dX8_set_27 0 (by decide) ?_
      refine x_bipush C dX8_set_28 8 (by decide) ?_
      refine x_callS C (n := 3) (As := [vI k, vI 0, vI 8]) (rest := []) (c_X8_in (by omega) (by omega) (by omega)) gX8_set_X8_in (by decide +kernel) rfl rfl rfl (Nat.le_of_ble_eq_true rfl) ⟨by decide, by decide⟩ ⟨(by decide), (by decide)⟩ dX8_set_30 (fun rv26 h27 hp28 => ?_)
      obtain ⟨rfl, e29⟩ := hp28
      obtain rfl := e29.symm
      have hbr25 := bI_cs ((0 ≤ k ∧ k ≤ 8))
      refine x_if_ne (tgt := 42) C dX8_set_33 (by decide) (by omega) (fun c30 => ?_) (fun c30 => ?_)
      · skip
        have hg0 := hG4 u.toNat z.toNat (by omega) (by omega)
        rw [show 96 * u.toNat + z.toNat = (96 * u + z).toNat by omega] at hg0
        have hun0 := hun u.toNat (by omega)
        have hg7 : ∀ j : Nat, j < 96 → 0 ≤ m 4 0 (96 * u.toNat + j) ∧ m 4 0 (96 * u.toNat + j) ≤ 8 := fun j hj => hG4 u.toNat j (by omega) hj
        have hcn := cnK_le (fun j => m 4 0 (96 * u.toNat + j)) 96
        have hu9 : 0 ≤ u ∧ u < 12 := by omega
        have hd9 : 0 ≤ m 8 0 u.toNat ∧ m 8 0 u.toNat ≤ 40 := by omega
        refine x_aload_n C dX8_set_42 0 rfl ?_
        refine x_get C (v := .ref (am 4 0)) f4 (T := TX8) rfl kX8_set_1 4 (by decide) kX8_set_2 rfl dX8_set_43 ?_
        refine x_bipush C dX8_set_46 96 (by decide) ?_
        refine x_iload_n C dX8_set_48 1 rfl ?_
        refine x_imul C dX8_set_49 ?_
        refine x_iload_n C dX8_set_50 2 rfl ?_
        refine x_iadd C dX8_set_51 ?_
        have f31 : h (am 4 0) = some (eI D 1152 (m 4 0)) := hR.1 4 0 (lm0 (by decide))
        have f32 : h2 (am 4 0) = some (eI D 1152 (m 4 0)) := by rw [e3, hu_n (hR.ne (lm0 (by decide)) (lm0 (by decide)) (fun zz9 => absurd zz9.1 (by decide)))]; exact f31
        refine x_iald C f32 ⟨by omega, by omega⟩ (by decide) dX8_set_52 ?_
        refine x_topv (show (m 4 0) (Int.toNat ((96 * u) + z)) = m 4 0 (96 * u + z).toNat from by rfl) ?_
        refine x_istore C (ls' := [(0, .ref (am 0 0)), (1, vI u), (2, vI z), (3, vI k), (4, vI (m 4 0 (96 * u + z).toNat))]) dX8_set_53 (by decide) rfl ?_
        refine x_iload_n C dX8_set_55 3 rfl ?_
        refine x_iconst C dX8_set_56 2 (by decide) ?_
        refine x_icmp_ne (tgt := 81) C dX8_set_57 (by decide) (by omega) (by omega) (fun c33 => ?_) (fun c33 => ?_)
        · skip
          refine x_aload_n C dX8_set_81 0 rfl ?_
          refine x_get C (v := .ref (am 4 0)) f4 (T := TX8) rfl kX8_set_1 4 (by decide) kX8_set_2 rfl dX8_set_82 ?_
          refine x_bipush C dX8_set_85 96 (by decide) ?_
          refine x_iload_n C dX8_set_87 1 rfl ?_
          refine x_imul C dX8_set_88 ?_
          refine x_iload_n C dX8_set_89 2 rfl ?_
          refine x_iadd C dX8_set_90 ?_
          refine x_iload_n C dX8_set_91 3 rfl ?_
          refine x_iast C f32 ⟨by omega, by omega⟩ (by decide) dX8_set_92 (x_hn (fun h34 e35 => ?_))
          have f36 : h34 (am 4 0) = some (eI D 1152 (fu (m 4 0) (Int.toNat ((96 * u) + z)) k)) := by rw [e35]; exact hu_s
          refine x_aload_n C dX8_set_93 0 rfl ?_
          refine x_iload_n C dX8_set_94 1 rfl ?_
          refine x_iload_n C dX8_set_95 2 rfl ?_
          refine x_bipush C dX8_set_96 10 (by decide) ?_
          refine x_iload C dX8_set_98 4 rfl ?_
          refine x_imul C dX8_set_100 ?_
          refine x_iload_n C dX8_set_101 3 rfl ?_
          refine x_iadd C dX8_set_102 ?_
          have cp37 : MP D am h (cu (cu m 0 0 ((fu (m 0 0) 0 0))) 4 0 (fu (m 4 0) (Int.toNat ((96 * u) + z)) k)) h34 := by rw [e35, e3]; exact (MP.up (MP.up (MP.rf hR) (lm0 (by decide)) ((fu (m 0 0) 0 0)) rfl) (lm0 (by decide)) (fu (m 4 0) (Int.toNat ((96 * u) + z)) k) rfl)
          have f38 : h34 (am 0 0) = some (eO 8 [vI 0, .ref (am 1 0), vI (m 0 0 2), .ref (am 3 0), .ref (am 4 0), .ref (am 5 0), .ref (am 6 0), .ref (am 7 0), .ref (am 8 0), .ref (am 9 0), .ref (am 10 0), .ref (am 11 0), .ref (am 12 0), .ref (am 13 0), vI (m 0 0 14), .ref (am 15 0), .ref (am 16 0), .ref (am 17 0), .ref (am 18 0), .ref (am 19 0), .ref (am 20 0), .ref (am 21 0), .ref (am 22 0), .ref (am 23 0), .ref (am 24 0), .ref (am 25 0), .ref (am 26 0), .ref (am 27 0), .ref (am 28 0), .ref (am 29 0), vI (((m 0 0 30).toNat : Nat) : Int), vI (m 0 0 31), vI (m 0 0 32), vI (((m 0 0 33).toNat : Nat) : Int), vI (m 0 0 34), .ref (am 35 0), .ref (am 36 0), .ref (am 37 0)]) := by rw [e35, hu_n (hR.ne (lm0 (by decide)) (lm0 (by decide)) (fun zz9 => absurd zz9.1 (by decide)))]; exact f4
          refine x_callV C (n := 3) (qc := (RX8, TX8, 38)) (As := [vI u, vI z, vI ((10 * (m 4 0 (96 * u + z).toNat)) + k)]) (rest := []) (c_X8_remembers (cp37.1) (hu9) (hd9)) gX8_set_X8_remembers (by decide +kernel) f38 rfl rfl rfl rfl (Nat.le_of_ble_eq_true rfl) ⟨by decide, by decide⟩ ⟨(by decide), (by decide)⟩ dX8_set_103 (fun rv39 h40 hp41 => ?_)
          obtain ⟨rfl, cp43⟩ := hp41
          have cp44 : MP D am h (remM ((cu (cu m 0 0 ((fu (m 0 0) 0 0))) 4 0 (fu (m 4 0) (Int.toNat ((96 * u) + z)) k))) u.toNat z ((10 * (m 4 0 (96 * u + z).toNat)) + k)) h40 := MP.trans cp37 cp43
          refine x_aload_n C dX8_set_106 0 rfl ?_
          have f45 : h40 (am 0 0) = some (eO 8 [vI (((remM ((cu (cu m 0 0 ((fu (m 0 0) 0 0))) 4 0 (fu (m 4 0) (Int.toNat ((96 * u) + z)) k))) u.toNat z ((10 * (m 4 0 (96 * u + z).toNat)) + k)) 0 0) 0), .ref (am 1 0), vI (((remM ((cu (cu m 0 0 ((fu (m 0 0) 0 0))) 4 0 (fu (m 4 0) (Int.toNat ((96 * u) + z)) k))) u.toNat z ((10 * (m 4 0 (96 * u + z).toNat)) + k)) 0 0) 2), .ref (am 3 0), .ref (am 4 0), .ref (am 5 0), .ref (am 6 0), .ref (am 7 0), .ref (am 8 0), .ref (am 9 0), .ref (am 10 0), .ref (am 11 0), .ref (am 12 0), .ref (am 13 0), vI (((remM ((cu (cu m 0 0 ((fu (m 0 0) 0 0))) 4 0 (fu (m 4 0) (Int.toNat ((96 * u) + z)) k))) u.toNat z ((10 * (m 4 0 (96 * u + z).toNat)) + k)) 0 0) 14), .ref (am 15 0), .ref (am 16 0), .ref (am 17 0), .ref (am 18 0), .ref (am 19 0), .ref (am 20 0), .ref (am 21 0), .ref (am 22 0), .ref (am 23 0), .ref (am 24 0), .ref (am 25 0), .ref (am 26 0), .ref (am 27 0), .ref (am 28 0), .ref (am 29 0), vI (((((remM ((cu (cu m 0 0 ((fu (m 0 0) 0 0))) 4 0 (fu (m 4 0) (Int.toNat ((96 * u) + z)) k))) u.toNat z ((10 * (m 4 0 (96 * u + z).toNat)) + k)) 0 0) 30).toNat : Nat) : Int), vI (((remM ((cu (cu m 0 0 ((fu (m 0 0) 0 0))) 4 0 (fu (m 4 0) (Int.toNat ((96 * u) + z)) k))) u.toNat z ((10 * (m 4 0 (96 * u + z).toNat)) + k)) 0 0) 31), vI (((remM ((cu (cu m 0 0 ((fu (m 0 0) 0 0))) 4 0 (fu (m 4 0) (Int.toNat ((96 * u) + z)) k))) u.toNat z ((10 * (m 4 0 (96 * u + z).toNat)) + k)) 0 0) 32), vI (((((remM ((cu (cu m 0 0 ((fu (m 0 0) 0 0))) 4 0 (fu (m 4 0) (Int.toNat ((96 * u) + z)) k))) u.toNat z ((10 * (m 4 0 (96 * u + z).toNat)) + k)) 0 0) 33).toNat : Nat) : Int), vI (((remM ((cu (cu m 0 0 ((fu (m 0 0) 0 0))) 4 0 (fu (m 4 0) (Int.toNat ((96 * u) + z)) k))) u.toNat z ((10 * (m 4 0 (96 * u + z).toNat)) + k)) 0 0) 34), .ref (am 35 0), .ref (am 36 0), .ref (am 37 0)]) := cp44.1.1 0 0 (lm0 (by decide))
          refine x_get C (v := .ref (am 11 0)) f45 (T := TX8) rfl kX8_set_1 11 (by decide) kX8_set_3 rfl dX8_set_107 ?_
          refine x_iload_n C dX8_set_110 1 rfl ?_
          refine x_iconst C dX8_set_111 0 (by decide) ?_
          have f46 : h40 (am 11 0) = some (eI D 12 (((remM ((cu (cu m 0 0 ((fu (m 0 0) 0 0))) 4 0 (fu (m 4 0) (Int.toNat ((96 * u) + z)) k))) u.toNat z ((10 * (m 4 0 (96 * u + z).toNat)) + k)) 11 0))) := cp44.1.1 11 0 (lm0 (by decide))
          refine x_iast C f46 ⟨by omega, by omega⟩ (by decide) dX8_set_112 (x_hn (fun h47 e48 => ?_))
          have f49 : h47 (am 11 0) = some (eI D 12 (fu (((remM ((cu (cu m 0 0 ((fu (m 0 0) 0 0))) 4 0 (fu (m 4 0) (Int.toNat ((96 * u) + z)) k))) u.toNat z ((10 * (m 4 0 (96 * u + z).toNat)) + k)) 11 0)) (Int.toNat u) 0)) := by rw [e48]; exact hu_s
          refine x_aload_n C dX8_set_113 0 rfl ?_
          have f50 : h47 (am 0 0) = some (eO 8 [vI (((remM ((cu (cu m 0 0 ((fu (m 0 0) 0 0))) 4 0 (fu (m 4 0) (Int.toNat ((96 * u) + z)) k))) u.toNat z ((10 * (m 4 0 (96 * u + z).toNat)) + k)) 0 0) 0), .ref (am 1 0), vI (((remM ((cu (cu m 0 0 ((fu (m 0 0) 0 0))) 4 0 (fu (m 4 0) (Int.toNat ((96 * u) + z)) k))) u.toNat z ((10 * (m 4 0 (96 * u + z).toNat)) + k)) 0 0) 2), .ref (am 3 0), .ref (am 4 0), .ref (am 5 0), .ref (am 6 0), .ref (am 7 0), .ref (am 8 0), .ref (am 9 0), .ref (am 10 0), .ref (am 11 0), .ref (am 12 0), .ref (am 13 0), vI (((remM ((cu (cu m 0 0 ((fu (m 0 0) 0 0))) 4 0 (fu (m 4 0) (Int.toNat ((96 * u) + z)) k))) u.toNat z ((10 * (m 4 0 (96 * u + z).toNat)) + k)) 0 0) 14), .ref (am 15 0), .ref (am 16 0), .ref (am 17 0), .ref (am 18 0), .ref (am 19 0), .ref (am 20 0), .ref (am 21 0), .ref (am 22 0), .ref (am 23 0), .ref (am 24 0), .ref (am 25 0), .ref (am 26 0), .ref (am 27 0), .ref (am 28 0), .ref (am 29 0), vI (((((remM ((cu (cu m 0 0 ((fu (m 0 0) 0 0))) 4 0 (fu (m 4 0) (Int.toNat ((96 * u) + z)) k))) u.toNat z ((10 * (m 4 0 (96 * u + z).toNat)) + k)) 0 0) 30).toNat : Nat) : Int), vI (((remM ((cu (cu m 0 0 ((fu (m 0 0) 0 0))) 4 0 (fu (m 4 0) (Int.toNat ((96 * u) + z)) k))) u.toNat z ((10 * (m 4 0 (96 * u + z).toNat)) + k)) 0 0) 31), vI (((remM ((cu (cu m 0 0 ((fu (m 0 0) 0 0))) 4 0 (fu (m 4 0) (Int.toNat ((96 * u) + z)) k))) u.toNat z ((10 * (m 4 0 (96 * u + z).toNat)) + k)) 0 0) 32), vI (((((remM ((cu (cu m 0 0 ((fu (m 0 0) 0 0))) 4 0 (fu (m 4 0) (Int.toNat ((96 * u) + z)) k))) u.toNat z ((10 * (m 4 0 (96 * u + z).toNat)) + k)) 0 0) 33).toNat : Nat) : Int), vI (((remM ((cu (cu m 0 0 ((fu (m 0 0) 0 0))) 4 0 (fu (m 4 0) (Int.toNat ((96 * u) + z)) k))) u.toNat z ((10 * (m 4 0 (96 * u + z).toNat)) + k)) 0 0) 34), .ref (am 35 0), .ref (am 36 0), .ref (am 37 0)]) := by rw [e48, hu_n (cp44.1.ne (lm0 (by decide)) (lm0 (by decide)) (fun zz9 => absurd zz9.1 (by decide)))]; exact f45
          refine x_get C (v := .ref (am 6 0)) f50 (T := TX8) rfl kX8_set_1 6 (by decide) kX8_set_4 rfl dX8_set_114 ?_
          refine x_iload_n C dX8_set_117 1 rfl ?_
          refine x_bipush C dX8_set_118 (-2) (by decide) ?_
          have f51 : h40 (am 6 0) = some (eI D 12 (((remM ((cu (cu m 0 0 ((fu (m 0 0) 0 0))) 4 0 (fu (m 4 0) (Int.toNat ((96 * u) + z)) k))) u.toNat z ((10 * (m 4 0 (96 * u + z).toNat)) + k)) 6 0))) := cp44.1.1 6 0 (lm0 (by decide))
          have f52 : h47 (am 6 0) = some (eI D 12 (((remM ((cu (cu m 0 0 ((fu (m 0 0) 0 0))) 4 0 (fu (m 4 0) (Int.toNat ((96 * u) + z)) k))) u.toNat z ((10 * (m 4 0 (96 * u + z).toNat)) + k)) 6 0))) := by rw [e48, hu_n (cp44.1.ne (lm0 (by decide)) (lm0 (by decide)) (fun zz9 => absurd zz9.1 (by decide)))]; exact f51
          refine x_iast C f52 ⟨by omega, by omega⟩ (by decide) dX8_set_120 (x_hn (fun h53 e54 => ?_))
          have f55 : h53 (am 6 0) = some (eI D 12 (fu (((remM ((cu (cu m 0 0 ((fu (m 0 0) 0 0))) 4 0 (fu (m 4 0) (Int.toNat ((96 * u) + z)) k))) u.toNat z ((10 * (m 4 0 (96 * u + z).toNat)) + k)) 6 0)) (Int.toNat u) ((-2)))) := by rw [e54]; exact hu_s
          refine x_iload C dX8_set_121 4 rfl ?_
          refine x_iret C G dX8_set_123 ?_ (by decide) (by decide)
          have cp56 : MP D am h (cu (cu (remM ((cu (cu m 0 0 ((fu (m 0 0) 0 0))) 4 0 (fu (m 4 0) (Int.toNat ((96 * u) + z)) k))) u.toNat z ((10 * (m 4 0 (96 * u + z).toNat)) + k)) 11 0 (fu (((remM ((cu (cu m 0 0 ((fu (m 0 0) 0 0))) 4 0 (fu (m 4 0) (Int.toNat ((96 * u) + z)) k))) u.toNat z ((10 * (m 4 0 (96 * u + z).toNat)) + k)) 11 0)) (Int.toNat u) 0)) 6 0 (fu (((remM ((cu (cu m 0 0 ((fu (m 0 0) 0 0))) 4 0 (fu (m 4 0) (Int.toNat ((96 * u) + z)) k))) u.toNat z ((10 * (m 4 0 (96 * u + z).toNat)) + k)) 6 0)) (Int.toNat u) ((-2)))) h53 := by rw [e54, e48]; exact (MP.up (MP.up cp44 (lm0 (by decide)) (fu (((remM ((cu (cu m 0 0 ((fu (m 0 0) 0 0))) 4 0 (fu (m 4 0) (Int.toNat ((96 * u) + z)) k))) u.toNat z ((10 * (m 4 0 (96 * u + z).toNat)) + k)) 11 0)) (Int.toNat u) 0) rfl) (lm0 (by decide)) (fu (((remM ((cu (cu m 0 0 ((fu (m 0 0) 0 0))) 4 0 (fu (m 4 0) (Int.toNat ((96 * u) + z)) k))) u.toNat z ((10 * (m 4 0 (96 * u + z).toNat)) + k)) 6 0)) (Int.toNat u) ((-2))) rfl)
          first
            | exact ⟨_, _, rfl, cp56, Or.inl (⟨rfl, by omega, (by repeat (first | exact SM.rf | refine SM.th ?_ | refine SM.rem ?_ | refine SM.o2 ?_ | refine SM.o14 ?_ | refine SM.sr ?_ | refine SM.ly (by assumption) (by assumption) ?_ | refine SM.bm ?_ | refine SM.st ?_ | refine SM.mv ?_ | refine SM.up (by decide) ?_))⟩)⟩
            | exact ⟨_, _, rfl, cp56, Or.inr (Or.inl (⟨rfl, by omega, (by repeat (first | exact SM.rf | refine SM.th ?_ | refine SM.rem ?_ | refine SM.o2 ?_ | refine SM.o14 ?_ | refine SM.sr ?_ | refine SM.ly (by assumption) (by assumption) ?_ | refine SM.bm ?_ | refine SM.st ?_ | refine SM.mv ?_ | refine SM.up (by decide) ?_))⟩))⟩
            | exact ⟨_, _, rfl, cp56, Or.inr (Or.inr (Or.inl (⟨rfl, by omega, (by repeat (first | exact SM.rf | refine SM.th ?_ | refine SM.rem ?_ | refine SM.o2 ?_ | refine SM.o14 ?_ | refine SM.sr ?_ | refine SM.ly (by assumption) (by assumption) ?_ | refine SM.bm ?_ | refine SM.st ?_ | refine SM.mv ?_ | refine SM.up (by decide) ?_))⟩)))⟩
            | exact ⟨_, _, rfl, cp56, Or.inr (Or.inr (Or.inr (⟨rfl, by omega, by first | rfl | omega, (by repeat (first | exact SM.rf | refine SM.th ?_ | refine SM.rem ?_ | refine SM.o2 ?_ | refine SM.o14 ?_ | refine SM.sr ?_ | refine SM.ly (by assumption) (by assumption) ?_ | refine SM.bm ?_ | refine SM.st ?_ | refine SM.mv ?_ | refine SM.up (by decide) ?_))⟩)))⟩
        · skip
          refine x_iload C dX8_set_60 4 rfl ?_
          refine x_iconst C dX8_set_62 2 (by decide) ?_
          refine x_icmp_eq (tgt := 81) C dX8_set_63 (by decide) (by omega) (by omega) (fun c57 => ?_) (fun c57 => ?_)
          · skip
            refine x_aload_n C dX8_set_81 0 rfl ?_
            refine x_get C (v := .ref (am 4 0)) f4 (T := TX8) rfl kX8_set_1 4 (by decide) kX8_set_2 rfl dX8_set_82 ?_
            refine x_bipush C dX8_set_85 96 (by decide) ?_
            refine x_iload_n C dX8_set_87 1 rfl ?_
            refine x_imul C dX8_set_88 ?_
            refine x_iload_n C dX8_set_89 2 rfl ?_
            refine x_iadd C dX8_set_90 ?_
            refine x_iload_n C dX8_set_91 3 rfl ?_
            refine x_iast C f32 ⟨by omega, by omega⟩ (by decide) dX8_set_92 (x_hn (fun h58 e59 => ?_))
            have f60 : h58 (am 4 0) = some (eI D 1152 (fu (m 4 0) (Int.toNat ((96 * u) + z)) k)) := by rw [e59]; exact hu_s
            refine x_aload_n C dX8_set_93 0 rfl ?_
            refine x_iload_n C dX8_set_94 1 rfl ?_
            refine x_iload_n C dX8_set_95 2 rfl ?_
            refine x_bipush C dX8_set_96 10 (by decide) ?_
            refine x_iload C dX8_set_98 4 rfl ?_
            refine x_imul C dX8_set_100 ?_
            refine x_iload_n C dX8_set_101 3 rfl ?_
            refine x_iadd C dX8_set_102 ?_
            have cp61 : MP D am h (cu (cu m 0 0 ((fu (m 0 0) 0 0))) 4 0 (fu (m 4 0) (Int.toNat ((96 * u) + z)) k)) h58 := by rw [e59, e3]; exact (MP.up (MP.up (MP.rf hR) (lm0 (by decide)) ((fu (m 0 0) 0 0)) rfl) (lm0 (by decide)) (fu (m 4 0) (Int.toNat ((96 * u) + z)) k) rfl)
            have f62 : h58 (am 0 0) = some (eO 8 [vI 0, .ref (am 1 0), vI (m 0 0 2), .ref (am 3 0), .ref (am 4 0), .ref (am 5 0), .ref (am 6 0), .ref (am 7 0), .ref (am 8 0), .ref (am 9 0), .ref (am 10 0), .ref (am 11 0), .ref (am 12 0), .ref (am 13 0), vI (m 0 0 14), .ref (am 15 0), .ref (am 16 0), .ref (am 17 0), .ref (am 18 0), .ref (am 19 0), .ref (am 20 0), .ref (am 21 0), .ref (am 22 0), .ref (am 23 0), .ref (am 24 0), .ref (am 25 0), .ref (am 26 0), .ref (am 27 0), .ref (am 28 0), .ref (am 29 0), vI (((m 0 0 30).toNat : Nat) : Int), vI (m 0 0 31), vI (m 0 0 32), vI (((m 0 0 33).toNat : Nat) : Int), vI (m 0 0 34), .ref (am 35 0), .ref (am 36 0), .ref (am 37 0)]) := by rw [e59, hu_n (hR.ne (lm0 (by decide)) (lm0 (by decide)) (fun zz9 => absurd zz9.1 (by decide)))]; exact f4
            refine x_callV C (n := 3) (qc := (RX8, TX8, 38)) (As := [vI u, vI z, vI ((10 * (m 4 0 (96 * u + z).toNat)) + k)]) (rest := []) (c_X8_remembers (cp61.1) (hu9) (hd9)) gX8_set_X8_remembers (by decide +kernel) f62 rfl rfl rfl rfl (Nat.le_of_ble_eq_true rfl) ⟨by decide, by decide⟩ ⟨(by decide), (by decide)⟩ dX8_set_103 (fun rv63 h64 hp65 => ?_)
            obtain ⟨rfl, cp67⟩ := hp65
            have cp68 : MP D am h (remM ((cu (cu m 0 0 ((fu (m 0 0) 0 0))) 4 0 (fu (m 4 0) (Int.toNat ((96 * u) + z)) k))) u.toNat z ((10 * (m 4 0 (96 * u + z).toNat)) + k)) h64 := MP.trans cp61 cp67
            refine x_aload_n C dX8_set_106 0 rfl ?_
            have f69 : h64 (am 0 0) = some (eO 8 [vI (((remM ((cu (cu m 0 0 ((fu (m 0 0) 0 0))) 4 0 (fu (m 4 0) (Int.toNat ((96 * u) + z)) k))) u.toNat z ((10 * (m 4 0 (96 * u + z).toNat)) + k)) 0 0) 0), .ref (am 1 0), vI (((remM ((cu (cu m 0 0 ((fu (m 0 0) 0 0))) 4 0 (fu (m 4 0) (Int.toNat ((96 * u) + z)) k))) u.toNat z ((10 * (m 4 0 (96 * u + z).toNat)) + k)) 0 0) 2), .ref (am 3 0), .ref (am 4 0), .ref (am 5 0), .ref (am 6 0), .ref (am 7 0), .ref (am 8 0), .ref (am 9 0), .ref (am 10 0), .ref (am 11 0), .ref (am 12 0), .ref (am 13 0), vI (((remM ((cu (cu m 0 0 ((fu (m 0 0) 0 0))) 4 0 (fu (m 4 0) (Int.toNat ((96 * u) + z)) k))) u.toNat z ((10 * (m 4 0 (96 * u + z).toNat)) + k)) 0 0) 14), .ref (am 15 0), .ref (am 16 0), .ref (am 17 0), .ref (am 18 0), .ref (am 19 0), .ref (am 20 0), .ref (am 21 0), .ref (am 22 0), .ref (am 23 0), .ref (am 24 0), .ref (am 25 0), .ref (am 26 0), .ref (am 27 0), .ref (am 28 0), .ref (am 29 0), vI (((((remM ((cu (cu m 0 0 ((fu (m 0 0) 0 0))) 4 0 (fu (m 4 0) (Int.toNat ((96 * u) + z)) k))) u.toNat z ((10 * (m 4 0 (96 * u + z).toNat)) + k)) 0 0) 30).toNat : Nat) : Int), vI (((remM ((cu (cu m 0 0 ((fu (m 0 0) 0 0))) 4 0 (fu (m 4 0) (Int.toNat ((96 * u) + z)) k))) u.toNat z ((10 * (m 4 0 (96 * u + z).toNat)) + k)) 0 0) 31), vI (((remM ((cu (cu m 0 0 ((fu (m 0 0) 0 0))) 4 0 (fu (m 4 0) (Int.toNat ((96 * u) + z)) k))) u.toNat z ((10 * (m 4 0 (96 * u + z).toNat)) + k)) 0 0) 32), vI (((((remM ((cu (cu m 0 0 ((fu (m 0 0) 0 0))) 4 0 (fu (m 4 0) (Int.toNat ((96 * u) + z)) k))) u.toNat z ((10 * (m 4 0 (96 * u + z).toNat)) + k)) 0 0) 33).toNat : Nat) : Int), vI (((remM ((cu (cu m 0 0 ((fu (m 0 0) 0 0))) 4 0 (fu (m 4 0) (Int.toNat ((96 * u) + z)) k))) u.toNat z ((10 * (m 4 0 (96 * u + z).toNat)) + k)) 0 0) 34), .ref (am 35 0), .ref (am 36 0), .ref (am 37 0)]) := cp68.1.1 0 0 (lm0 (by decide))
            refine x_get C (v := .ref (am 11 0)) f69 (T := TX8) rfl kX8_set_1 11 (by decide) kX8_set_3 rfl dX8_set_107 ?_
            refine x_iload_n C dX8_set_110 1 rfl ?_
            refine x_iconst C dX8_set_111 0 (by decide) ?_
            have f70 : h64 (am 11 0) = some (eI D 12 (((remM ((cu (cu m 0 0 ((fu (m 0 0) 0 0))) 4 0 (fu (m 4 0) (Int.toNat ((96 * u) + z)) k))) u.toNat z ((10 * (m 4 0 (96 * u + z).toNat)) + k)) 11 0))) := cp68.1.1 11 0 (lm0 (by decide))
            refine x_iast C f70 ⟨by omega, by omega⟩ (by decide) dX8_set_112 (x_hn (fun h71 e72 => ?_))
            have f73 : h71 (am 11 0) = some (eI D 12 (fu (((remM ((cu (cu m 0 0 ((fu (m 0 0) 0 0))) 4 0 (fu (m 4 0) (Int.toNat ((96 * u) + z)) k))) u.toNat z ((10 * (m 4 0 (96 * u + z).toNat)) + k)) 11 0)) (Int.toNat u) 0)) := by rw [e72]; exact hu_s
            refine x_aload_n C dX8_set_113 0 rfl ?_
            have f74 : h71 (am 0 0) = some (eO 8 [vI (((remM ((cu (cu m 0 0 ((fu (m 0 0) 0 0))) 4 0 (fu (m 4 0) (Int.toNat ((96 * u) + z)) k))) u.toNat z ((10 * (m 4 0 (96 * u + z).toNat)) + k)) 0 0) 0), .ref (am 1 0), vI (((remM ((cu (cu m 0 0 ((fu (m 0 0) 0 0))) 4 0 (fu (m 4 0) (Int.toNat ((96 * u) + z)) k))) u.toNat z ((10 * (m 4 0 (96 * u + z).toNat)) + k)) 0 0) 2), .ref (am 3 0), .ref (am 4 0), .ref (am 5 0), .ref (am 6 0), .ref (am 7 0), .ref (am 8 0), .ref (am 9 0), .ref (am 10 0), .ref (am 11 0), .ref (am 12 0), .ref (am 13 0), vI (((remM ((cu (cu m 0 0 ((fu (m 0 0) 0 0))) 4 0 (fu (m 4 0) (Int.toNat ((96 * u) + z)) k))) u.toNat z ((10 * (m 4 0 (96 * u + z).toNat)) + k)) 0 0) 14), .ref (am 15 0), .ref (am 16 0), .ref (am 17 0), .ref (am 18 0), .ref (am 19 0), .ref (am 20 0), .ref (am 21 0), .ref (am 22 0), .ref (am 23 0), .ref (am 24 0), .ref (am 25 0), .ref (am 26 0), .ref (am 27 0), .ref (am 28 0), .ref (am 29 0), vI (((((remM ((cu (cu m 0 0 ((fu (m 0 0) 0 0))) 4 0 (fu (m 4 0) (Int.toNat ((96 * u) + z)) k))) u.toNat z ((10 * (m 4 0 (96 * u + z).toNat)) + k)) 0 0) 30).toNat : Nat) : Int), vI (((remM ((cu (cu m 0 0 ((fu (m 0 0) 0 0))) 4 0 (fu (m 4 0) (Int.toNat ((96 * u) + z)) k))) u.toNat z ((10 * (m 4 0 (96 * u + z).toNat)) + k)) 0 0) 31), vI (((remM ((cu (cu m 0 0 ((fu (m 0 0) 0 0))) 4 0 (fu (m 4 0) (Int.toNat ((96 * u) + z)) k))) u.toNat z ((10 * (m 4 0 (96 * u + z).toNat)) + k)) 0 0) 32), vI (((((remM ((cu (cu m 0 0 ((fu (m 0 0) 0 0))) 4 0 (fu (m 4 0) (Int.toNat ((96 * u) + z)) k))) u.toNat z ((10 * (m 4 0 (96 * u + z).toNat)) + k)) 0 0) 33).toNat : Nat) : Int), vI (((remM ((cu (cu m 0 0 ((fu (m 0 0) 0 0))) 4 0 (fu (m 4 0) (Int.toNat ((96 * u) + z)) k))) u.toNat z ((10 * (m 4 0 (96 * u + z).toNat)) + k)) 0 0) 34), .ref (am 35 0), .ref (am 36 0), .ref (am 37 0)]) := by rw [e72, hu_n (cp68.1.ne (lm0 (by decide)) (lm0 (by decide)) (fun zz9 => absurd zz9.1 (by decide)))]; exact f69
            refine x_get C (v := .ref (am 6 0)) f74 (T := TX8) rfl kX8_set_1 6 (by decide) kX8_set_4 rfl dX8_set_114 ?_
            refine x_iload_n C dX8_set_117 1 rfl ?_
            refine x_bipush C dX8_set_118 (-2) (by decide) ?_
            have f75 : h64 (am 6 0) = some (eI D 12 (((remM ((cu (cu m 0 0 ((fu (m 0 0) 0 0))) 4 0 (fu (m 4 0) (Int.toNat ((96 * u) + z)) k))) u.toNat z ((10 * (m 4 0 (96 * u + z).toNat)) + k)) 6 0))) := cp68.1.1 6 0 (lm0 (by decide))
            have f76 : h71 (am 6 0) = some (eI D 12 (((remM ((cu (cu m 0 0 ((fu (m 0 0) 0 0))) 4 0 (fu (m 4 0) (Int.toNat ((96 * u) + z)) k))) u.toNat z ((10 * (m 4 0 (96 * u + z).toNat)) + k)) 6 0))) := by rw [e72, hu_n (cp68.1.ne (lm0 (by decide)) (lm0 (by decide)) (fun zz9 => absurd zz9.1 (by decide)))]; exact f75
            refine x_iast C f76 ⟨by omega, by omega⟩ (by decide) dX8_set_120 (x_hn (fun h77 e78 => ?_))
            have f79 : h77 (am 6 0) = some (eI D 12 (fu (((remM ((cu (cu m 0 0 ((fu (m 0 0) 0 0))) 4 0 (fu (m 4 0) (Int.toNat ((96 * u) + z)) k))) u.toNat z ((10 * (m 4 0 (96 * u + z).toNat)) + k)) 6 0)) (Int.toNat u) ((-2)))) := by rw [e78]; exact hu_s
            refine x_iload C dX8_set_121 4 rfl ?_
            refine x_iret C G dX8_set_123 ?_ (by decide) (by decide)
            have cp80 : MP D am h (cu (cu (remM ((cu (cu m 0 0 ((fu (m 0 0) 0 0))) 4 0 (fu (m 4 0) (Int.toNat ((96 * u) + z)) k))) u.toNat z ((10 * (m 4 0 (96 * u + z).toNat)) + k)) 11 0 (fu (((remM ((cu (cu m 0 0 ((fu (m 0 0) 0 0))) 4 0 (fu (m 4 0) (Int.toNat ((96 * u) + z)) k))) u.toNat z ((10 * (m 4 0 (96 * u + z).toNat)) + k)) 11 0)) (Int.toNat u) 0)) 6 0 (fu (((remM ((cu (cu m 0 0 ((fu (m 0 0) 0 0))) 4 0 (fu (m 4 0) (Int.toNat ((96 * u) + z)) k))) u.toNat z ((10 * (m 4 0 (96 * u + z).toNat)) + k)) 6 0)) (Int.toNat u) ((-2)))) h77 := by rw [e78, e72]; exact (MP.up (MP.up cp68 (lm0 (by decide)) (fu (((remM ((cu (cu m 0 0 ((fu (m 0 0) 0 0))) 4 0 (fu (m 4 0) (Int.toNat ((96 * u) + z)) k))) u.toNat z ((10 * (m 4 0 (96 * u + z).toNat)) + k)) 11 0)) (Int.toNat u) 0) rfl) (lm0 (by decide)) (fu (((remM ((cu (cu m 0 0 ((fu (m 0 0) 0 0))) 4 0 (fu (m 4 0) (Int.toNat ((96 * u) + z)) k))) u.toNat z ((10 * (m 4 0 (96 * u + z).toNat)) + k)) 6 0)) (Int.toNat u) ((-2))) rfl)
            first
              | exact ⟨_, _, rfl, cp80, Or.inl (⟨rfl, by omega, (by repeat (first | exact SM.rf | refine SM.th ?_ | refine SM.rem ?_ | refine SM.o2 ?_ | refine SM.o14 ?_ | refine SM.sr ?_ | refine SM.ly (by assumption) (by assumption) ?_ | refine SM.bm ?_ | refine SM.st ?_ | refine SM.mv ?_ | refine SM.up (by decide) ?_))⟩)⟩
              | exact ⟨_, _, rfl, cp80, Or.inr (Or.inl (⟨rfl, by omega, (by repeat (first | exact SM.rf | refine SM.th ?_ | refine SM.rem ?_ | refine SM.o2 ?_ | refine SM.o14 ?_ | refine SM.sr ?_ | refine SM.ly (by assumption) (by assumption) ?_ | refine SM.bm ?_ | refine SM.st ?_ | refine SM.mv ?_ | refine SM.up (by decide) ?_))⟩))⟩
              | exact ⟨_, _, rfl, cp80, Or.inr (Or.inr (Or.inl (⟨rfl, by omega, (by repeat (first | exact SM.rf | refine SM.th ?_ | refine SM.rem ?_ | refine SM.o2 ?_ | refine SM.o14 ?_ | refine SM.sr ?_ | refine SM.ly (by assumption) (by assumption) ?_ | refine SM.bm ?_ | refine SM.st ?_ | refine SM.mv ?_ | refine SM.up (by decide) ?_))⟩)))⟩
              | exact ⟨_, _, rfl, cp80, Or.inr (Or.inr (Or.inr (⟨rfl, by omega, by first | rfl | omega, (by repeat (first | exact SM.rf | refine SM.th ?_ | refine SM.rem ?_ | refine SM.o2 ?_ | refine SM.o14 ?_ | refine SM.sr ?_ | refine SM.ly (by assumption) (by assumption) ?_ | refine SM.bm ?_ | refine SM.st ?_ | refine SM.mv ?_ | refine SM.up (by decide) ?_))⟩)))⟩
          · skip
            refine x_aload_n C dX8_set_66 0 rfl ?_
            refine x_iload_n C dX8_set_67 1 rfl ?_
            have cp81 : MP D am h (cu m 0 0 ((fu (m 0 0) 0 0))) h2 := by rw [e3]; exact (MP.up (MP.rf hR) (lm0 (by decide)) ((fu (m 0 0) 0 0)) rfl)
            refine x_callV C (n := 1) (qc := (RX8, TX8, 38)) (As := [vI u]) (rest := []) (c_X8_keysOf (cp81.1) (hu9) (hg7)) gX8_set_X8_keysOf (by decide +kernel) f4 rfl rfl rfl rfl (Nat.le_of_ble_eq_true rfl) ⟨by decide, by decide⟩ ⟨(by decide), (by decide)⟩ dX8_set_68 (fun rv82 h83 hp84 => ?_)
            obtain ⟨rfl, e85⟩ := hp84
            obtain rfl := e85.symm
            refine x_topv (show ((cnK (fun j => ((cu m 0 0 ((fu (m 0 0) 0 0)))) 4 0 (96 * u.toNat + j)) 96 : Nat) : Int) = ((cnK (fun j => m 4 0 (96 * u.toNat + j)) 96 : Nat) : Int) from by rfl) ?_
            refine x_iconst C dX8_set_71 3 (by decide) ?_
            refine x_icmp_ne (tgt := 81) C dX8_set_72 (by decide) (by omega) (by omega) (fun c86 => ?_) (fun c86 => ?_)
            · skip
              refine x_aload_n C dX8_set_81 0 rfl ?_
              refine x_get C (v := .ref (am 4 0)) f4 (T := TX8) rfl kX8_set_1 4 (by decide) kX8_set_2 rfl dX8_set_82 ?_
              refine x_bipush C dX8_set_85 96 (by decide) ?_
              refine x_iload_n C dX8_set_87 1 rfl ?_
              refine x_imul C dX8_set_88 ?_
              refine x_iload_n C dX8_set_89 2 rfl ?_
              refine x_iadd C dX8_set_90 ?_
              refine x_iload_n C dX8_set_91 3 rfl ?_
              refine x_iast C f32 ⟨by omega, by omega⟩ (by decide) dX8_set_92 (x_hn (fun h87 e88 => ?_))
              have f89 : h87 (am 4 0) = some (eI D 1152 (fu (m 4 0) (Int.toNat ((96 * u) + z)) k)) := by rw [e88]; exact hu_s
              refine x_aload_n C dX8_set_93 0 rfl ?_
              refine x_iload_n C dX8_set_94 1 rfl ?_
              refine x_iload_n C dX8_set_95 2 rfl ?_
              refine x_bipush C dX8_set_96 10 (by decide) ?_
              refine x_iload C dX8_set_98 4 rfl ?_
              refine x_imul C dX8_set_100 ?_
              refine x_iload_n C dX8_set_101 3 rfl ?_
              refine x_iadd C dX8_set_102 ?_
              have cp90 : MP D am h (cu (cu m 0 0 ((fu (m 0 0) 0 0))) 4 0 (fu (m 4 0) (Int.toNat ((96 * u) + z)) k)) h87 := by rw [e88, e3]; exact (MP.up (MP.up (MP.rf hR) (lm0 (by decide)) ((fu (m 0 0) 0 0)) rfl) (lm0 (by decide)) (fu (m 4 0) (Int.toNat ((96 * u) + z)) k) rfl)
              have f91 : h87 (am 0 0) = some (eO 8 [vI 0, .ref (am 1 0), vI (m 0 0 2), .ref (am 3 0), .ref (am 4 0), .ref (am 5 0), .ref (am 6 0), .ref (am 7 0), .ref (am 8 0), .ref (am 9 0), .ref (am 10 0), .ref (am 11 0), .ref (am 12 0), .ref (am 13 0), vI (m 0 0 14), .ref (am 15 0), .ref (am 16 0), .ref (am 17 0), .ref (am 18 0), .ref (am 19 0), .ref (am 20 0), .ref (am 21 0), .ref (am 22 0), .ref (am 23 0), .ref (am 24 0), .ref (am 25 0), .ref (am 26 0), .ref (am 27 0), .ref (am 28 0), .ref (am 29 0), vI (((m 0 0 30).toNat : Nat) : Int), vI (m 0 0 31), vI (m 0 0 32), vI (((m 0 0 33).toNat : Nat) : Int), vI (m 0 0 34), .ref (am 35 0), .ref (am 36 0), .ref (am 37 0)]) := by rw [e88, hu_n (hR.ne (lm0 (by decide)) (lm0 (by decide)) (fun zz9 => absurd zz9.1 (by decide)))]; exact f4
              refine x_callV C (n := 3) (qc := (RX8, TX8, 38)) (As := [vI u, vI z, vI ((10 * (m 4 0 (96 * u + z).toNat)) + k)]) (rest := []) (c_X8_remembers (cp90.1) (hu9) (hd9)) gX8_set_X8_remembers (by decide +kernel) f91 rfl rfl rfl rfl (Nat.le_of_ble_eq_true rfl) ⟨by decide, by decide⟩ ⟨(by decide), (by decide)⟩ dX8_set_103 (fun rv92 h93 hp94 => ?_)
              obtain ⟨rfl, cp96⟩ := hp94
              have cp97 : MP D am h (remM ((cu (cu m 0 0 ((fu (m 0 0) 0 0))) 4 0 (fu (m 4 0) (Int.toNat ((96 * u) + z)) k))) u.toNat z ((10 * (m 4 0 (96 * u + z).toNat)) + k)) h93 := MP.trans cp90 cp96
              refine x_aload_n C dX8_set_106 0 rfl ?_
              have f98 : h93 (am 0 0) = some (eO 8 [vI (((remM ((cu (cu m 0 0 ((fu (m 0 0) 0 0))) 4 0 (fu (m 4 0) (Int.toNat ((96 * u) + z)) k))) u.toNat z ((10 * (m 4 0 (96 * u + z).toNat)) + k)) 0 0) 0), .ref (am 1 0), vI (((remM ((cu (cu m 0 0 ((fu (m 0 0) 0 0))) 4 0 (fu (m 4 0) (Int.toNat ((96 * u) + z)) k))) u.toNat z ((10 * (m 4 0 (96 * u + z).toNat)) + k)) 0 0) 2), .ref (am 3 0), .ref (am 4 0), .ref (am 5 0), .ref (am 6 0), .ref (am 7 0), .ref (am 8 0), .ref (am 9 0), .ref (am 10 0), .ref (am 11 0), .ref (am 12 0), .ref (am 13 0), vI (((remM ((cu (cu m 0 0 ((fu (m 0 0) 0 0))) 4 0 (fu (m 4 0) (Int.toNat ((96 * u) + z)) k))) u.toNat z ((10 * (m 4 0 (96 * u + z).toNat)) + k)) 0 0) 14), .ref (am 15 0), .ref (am 16 0), .ref (am 17 0), .ref (am 18 0), .ref (am 19 0), .ref (am 20 0), .ref (am 21 0), .ref (am 22 0), .ref (am 23 0), .ref (am 24 0), .ref (am 25 0), .ref (am 26 0), .ref (am 27 0), .ref (am 28 0), .ref (am 29 0), vI (((((remM ((cu (cu m 0 0 ((fu (m 0 0) 0 0))) 4 0 (fu (m 4 0) (Int.toNat ((96 * u) + z)) k))) u.toNat z ((10 * (m 4 0 (96 * u + z).toNat)) + k)) 0 0) 30).toNat : Nat) : Int), vI (((remM ((cu (cu m 0 0 ((fu (m 0 0) 0 0))) 4 0 (fu (m 4 0) (Int.toNat ((96 * u) + z)) k))) u.toNat z ((10 * (m 4 0 (96 * u + z).toNat)) + k)) 0 0) 31), vI (((remM ((cu (cu m 0 0 ((fu (m 0 0) 0 0))) 4 0 (fu (m 4 0) (Int.toNat ((96 * u) + z)) k))) u.toNat z ((10 * (m 4 0 (96 * u + z).toNat)) + k)) 0 0) 32), vI (((((remM ((cu (cu m 0 0 ((fu (m 0 0) 0 0))) 4 0 (fu (m 4 0) (Int.toNat ((96 * u) + z)) k))) u.toNat z ((10 * (m 4 0 (96 * u + z).toNat)) + k)) 0 0) 33).toNat : Nat) : Int), vI (((remM ((cu (cu m 0 0 ((fu (m 0 0) 0 0))) 4 0 (fu (m 4 0) (Int.toNat ((96 * u) + z)) k))) u.toNat z ((10 * (m 4 0 (96 * u + z).toNat)) + k)) 0 0) 34), .ref (am 35 0), .ref (am 36 0), .ref (am 37 0)]) := cp97.1.1 0 0 (lm0 (by decide))
              refine x_get C (v := .ref (am 11 0)) f98 (T := TX8) rfl kX8_set_1 11 (by decide) kX8_set_3 rfl dX8_set_107 ?_
              refine x_iload_n C dX8_set_110 1 rfl ?_
              refine x_iconst C dX8_set_111 0 (by decide) ?_
              have f99 : h93 (am 11 0) = some (eI D 12 (((remM ((cu (cu m 0 0 ((fu (m 0 0) 0 0))) 4 0 (fu (m 4 0) (Int.toNat ((96 * u) + z)) k))) u.toNat z ((10 * (m 4 0 (96 * u + z).toNat)) + k)) 11 0))) := cp97.1.1 11 0 (lm0 (by decide))
              refine x_iast C f99 ⟨by omega, by omega⟩ (by decide) dX8_set_112 (x_hn (fun h100 e101 => ?_))
              have f102 : h100 (am 11 0) = some (eI D 12 (fu (((remM ((cu (cu m 0 0 ((fu (m 0 0) 0 0))) 4 0 (fu (m 4 0) (Int.toNat ((96 * u) + z)) k))) u.toNat z ((10 * (m 4 0 (96 * u + z).toNat)) + k)) 11 0)) (Int.toNat u) 0)) := by rw [e101]; exact hu_s
              refine x_aload_n C dX8_set_113 0 rfl ?_
              have f103 : h100 (am 0 0) = some (eO 8 [vI (((remM ((cu (cu m 0 0 ((fu (m 0 0) 0 0))) 4 0 (fu (m 4 0) (Int.toNat ((96 * u) + z)) k))) u.toNat z ((10 * (m 4 0 (96 * u + z).toNat)) + k)) 0 0) 0), .ref (am 1 0), vI (((remM ((cu (cu m 0 0 ((fu (m 0 0) 0 0))) 4 0 (fu (m 4 0) (Int.toNat ((96 * u) + z)) k))) u.toNat z ((10 * (m 4 0 (96 * u + z).toNat)) + k)) 0 0) 2), .ref (am 3 0), .ref (am 4 0), .ref (am 5 0), .ref (am 6 0), .ref (am 7 0), .ref (am 8 0), .ref (am 9 0), .ref (am 10 0), .ref (am 11 0), .ref (am 12 0), .ref (am 13 0), vI (((remM ((cu (cu m 0 0 ((fu (m 0 0) 0 0))) 4 0 (fu (m 4 0) (Int.toNat ((96 * u) + z)) k))) u.toNat z ((10 * (m 4 0 (96 * u + z).toNat)) + k)) 0 0) 14), .ref (am 15 0), .ref (am 16 0), .ref (am 17 0), .ref (am 18 0), .ref (am 19 0), .ref (am 20 0), .ref (am 21 0), .ref (am 22 0), .ref (am 23 0), .ref (am 24 0), .ref (am 25 0), .ref (am 26 0), .ref (am 27 0), .ref (am 28 0), .ref (am 29 0), vI (((((remM ((cu (cu m 0 0 ((fu (m 0 0) 0 0))) 4 0 (fu (m 4 0) (Int.toNat ((96 * u) + z)) k))) u.toNat z ((10 * (m 4 0 (96 * u + z).toNat)) + k)) 0 0) 30).toNat : Nat) : Int), vI (((remM ((cu (cu m 0 0 ((fu (m 0 0) 0 0))) 4 0 (fu (m 4 0) (Int.toNat ((96 * u) + z)) k))) u.toNat z ((10 * (m 4 0 (96 * u + z).toNat)) + k)) 0 0) 31), vI (((remM ((cu (cu m 0 0 ((fu (m 0 0) 0 0))) 4 0 (fu (m 4 0) (Int.toNat ((96 * u) + z)) k))) u.toNat z ((10 * (m 4 0 (96 * u + z).toNat)) + k)) 0 0) 32), vI (((((remM ((cu (cu m 0 0 ((fu (m 0 0) 0 0))) 4 0 (fu (m 4 0) (Int.toNat ((96 * u) + z)) k))) u.toNat z ((10 * (m 4 0 (96 * u + z).toNat)) + k)) 0 0) 33).toNat : Nat) : Int), vI (((remM ((cu (cu m 0 0 ((fu (m 0 0) 0 0))) 4 0 (fu (m 4 0) (Int.toNat ((96 * u) + z)) k))) u.toNat z ((10 * (m 4 0 (96 * u + z).toNat)) + k)) 0 0) 34), .ref (am 35 0), .ref (am 36 0), .ref (am 37 0)]) := by rw [e101, hu_n (cp97.1.ne (lm0 (by decide)) (lm0 (by decide)) (fun zz9 => absurd zz9.1 (by decide)))]; exact f98
              refine x_get C (v := .ref (am 6 0)) f103 (T := TX8) rfl kX8_set_1 6 (by decide) kX8_set_4 rfl dX8_set_114 ?_
              refine x_iload_n C dX8_set_117 1 rfl ?_
              refine x_bipush C dX8_set_118 (-2) (by decide) ?_
              have f104 : h93 (am 6 0) = some (eI D 12 (((remM ((cu (cu m 0 0 ((fu (m 0 0) 0 0))) 4 0 (fu (m 4 0) (Int.toNat ((96 * u) + z)) k))) u.toNat z ((10 * (m 4 0 (96 * u + z).toNat)) + k)) 6 0))) := cp97.1.1 6 0 (lm0 (by decide))
              have f105 : h100 (am 6 0) = some (eI D 12 (((remM ((cu (cu m 0 0 ((fu (m 0 0) 0 0))) 4 0 (fu (m 4 0) (Int.toNat ((96 * u) + z)) k))) u.toNat z ((10 * (m 4 0 (96 * u + z).toNat)) + k)) 6 0))) := by rw [e101, hu_n (cp97.1.ne (lm0 (by decide)) (lm0 (by decide)) (fun zz9 => absurd zz9.1 (by decide)))]; exact f104
              refine x_iast C f105 ⟨by omega, by omega⟩ (by decide) dX8_set_120 (x_hn (fun h106 e107 => ?_))
              have f108 : h106 (am 6 0) = some (eI D 12 (fu (((remM ((cu (cu m 0 0 ((fu (m 0 0) 0 0))) 4 0 (fu (m 4 0) (Int.toNat ((96 * u) + z)) k))) u.toNat z ((10 * (m 4 0 (96 * u + z).toNat)) + k)) 6 0)) (Int.toNat u) ((-2)))) := by rw [e107]; exact hu_s
              refine x_iload C dX8_set_121 4 rfl ?_
              refine x_iret C G dX8_set_123 ?_ (by decide) (by decide)
              have cp109 : MP D am h (cu (cu (remM ((cu (cu m 0 0 ((fu (m 0 0) 0 0))) 4 0 (fu (m 4 0) (Int.toNat ((96 * u) + z)) k))) u.toNat z ((10 * (m 4 0 (96 * u + z).toNat)) + k)) 11 0 (fu (((remM ((cu (cu m 0 0 ((fu (m 0 0) 0 0))) 4 0 (fu (m 4 0) (Int.toNat ((96 * u) + z)) k))) u.toNat z ((10 * (m 4 0 (96 * u + z).toNat)) + k)) 11 0)) (Int.toNat u) 0)) 6 0 (fu (((remM ((cu (cu m 0 0 ((fu (m 0 0) 0 0))) 4 0 (fu (m 4 0) (Int.toNat ((96 * u) + z)) k))) u.toNat z ((10 * (m 4 0 (96 * u + z).toNat)) + k)) 6 0)) (Int.toNat u) ((-2)))) h106 := by rw [e107, e101]; exact (MP.up (MP.up cp97 (lm0 (by decide)) (fu (((remM ((cu (cu m 0 0 ((fu (m 0 0) 0 0))) 4 0 (fu (m 4 0) (Int.toNat ((96 * u) + z)) k))) u.toNat z ((10 * (m 4 0 (96 * u + z).toNat)) + k)) 11 0)) (Int.toNat u) 0) rfl) (lm0 (by decide)) (fu (((remM ((cu (cu m 0 0 ((fu (m 0 0) 0 0))) 4 0 (fu (m 4 0) (Int.toNat ((96 * u) + z)) k))) u.toNat z ((10 * (m 4 0 (96 * u + z).toNat)) + k)) 6 0)) (Int.toNat u) ((-2))) rfl)
              first
                | exact ⟨_, _, rfl, cp109, Or.inl (⟨rfl, by omega, (by repeat (first | exact SM.rf | refine SM.th ?_ | refine SM.rem ?_ | refine SM.o2 ?_ | refine SM.o14 ?_ | refine SM.sr ?_ | refine SM.ly (by assumption) (by assumption) ?_ | refine SM.bm ?_ | refine SM.st ?_ | refine SM.mv ?_ | refine SM.up (by decide) ?_))⟩)⟩
                | exact ⟨_, _, rfl, cp109, Or.inr (Or.inl (⟨rfl, by omega, (by repeat (first | exact SM.rf | refine SM.th ?_ | refine SM.rem ?_ | refine SM.o2 ?_ | refine SM.o14 ?_ | refine SM.sr ?_ | refine SM.ly (by assumption) (by assumption) ?_ | refine SM.bm ?_ | refine SM.st ?_ | refine SM.mv ?_ | refine SM.up (by decide) ?_))⟩))⟩
                | exact ⟨_, _, rfl, cp109, Or.inr (Or.inr (Or.inl (⟨rfl, by omega, (by repeat (first | exact SM.rf | refine SM.th ?_ | refine SM.rem ?_ | refine SM.o2 ?_ | refine SM.o14 ?_ | refine SM.sr ?_ | refine SM.ly (by assumption) (by assumption) ?_ | refine SM.bm ?_ | refine SM.st ?_ | refine SM.mv ?_ | refine SM.up (by decide) ?_))⟩)))⟩
                | exact ⟨_, _, rfl, cp109, Or.inr (Or.inr (Or.inr (⟨rfl, by omega, by first | rfl | omega, (by repeat (first | exact SM.rf | refine SM.th ?_ | refine SM.rem ?_ | refine SM.o2 ?_ | refine SM.o14 ?_ | refine SM.sr ?_ | refine SM.ly (by assumption) (by assumption) ?_ | refine SM.bm ?_ | refine SM.st ?_ | refine SM.mv ?_ | refine SM.up (by decide) ?_))⟩)))⟩
            · skip
              refine x_aload_n C dX8_set_75 0 rfl ?_
              refine x_iconst C dX8_set_76 3 (by decide) ?_
              have cp110 : MP D am h (cu m 0 0 ((fu (m 0 0) 0 0))) h2 := by rw [e3]; exact (MP.up (MP.rf hR) (lm0 (by decide)) ((fu (m 0 0) 0 0)) rfl)
              refine x_callV C (n := 1) (qc := (RX8, TX8, 38)) (As := [vI 3]) (rest := []) (c_X8_fails (cp110.1)) gX8_set_X8_fails (by decide +kernel) f4 rfl rfl rfl rfl (Nat.le_of_ble_eq_true rfl) ⟨by decide, by decide⟩ ⟨(by decide), (by decide)⟩ dX8_set_77 (fun rv111 h112 hp113 => ?_)
              obtain ⟨rfl, cp115⟩ := hp113
              have cp116 : MP D am h ((cu ((cu m 0 0 ((fu (m 0 0) 0 0)))) 0 0 ((fu (((cu m 0 0 ((fu (m 0 0) 0 0)))) 0 0) 0 3)))) h112 := MP.trans cp110 cp115
              refine x_iret C G dX8_set_80 ?_ (by decide) (by decide)
              first
                | exact ⟨_, _, rfl, cp116, Or.inl (⟨rfl, by omega, (by repeat (first | exact SM.rf | refine SM.th ?_ | refine SM.rem ?_ | refine SM.o2 ?_ | refine SM.o14 ?_ | refine SM.sr ?_ | refine SM.ly (by assumption) (by assumption) ?_ | refine SM.bm ?_ | refine SM.st ?_ | refine SM.mv ?_ | refine SM.up (by decide) ?_))⟩)⟩
                | exact ⟨_, _, rfl, cp116, Or.inr (Or.inl (⟨rfl, by omega, (by repeat (first | exact SM.rf | refine SM.th ?_ | refine SM.rem ?_ | refine SM.o2 ?_ | refine SM.o14 ?_ | refine SM.sr ?_ | refine SM.ly (by assumption) (by assumption) ?_ | refine SM.bm ?_ | refine SM.st ?_ | refine SM.mv ?_ | refine SM.up (by decide) ?_))⟩))⟩
                | exact ⟨_, _, rfl, cp116, Or.inr (Or.inr (Or.inl (⟨rfl, by omega, (by repeat (first | exact SM.rf | refine SM.th ?_ | refine SM.rem ?_ | refine SM.o2 ?_ | refine SM.o14 ?_ | refine SM.sr ?_ | refine SM.ly (by assumption) (by assumption) ?_ | refine SM.bm ?_ | refine SM.st ?_ | refine SM.mv ?_ | refine SM.up (by decide) ?_))⟩)))⟩
                | exact ⟨_, _, rfl, cp116, Or.inr (Or.inr (Or.inr (⟨rfl, by omega, by first | rfl | omega, (by repeat (first | exact SM.rf | refine SM.th ?_ | refine SM.rem ?_ | refine SM.o2 ?_ | refine SM.o14 ?_ | refine SM.sr ?_ | refine SM.ly (by assumption) (by assumption) ?_ | refine SM.bm ?_ | refine SM.st ?_ | refine SM.mv ?_ | refine SM.up (by decide) ?_))⟩)))⟩
      · skip
        refine x_aload_n C dX8_set_36 0 rfl ?_
        refine x_iconst C dX8_set_37 2 (by decide) ?_
        have cp117 : MP D am h (cu m 0 0 ((fu (m 0 0) 0 0))) h2 := by rw [e3]; exact (MP.up (MP.rf hR) (lm0 (by decide)) ((fu (m 0 0) 0 0)) rfl)
        refine x_callV C (n := 1) (qc := (RX8, TX8, 38)) (As := [vI 2]) (rest := []) (c_X8_fails (cp117.1)) gX8_set_X8_fails (by decide +kernel) f4 rfl rfl rfl rfl (Nat.le_of_ble_eq_true rfl) ⟨by decide, by decide⟩ ⟨(by decide), (by decide)⟩ dX8_set_38 (fun rv118 h119 hp120 => ?_)
        obtain ⟨rfl, cp122⟩ := hp120
        have cp123 : MP D am h ((cu ((cu m 0 0 ((fu (m 0 0) 0 0)))) 0 0 ((fu (((cu m 0 0 ((fu (m 0 0) 0 0)))) 0 0) 0 2)))) h119 := MP.trans cp117 cp122
        refine x_iret C G dX8_set_41 ?_ (by decide) (by decide)
        first
          | exact ⟨_, _, rfl, cp123, Or.inl (⟨rfl, by omega, (by repeat (first | exact SM.rf | refine SM.th ?_ | refine SM.rem ?_ | refine SM.o2 ?_ | refine SM.o14 ?_ | refine SM.sr ?_ | refine SM.ly (by assumption) (by assumption) ?_ | refine SM.bm ?_ | refine SM.st ?_ | refine SM.mv ?_ | refine SM.up (by decide) ?_))⟩)⟩
          | exact ⟨_, _, rfl, cp123, Or.inr (Or.inl (⟨rfl, by omega, (by repeat (first | exact SM.rf | refine SM.th ?_ | refine SM.rem ?_ | refine SM.o2 ?_ | refine SM.o14 ?_ | refine SM.sr ?_ | refine SM.ly (by assumption) (by assumption) ?_ | refine SM.bm ?_ | refine SM.st ?_ | refine SM.mv ?_ | refine SM.up (by decide) ?_))⟩))⟩
          | exact ⟨_, _, rfl, cp123, Or.inr (Or.inr (Or.inl (⟨rfl, by omega, (by repeat (first | exact SM.rf | refine SM.th ?_ | refine SM.rem ?_ | refine SM.o2 ?_ | refine SM.o14 ?_ | refine SM.sr ?_ | refine SM.ly (by assumption) (by assumption) ?_ | refine SM.bm ?_ | refine SM.st ?_ | refine SM.mv ?_ | refine SM.up (by decide) ?_))⟩)))⟩
          | exact ⟨_, _, rfl, cp123, Or.inr (Or.inr (Or.inr (⟨rfl, by omega, by first | rfl | omega, (by repeat (first | exact SM.rf | refine SM.th ?_ | refine SM.rem ?_ | refine SM.o2 ?_ | refine SM.o14 ?_ | refine SM.sr ?_ | refine SM.ly (by assumption) (by assumption) ?_ | refine SM.bm ?_ | refine SM.st ?_ | refine SM.mv ?_ | refine SM.up (by decide) ?_))⟩)))⟩
    · skip
      refine x_aload_n C dX8_set_20 0 rfl ?_
      refine x_iconst C dX8_set_21 1 (by decide) ?_
      have cp124 : MP D am h (cu m 0 0 ((fu (m 0 0) 0 0))) h2 := by rw [e3]; exact (MP.up (MP.rf hR) (lm0 (by decide)) ((fu (m 0 0) 0 0)) rfl)
      refine x_callV C (n := 1) (qc := (RX8, TX8, 38)) (As := [vI 1]) (rest := []) (c_X8_fails (cp124.1)) gX8_set_X8_fails (by decide +kernel) f4 rfl rfl rfl rfl (Nat.le_of_ble_eq_true rfl) ⟨by decide, by decide⟩ ⟨(by decide), (by decide)⟩ dX8_set_22 (fun rv125 h126 hp127 => ?_)
      obtain ⟨rfl, cp129⟩ := hp127
      have cp130 : MP D am h ((cu ((cu m 0 0 ((fu (m 0 0) 0 0)))) 0 0 ((fu (((cu m 0 0 ((fu (m 0 0) 0 0)))) 0 0) 0 1)))) h126 := MP.trans cp124 cp129
      refine x_iret C G dX8_set_25 ?_ (by decide) (by decide)
      first
        | exact ⟨_, _, rfl, cp130, Or.inl (⟨rfl, by omega, (by repeat (first | exact SM.rf | refine SM.th ?_ | refine SM.rem ?_ | refine SM.o2 ?_ | refine SM.o14 ?_ | refine SM.sr ?_ | refine SM.ly (by assumption) (by assumption) ?_ | refine SM.bm ?_ | refine SM.st ?_ | refine SM.mv ?_ | refine SM.up (by decide) ?_))⟩)⟩
        | exact ⟨_, _, rfl, cp130, Or.inr (Or.inl (⟨rfl, by omega, (by repeat (first | exact SM.rf | refine SM.th ?_ | refine SM.rem ?_ | refine SM.o2 ?_ | refine SM.o14 ?_ | refine SM.sr ?_ | refine SM.ly (by assumption) (by assumption) ?_ | refine SM.bm ?_ | refine SM.st ?_ | refine SM.mv ?_ | refine SM.up (by decide) ?_))⟩))⟩
        | exact ⟨_, _, rfl, cp130, Or.inr (Or.inr (Or.inl (⟨rfl, by omega, (by repeat (first | exact SM.rf | refine SM.th ?_ | refine SM.rem ?_ | refine SM.o2 ?_ | refine SM.o14 ?_ | refine SM.sr ?_ | refine SM.ly (by assumption) (by assumption) ?_ | refine SM.bm ?_ | refine SM.st ?_ | refine SM.mv ?_ | refine SM.up (by decide) ?_))⟩)))⟩
        | exact ⟨_, _, rfl, cp130, Or.inr (Or.inr (Or.inr (⟨rfl, by omega, by first | rfl | omega, (by repeat (first | exact SM.rf | refine SM.th ?_ | refine SM.rem ?_ | refine SM.o2 ?_ | refine SM.o14 ?_ | refine SM.sr ?_ | refine SM.ly (by assumption) (by assumption) ?_ | refine SM.bm ?_ | refine SM.st ?_ | refine SM.mv ?_ | refine SM.up (by decide) ?_))⟩)))⟩

theorem kX8_undo_0 : Cond.fieldLink "LedgeLevelsModel" 101 "LedgeLevelsModel" "thrown" "I" ∈ wsX8_undo := by decide +kernel
theorem kX8_undo_1 : ∀ w ∈ wsX80, w ∈ wsX8_undo := by decide +kernel
theorem kX8_undo_2 : Cond.fieldLink "LedgeLevelsModel" 28 "LedgeLevelsModel" "undos" "[I" ∈ wsX8_undo := by decide +kernel
theorem kX8_undo_3 : Cond.fieldLink "LedgeLevelsModel" 40 "LedgeLevelsModel" "redoCell" "[I" ∈ wsX8_undo := by decide +kernel
theorem kX8_undo_4 : Cond.fieldLink "LedgeLevelsModel" 37 "LedgeLevelsModel" "redos" "[I" ∈ wsX8_undo := by decide +kernel
theorem kX8_undo_5 : Cond.fieldLink "LedgeLevelsModel" 31 "LedgeLevelsModel" "undoCell" "[I" ∈ wsX8_undo := by decide +kernel
theorem kX8_undo_6 : Cond.fieldLink "LedgeLevelsModel" 43 "LedgeLevelsModel" "redoKind" "[I" ∈ wsX8_undo := by decide +kernel
theorem kX8_undo_7 : Cond.fieldLink "LedgeLevelsModel" 34 "LedgeLevelsModel" "undoKind" "[I" ∈ wsX8_undo := by decide +kernel
theorem kX8_undo_8 : Cond.fieldLink "LedgeLevelsModel" 16 "LedgeLevelsModel" "grid" "[I" ∈ wsX8_undo := by decide +kernel
theorem kX8_undo_9 : Cond.fieldLink "LedgeLevelsModel" 22 "LedgeLevelsModel" "proofs" "[I" ∈ wsX8_undo := by decide +kernel
set_option maxRecDepth 100000 in
set_option maxHeartbeats 4000000 in
theorem c_X8_undo {l : Launch} {D : va_G} {A : Nat → Prop} {h : vh} {am : AD} {m : CS} {u : Int}  (hR : RepM D am m h) (hM1 : Mk1 m) (hi_u : -2147483648 ≤ u ∧ u ≤ 2147483647) (hun : ∀ i : Nat, (i : Int) < m 0 0 2 → 0 ≤ m 8 0 i ∧ 0 ≤ m 11 0 i ∧ m 8 0 i + m 11 0 i ≤ 40) (huc : ∀ i j : Nat, (i : Int) < m 0 0 2 → (j : Int) < m 8 0 i → (0 ≤ m 9 0 (40 * i + j) ∧ m 9 0 (40 * i + j) ≤ 95) ∧ (0 ≤ m 10 0 (40 * i + j) ∧ m 10 0 (40 * i + j) ≤ 88)) : MX l D A yX8_undo wsX8_undo { frames := 2, cells := 0, slots := 0, locals := 43 } [.ref (am 0 0), vI u] h (fun rv h' => ∃ (r : Int) (m1 : CS), rv = some (vI r) ∧ MP D am h (m1) h' ∧ ((m1 0 0 0 = 1 ∧ (¬ (0 ≤ u ∧ u < m 0 0 2)) ∧ SM m m1) ∨ (m1 0 0 0 = 2 ∧ ((0 ≤ u ∧ u < m 0 0 2) ∧ m 8 0 u.toNat = 0) ∧ SM m m1) ∨ (m1 0 0 0 = 0 ∧ ((0 ≤ u ∧ u < m 0 0 2) ∧ m 8 0 u.toNat ≠ 0) ∧ r = m 9 0 (40 * u + m 8 0 u.toNat - 1).toNat ∧ SM (cu (cu (cu (cu (cu (cu m 8 0 (fu (m 8 0) u.toNat (m 8 0 u.toNat - 1))) 12 0 (fu (m 12 0) (40 * u + m 11 0 u.toNat).toNat (m 9 0 (40 * u + m 8 0 u.toNat - 1).toNat))) 13 0 (fu (m 13 0) (40 * u + m 11 0 u.toNat).toNat (m 10 0 (40 * u + m 8 0 u.toNat - 1).toNat))) 11 0 (fu (m 11 0) u.toNat (m 11 0 u.toNat + 1))) 4 0 (fu (m 4 0) (96 * u + m 9 0 (40 * u + m 8 0 u.toNat - 1).toNat).toNat (m 10 0 (40 * u + m 8 0 u.toNat - 1).toNat / 10))) 6 0 (fu (m 6 0) u.toNat (-2))) m1))) := by
  refine MX.of (cc := cX8_undo) (maxL := 3) (ret := (some .int)) [(0, .ref (am 0 0)), (1, vI u)] (by decide +kernel) rfl rfl (Nat.le_of_ble_eq_true rfl) ?_
  intro κ C hkl G
  subst hkl
  have C : CX κ "LedgeLevelsModel" "undo" cX8_undo wsX8_undo { frames := 2, cells := 0, slots := 0, locals := 43 } D A 3 := C
  have hiz : nq (D.1 20) (D.1 21) := cx_iz C
  obtain ⟨hM1a, hM1b⟩ := id hM1
  refine x_aload_n C dX8_undo_0 0 rfl ?_
  refine x_iconst C dX8_undo_1 0 (by decide) ?_
  have f1 : h (am 0 0) = some (eO 8 [vI (m 0 0 0), .ref (am 1 0), vI (m 0 0 2), .ref (am 3 0), .ref (am 4 0), .ref (am 5 0), .ref (am 6 0), .ref (am 7 0), .ref (am 8 0), .ref (am 9 0), .ref (am 10 0), .ref (am 11 0), .ref (am 12 0), .ref (am 13 0), vI (m 0 0 14), .ref (am 15 0), .ref (am 16 0), .ref (am 17 0), .ref (am 18 0), .ref (am 19 0), .ref (am 20 0), .ref (am 21 0), .ref (am 22 0), .ref (am 23 0), .ref (am 24 0), .ref (am 25 0), .ref (am 26 0), .ref (am 27 0), .ref (am 28 0), .ref (am 29 0), vI (((m 0 0 30).toNat : Nat) : Int), vI (m 0 0 31), vI (m 0 0 32), vI (((m 0 0 33).toNat : Nat) : Int), vI (m 0 0 34), .ref (am 35 0), .ref (am 36 0), .ref (am 37 0)]) := hR.1 0 0 (lm0 (by decide))
  refine x_put C f1 (T := TX8) rfl tyX8_ok nmX8 kX8_undo_1 0 (by decide) kX8_undo_0 rfl (fs' := [vI 0, .ref (am 1 0), vI (m 0 0 2), .ref (am 3 0), .ref (am 4 0), .ref (am 5 0), .ref (am 6 0), .ref (am 7 0), .ref (am 8 0), .ref (am 9 0), .ref (am 10 0), .ref (am 11 0), .ref (am 12 0), .ref (am 13 0), vI (m 0 0 14), .ref (am 15 0), .ref (am 16 0), .ref (am 17 0), .ref (am 18 0), .ref (am 19 0), .ref (am 20 0), .ref (am 21 0), .ref (am 22 0), .ref (am 23 0), .ref (am 24 0), .ref (am 25 0), .ref (am 26 0), .ref (am 27 0), .ref (am 28 0), .ref (am 29 0), vI (((m 0 0 30).toNat : Nat) : Int), vI (m 0 0 31), vI (m 0 0 32), vI (((m 0 0 33).toNat : Nat) : Int), vI (m 0 0 34), .ref (am 35 0), .ref (am 36 0), .ref (am 37 0)]) rfl rfl (by simp) rfl dX8_undo_2 (x_hn (fun h2 e3 => ?_))
  have f4 : h2 (am 0 0) = some (eO 8 [vI 0, .ref (am 1 0), vI (m 0 0 2), .ref (am 3 0), .ref (am 4 0), .ref (am 5 0), .ref (am 6 0), .ref (am 7 0), .ref (am 8 0), .ref (am 9 0), .ref (am 10 0), .ref (am 11 0), .ref (am 12 0), .ref (am 13 0), vI (m 0 0 14), .ref (am 15 0), .ref (am 16 0), .ref (am 17 0), .ref (am 18 0), .ref (am 19 0), .ref (am 20 0), .ref (am 21 0), .ref (am 22 0), .ref (am 23 0), .ref (am 24 0), .ref (am 25 0), .ref (am 26 0), .ref (am 27 0), .ref (am 28 0), .ref (am 29 0), vI (((m 0 0 30).toNat : Nat) : Int), vI (m 0 0 31), vI (m 0 0 32), vI (((m 0 0 33).toNat : Nat) : Int), vI (m 0 0 34), .ref (am 35 0), .ref (am 36 0), .ref (am 37 0)]) := by rw [e3]; exact hu_s
  refine x_aload_n C dX8_undo_5 0 rfl ?_
  refine x_iload_n C dX8_undo_6 1 rfl ?_
  have cp6 : MP D am h (cu m 0 0 ((fu (m 0 0) 0 0))) h2 := by rw [e3]; exact (MP.up (MP.rf hR) (lm0 (by decide)) ((fu (m 0 0) 0 0)) rfl)
  refine x_callV C (n := 1) (qc := (RX8, TX8, 38)) (As := [vI u]) (rest := []) (c_X8_isLevel (cp6.1) (hM1) (by omega)) gX8_undo_X8_isLevel (by decide +kernel) f4 rfl rfl rfl rfl (Nat.le_of_ble_eq_true rfl) ⟨by decide, by decide⟩ ⟨(by decide), (by decide)⟩ dX8_undo_7 (fun rv7 h8 hp9 => ?_)
  obtain ⟨rfl, e10⟩ := hp9
  obtain rfl := e10.symm
  refine x_topv (show bI (0 ≤ u ∧ u ≤ ((cu m 0 0 ((fu (m 0 0) 0 0)))) 0 0 2 - 1) = bI (0 ≤ u ∧ u ≤ m 0 0 2 - 1) from by rfl) ?_
  have hbr5 := bI_cs ((0 ≤ u ∧ u ≤ m 0 0 2 - 1))
  refine x_if_ne (tgt := 19) C dX8_undo_10 (by decide) (by omega) (fun c11 => ?_) (fun c11 => ?_)
  · skip
    have hun0 := hun u.toNat (by omega)
    refine x_aload_n C dX8_undo_19 0 rfl ?_
    refine x_get C (v := .ref (am 8 0)) f4 (T := TX8) rfl kX8_undo_1 8 (by decide) kX8_undo_2 rfl dX8_undo_20 ?_
    refine x_iload_n C dX8_undo_23 1 rfl ?_
    have f12 : h (am 8 0) = some (eI D 12 (m 8 0)) := hR.1 8 0 (lm0 (by decide))
    have f13 : h2 (am 8 0) = some (eI D 12 (m 8 0)) := by rw [e3, hu_n (hR.ne (lm0 (by decide)) (lm0 (by decide)) (fun zz9 => absurd zz9.1 (by decide)))]; exact f12
    refine x_iald C f13 ⟨by omega, by omega⟩ (by decide) dX8_undo_24 ?_
    refine x_topv (show (m 8 0) (Int.toNat u) = m 8 0 u.toNat from by rfl) ?_
    refine x_if_ne (tgt := 34) C dX8_undo_25 (by decide) (by omega) (fun c14 => ?_) (fun c14 => ?_)
    · skip
      refine x_aload_n C dX8_undo_34 0 rfl ?_
      refine x_get C (v := .ref (am 8 0)) f4 (T := TX8) rfl kX8_undo_1 8 (by decide) kX8_undo_2 rfl dX8_undo_35 ?_
      refine x_iload_n C dX8_undo_38 1 rfl ?_
      refine x_dup2 C dX8_undo_39 rfl rfl ?_
      refine x_iald C f13 ⟨by omega, by omega⟩ (by decide) dX8_undo_40 ?_
      refine x_topv (show (m 8 0) (Int.toNat u) = m 8 0 u.toNat from by rfl) ?_
      refine x_iconst C dX8_undo_41 1 (by decide) ?_
      refine x_isub C dX8_undo_42 ?_
      refine x_iast C f13 ⟨by omega, by omega⟩ (by decide) dX8_undo_43 (x_hn (fun h15 e16 => ?_))
      have f17 : h15 (am 8 0) = some (eI D 12 (fu (m 8 0) (Int.toNat u) ((m 8 0 u.toNat) - 1))) := by rw [e16]; exact hu_s
      refine x_bipush C dX8_undo_44 40 (by decide) ?_
      refine x_iload_n C dX8_undo_46 1 rfl ?_
      refine x_imul C dX8_undo_47 ?_
      refine x_aload_n C dX8_undo_48 0 rfl ?_
      have f18 : h15 (am 0 0) = some (eO 8 [vI 0, .ref (am 1 0), vI (m 0 0 2), .ref (am 3 0), .ref (am 4 0), .ref (am 5 0), .ref (am 6 0), .ref (am 7 0), .ref (am 8 0), .ref (am 9 0), .ref (am 10 0), .ref (am 11 0), .ref (am 12 0), .ref (am 13 0), vI (m 0 0 14), .ref (am 15 0), .ref (am 16 0), .ref (am 17 0), .ref (am 18 0), .ref (am 19 0), .ref (am 20 0), .ref (am 21 0), .ref (am 22 0), .ref (am 23 0), .ref (am 24 0), .ref (am 25 0), .ref (am 26 0), .ref (am 27 0), .ref (am 28 0), .ref (am 29 0), vI (((m 0 0 30).toNat : Nat) : Int), vI (m 0 0 31), vI (m 0 0 32), vI (((m 0 0 33).toNat : Nat) : Int), vI (m 0 0 34), .ref (am 35 0), .ref (am 36 0), .ref (am 37 0)]) := by rw [e16, hu_n (hR.ne (lm0 (by decide)) (lm0 (by decide)) (fun zz9 => absurd zz9.1 (by decide)))]; exact f4
      refine x_get C (v := .ref (am 8 0)) f18 (T := TX8) rfl kX8_undo_1 8 (by decide) kX8_undo_2 rfl dX8_undo_49 ?_
      refine x_iload_n C dX8_undo_52 1 rfl ?_
      refine x_iald C f17 ⟨by omega, by omega⟩ (by decide) dX8_undo_53 ?_
      refine x_topv (show (fu (m 8 0) (Int.toNat u) ((m 8 0 u.toNat) - 1)) (Int.toNat u) = m 8 0 u.toNat - 1 from by exact fu_s) ?_
      refine x_iadd C dX8_undo_54 ?_
      refine x_topv (show (40 * u) + (m 8 0 u.toNat - 1) = 40 * u + m 8 0 u.toNat - 1 from by omega) ?_
      refine x_istore_n C (ls' := [(0, .ref (am 0 0)), (1, vI u), (2, vI (40 * u + m 8 0 u.toNat - 1))]) dX8_undo_55 (by decide) rfl ?_
      have hz9 := huc u.toNat (m 8 0 u.toNat - 1).toNat (by omega) (by omega)
      rw [show 40 * u.toNat + (m 8 0 u.toNat - 1).toNat = (40 * u + m 8 0 u.toNat - 1).toNat by omega] at hz9
      refine x_aload_n C dX8_undo_56 0 rfl ?_
      refine x_get C (v := .ref (am 12 0)) f18 (T := TX8) rfl kX8_undo_1 12 (by decide) kX8_undo_3 rfl dX8_undo_57 ?_
      refine x_bipush C dX8_undo_60 40 (by decide) ?_
      refine x_iload_n C dX8_undo_62 1 rfl ?_
      refine x_imul C dX8_undo_63 ?_
      refine x_aload_n C dX8_undo_64 0 rfl ?_
      refine x_get C (v := .ref (am 11 0)) f18 (T := TX8) rfl kX8_undo_1 11 (by decide) kX8_undo_4 rfl dX8_undo_65 ?_
      refine x_iload_n C dX8_undo_68 1 rfl ?_
      have f19 : h (am 11 0) = some (eI D 12 (m 11 0)) := hR.1 11 0 (lm0 (by decide))
      have f20 : h2 (am 11 0) = some (eI D 12 (m 11 0)) := by rw [e3, hu_n (hR.ne (lm0 (by decide)) (lm0 (by decide)) (fun zz9 => absurd zz9.1 (by decide)))]; exact f19
      have f21 : h15 (am 11 0) = some (eI D 12 (m 11 0)) := by rw [e16, hu_n (hR.ne (lm0 (by decide)) (lm0 (by decide)) (fun zz9 => absurd zz9.1 (by decide)))]; exact f20
      refine x_iald C f21 ⟨by omega, by omega⟩ (by decide) dX8_undo_69 ?_
      refine x_topv (show (m 11 0) (Int.toNat u) = m 11 0 u.toNat from by rfl) ?_
      refine x_iadd C dX8_undo_70 ?_
      refine x_aload_n C dX8_undo_71 0 rfl ?_
      refine x_get C (v := .ref (am 9 0)) f18 (T := TX8) rfl kX8_undo_1 9 (by decide) kX8_undo_5 rfl dX8_undo_72 ?_
      refine x_iload_n C dX8_undo_75 2 rfl ?_
      have f22 : h (am 9 0) = some (eI D 480 (m 9 0)) := hR.1 9 0 (lm0 (by decide))
      have f23 : h2 (am 9 0) = some (eI D 480 (m 9 0)) := by rw [e3, hu_n (hR.ne (lm0 (by decide)) (lm0 (by decide)) (fun zz9 => absurd zz9.1 (by decide)))]; exact f22
      have f24 : h15 (am 9 0) = some (eI D 480 (m 9 0)) := by rw [e16, hu_n (hR.ne (lm0 (by decide)) (lm0 (by decide)) (fun zz9 => absurd zz9.1 (by decide)))]; exact f23
      refine x_iald C f24 ⟨by omega, by omega⟩ (by decide) dX8_undo_76 ?_
      refine x_topv (show (m 9 0) (Int.toNat (40 * u + m 8 0 u.toNat - 1)) = m 9 0 (40 * u + m 8 0 u.toNat - 1).toNat from by rfl) ?_
      have f25 : h (am 12 0) = some (eI D 480 (m 12 0)) := hR.1 12 0 (lm0 (by decide))
      have f26 : h2 (am 12 0) = some (eI D 480 (m 12 0)) := by rw [e3, hu_n (hR.ne (lm0 (by decide)) (lm0 (by decide)) (fun zz9 => absurd zz9.1 (by decide)))]; exact f25
      have f27 : h15 (am 12 0) = some (eI D 480 (m 12 0)) := by rw [e16, hu_n (hR.ne (lm0 (by decide)) (lm0 (by decide)) (fun zz9 => absurd zz9.1 (by decide)))]; exact f26
      refine x_iast C f27 ⟨by omega, by omega⟩ (by decide) dX8_undo_77 (x_hn (fun h28 e29 => ?_))
      have f30 : h28 (am 12 0) = some (eI D 480 (fu (m 12 0) (Int.toNat ((40 * u) + (m 11 0 u.toNat))) (m 9 0 (40 * u + m 8 0 u.toNat - 1).toNat))) := by rw [e29]; exact hu_s
      refine x_aload_n C dX8_undo_78 0 rfl ?_
      have f31 : h28 (am 0 0) = some (eO 8 [vI 0, .ref (am 1 0), vI (m 0 0 2), .ref (am 3 0), .ref (am 4 0), .ref (am 5 0), .ref (am 6 0), .ref (am 7 0), .ref (am 8 0), .ref (am 9 0), .ref (am 10 0), .ref (am 11 0), .ref (am 12 0), .ref (am 13 0), vI (m 0 0 14), .ref (am 15 0), .ref (am 16 0), .ref (am 17 0), .ref (am 18 0), .ref (am 19 0), .ref (am 20 0), .ref (am 21 0), .ref (am 22 0), .ref (am 23 0), .ref (am 24 0), .ref (am 25 0), .ref (am 26 0), .ref (am 27 0), .ref (am 28 0), .ref (am 29 0), vI (((m 0 0 30).toNat : Nat) : Int), vI (m 0 0 31), vI (m 0 0 32), vI (((m 0 0 33).toNat : Nat) : Int), vI (m 0 0 34), .ref (am 35 0), .ref (am 36 0), .ref (am 37 0)]) := by rw [e29, hu_n (hR.ne (lm0 (by decide)) (lm0 (by decide)) (fun zz9 => absurd zz9.1 (by decide)))]; exact f18
      refine x_get C (v := .ref (am 13 0)) f31 (T := TX8) rfl kX8_undo_1 13 (by decide) kX8_undo_6 rfl dX8_undo_79 ?_
      refine x_bipush C dX8_undo_82 40 (by decide) ?_
      refine x_iload_n C dX8_undo_84 1 rfl ?_
      refine x_imul C dX8_undo_85 ?_
      refine x_aload_n C dX8_undo_86 0 rfl ?_
      refine x_get C (v := .ref (am 11 0)) f31 (T := TX8) rfl kX8_undo_1 11 (by decide) kX8_undo_4 rfl dX8_undo_87 ?_
      refine x_iload_n C dX8_undo_90 1 rfl ?_
      have f32 : h28 (am 11 0) = some (eI D 12 (m 11 0)) := by rw [e29, hu_n (hR.ne (lm0 (by decide)) (lm0 (by decide)) (fun zz9 => absurd zz9.1 (by decide)))]; exact f21
      refine x_iald C f32 ⟨by omega, by omega⟩ (by decide) dX8_undo_91 ?_
      refine x_topv (show (m 11 0) (Int.toNat u) = m 11 0 u.toNat from by rfl) ?_
      refine x_iadd C dX8_undo_92 ?_
      refine x_aload_n C dX8_undo_93 0 rfl ?_
      refine x_get C (v := .ref (am 10 0)) f31 (T := TX8) rfl kX8_undo_1 10 (by decide) kX8_undo_7 rfl dX8_undo_94 ?_
      refine x_iload_n C dX8_undo_97 2 rfl ?_
      have f33 : h (am 10 0) = some (eI D 480 (m 10 0)) := hR.1 10 0 (lm0 (by decide))
      have f34 : h2 (am 10 0) = some (eI D 480 (m 10 0)) := by rw [e3, hu_n (hR.ne (lm0 (by decide)) (lm0 (by decide)) (fun zz9 => absurd zz9.1 (by decide)))]; exact f33
      have f35 : h15 (am 10 0) = some (eI D 480 (m 10 0)) := by rw [e16, hu_n (hR.ne (lm0 (by decide)) (lm0 (by decide)) (fun zz9 => absurd zz9.1 (by decide)))]; exact f34
      have f36 : h28 (am 10 0) = some (eI D 480 (m 10 0)) := by rw [e29, hu_n (hR.ne (lm0 (by decide)) (lm0 (by decide)) (fun zz9 => absurd zz9.1 (by decide)))]; exact f35
      refine x_iald C f36 ⟨by omega, by omega⟩ (by decide) dX8_undo_98 ?_
      refine x_topv (show (m 10 0) (Int.toNat (40 * u + m 8 0 u.toNat - 1)) = m 10 0 (40 * u + m 8 0 u.toNat - 1).toNat from by rfl) ?_
      have f37 : h (am 13 0) = some (eI D 480 (m 13 0)) := hR.1 13 0 (lm0 (by decide))
      have f38 : h2 (am 13 0) = some (eI D 480 (m 13 0)) := by rw [e3, hu_n (hR.ne (lm0 (by decide)) (lm0 (by decide)) (fun zz9 => absurd zz9.1 (by decide)))]; exact f37
      have f39 : h15 (am 13 0) = some (eI D 480 (m 13 0)) := by rw [e16, hu_n (hR.ne (lm0 (by decide)) (lm0 (by decide)) (fun zz9 => absurd zz9.1 (by decide)))]; exact f38
      have f40 : h28 (am 13 0) = some (eI D 480 (m 13 0)) := by rw [e29, hu_n (hR.ne (lm0 (by decide)) (lm0 (by decide)) (fun zz9 => absurd zz9.1 (by decide)))]; exact f39
      refine x_iast C f40 ⟨by omega, by omega⟩ (by decide) dX8_undo_99 (x_hn (fun h41 e42 => ?_))
      have f43 : h41 (am 13 0) = some (eI D 480 (fu (m 13 0) (Int.toNat ((40 * u) + (m 11 0 u.toNat))) (m 10 0 (40 * u + m 8 0 u.toNat - 1).toNat))) := by rw [e42]; exact hu_s
      refine x_aload_n C dX8_undo_100 0 rfl ?_
      have f44 : h41 (am 0 0) = some (eO 8 [vI 0, .ref (am 1 0), vI (m 0 0 2), .ref (am 3 0), .ref (am 4 0), .ref (am 5 0), .ref (am 6 0), .ref (am 7 0), .ref (am 8 0), .ref (am 9 0), .ref (am 10 0), .ref (am 11 0), .ref (am 12 0), .ref (am 13 0), vI (m 0 0 14), .ref (am 15 0), .ref (am 16 0), .ref (am 17 0), .ref (am 18 0), .ref (am 19 0), .ref (am 20 0), .ref (am 21 0), .ref (am 22 0), .ref (am 23 0), .ref (am 24 0), .ref (am 25 0), .ref (am 26 0), .ref (am 27 0), .ref (am 28 0), .ref (am 29 0), vI (((m 0 0 30).toNat : Nat) : Int), vI (m 0 0 31), vI (m 0 0 32), vI (((m 0 0 33).toNat : Nat) : Int), vI (m 0 0 34), .ref (am 35 0), .ref (am 36 0), .ref (am 37 0)]) := by rw [e42, hu_n (hR.ne (lm0 (by decide)) (lm0 (by decide)) (fun zz9 => absurd zz9.1 (by decide)))]; exact f31
      refine x_get C (v := .ref (am 11 0)) f44 (T := TX8) rfl kX8_undo_1 11 (by decide) kX8_undo_4 rfl dX8_undo_101 ?_
      refine x_iload_n C dX8_undo_104 1 rfl ?_
      refine x_dup2 C dX8_undo_105 rfl rfl ?_
      have f45 : h41 (am 11 0) = some (eI D 12 (m 11 0)) := by rw [e42, hu_n (hR.ne (lm0 (by decide)) (lm0 (by decide)) (fun zz9 => absurd zz9.1 (by decide)))]; exact f32
      refine x_iald C f45 ⟨by omega, by omega⟩ (by decide) dX8_undo_106 ?_
      refine x_topv (show (m 11 0) (Int.toNat u) = m 11 0 u.toNat from by rfl) ?_
      refine x_iconst C dX8_undo_107 1 (by decide) ?_
      refine x_iadd C dX8_undo_108 ?_
      refine x_iast C f45 ⟨by omega, by omega⟩ (by decide) dX8_undo_109 (x_hn (fun h46 e47 => ?_))
      have f48 : h46 (am 11 0) = some (eI D 12 (fu (m 11 0) (Int.toNat u) ((m 11 0 u.toNat) + 1))) := by rw [e47]; exact hu_s
      refine x_aload_n C dX8_undo_110 0 rfl ?_
      have f49 : h46 (am 0 0) = some (eO 8 [vI 0, .ref (am 1 0), vI (m 0 0 2), .ref (am 3 0), .ref (am 4 0), .ref (am 5 0), .ref (am 6 0), .ref (am 7 0), .ref (am 8 0), .ref (am 9 0), .ref (am 10 0), .ref (am 11 0), .ref (am 12 0), .ref (am 13 0), vI (m 0 0 14), .ref (am 15 0), .ref (am 16 0), .ref (am 17 0), .ref (am 18 0), .ref (am 19 0), .ref (am 20 0), .ref (am 21 0), .ref (am 22 0), .ref (am 23 0), .ref (am 24 0), .ref (am 25 0), .ref (am 26 0), .ref (am 27 0), .ref (am 28 0), .ref (am 29 0), vI (((m 0 0 30).toNat : Nat) : Int), vI (m 0 0 31), vI (m 0 0 32), vI (((m 0 0 33).toNat : Nat) : Int), vI (m 0 0 34), .ref (am 35 0), .ref (am 36 0), .ref (am 37 0)]) := by rw [e47, hu_n (hR.ne (lm0 (by decide)) (lm0 (by decide)) (fun zz9 => absurd zz9.1 (by decide)))]; exact f44
      refine x_get C (v := .ref (am 4 0)) f49 (T := TX8) rfl kX8_undo_1 4 (by decide) kX8_undo_8 rfl dX8_undo_111 ?_
      refine x_bipush C dX8_undo_114 96 (by decide) ?_
      refine x_iload_n C dX8_undo_116 1 rfl ?_
      refine x_imul C dX8_undo_117 ?_
      refine x_aload_n C dX8_undo_118 0 rfl ?_
      refine x_get C (v := .ref (am 9 0)) f49 (T := TX8) rfl kX8_undo_1 9 (by decide) kX8_undo_5 rfl dX8_undo_119 ?_
      refine x_iload_n C dX8_undo_122 2 rfl ?_
      have f50 : h28 (am 9 0) = some (eI D 480 (m 9 0)) := by rw [e29, hu_n (hR.ne (lm0 (by decide)) (lm0 (by decide)) (fun zz9 => absurd zz9.1 (by decide)))]; exact f24
      have f51 : h41 (am 9 0) = some (eI D 480 (m 9 0)) := by rw [e42, hu_n (hR.ne (lm0 (by decide)) (lm0 (by decide)) (fun zz9 => absurd zz9.1 (by decide)))]; exact f50
      have f52 : h46 (am 9 0) = some (eI D 480 (m 9 0)) := by rw [e47, hu_n (hR.ne (lm0 (by decide)) (lm0 (by decide)) (fun zz9 => absurd zz9.1 (by decide)))]; exact f51
      refine x_iald C f52 ⟨by omega, by omega⟩ (by decide) dX8_undo_123 ?_
      refine x_topv (show (m 9 0) (Int.toNat (40 * u + m 8 0 u.toNat - 1)) = m 9 0 (40 * u + m 8 0 u.toNat - 1).toNat from by rfl) ?_
      refine x_iadd C dX8_undo_124 ?_
      refine x_aload_n C dX8_undo_125 0 rfl ?_
      refine x_get C (v := .ref (am 10 0)) f49 (T := TX8) rfl kX8_undo_1 10 (by decide) kX8_undo_7 rfl dX8_undo_126 ?_
      refine x_iload_n C dX8_undo_129 2 rfl ?_
      have f53 : h41 (am 10 0) = some (eI D 480 (m 10 0)) := by rw [e42, hu_n (hR.ne (lm0 (by decide)) (lm0 (by decide)) (fun zz9 => absurd zz9.1 (by decide)))]; exact f36
      have f54 : h46 (am 10 0) = some (eI D 480 (m 10 0)) := by rw [e47, hu_n (hR.ne (lm0 (by decide)) (lm0 (by decide)) (fun zz9 => absurd zz9.1 (by decide)))]; exact f53
      refine x_iald C f54 ⟨by omega, by omega⟩ (by decide) dX8_undo_130 ?_
      refine x_topv (show (m 10 0) (Int.toNat (40 * u + m 8 0 u.toNat - 1)) = m 10 0 (40 * u + m 8 0 u.toNat - 1).toNat from by rfl) ?_
      refine x_bipush C dX8_undo_131 10 (by decide) ?_
      refine x_idiv C dX8_undo_133 (by omega) (by omega) (by omega) (by omega) ?_
      have f55 : h (am 4 0) = some (eI D 1152 (m 4 0)) := hR.1 4 0 (lm0 (by decide))
      have f56 : h2 (am 4 0) = some (eI D 1152 (m 4 0)) := by rw [e3, hu_n (hR.ne (lm0 (by decide)) (lm0 (by decide)) (fun zz9 => absurd zz9.1 (by decide)))]; exact f55
      have f57 : h15 (am 4 0) = some (eI D 1152 (m 4 0)) := by rw [e16, hu_n (hR.ne (lm0 (by decide)) (lm0 (by decide)) (fun zz9 => absurd zz9.1 (by decide)))]; exact f56
      have f58 : h28 (am 4 0) = some (eI D 1152 (m 4 0)) := by rw [e29, hu_n (hR.ne (lm0 (by decide)) (lm0 (by decide)) (fun zz9 => absurd zz9.1 (by decide)))]; exact f57
      have f59 : h41 (am 4 0) = some (eI D 1152 (m 4 0)) := by rw [e42, hu_n (hR.ne (lm0 (by decide)) (lm0 (by decide)) (fun zz9 => absurd zz9.1 (by decide)))]; exact f58
      have f60 : h46 (am 4 0) = some (eI D 1152 (m 4 0)) := by rw [e47, hu_n (hR.ne (lm0 (by decide)) (lm0 (by decide)) (fun zz9 => absurd zz9.1 (by decide)))]; exact f59
      refine x_iast C f60 ⟨by omega, by omega⟩ (by decide) dX8_undo_134 (x_hn (fun h61 e62 => ?_))
      have f63 : h61 (am 4 0) = some (eI D 1152 (fu (m 4 0) (Int.toNat ((96 * u) + (m 9 0 (40 * u + m 8 0 u.toNat - 1).toNat))) ((m 10 0 (40 * u + m 8 0 u.toNat - 1).toNat) / 10))) := by rw [e62]; exact hu_s
      refine x_aload_n C dX8_undo_135 0 rfl ?_
      have f64 : h61 (am 0 0) = some (eO 8 [vI 0, .ref (am 1 0), vI (m 0 0 2), .ref (am 3 0), .ref (am 4 0), .ref (am 5 0), .ref (am 6 0), .ref (am 7 0), .ref (am 8 0), .ref (am 9 0), .ref (am 10 0), .ref (am 11 0), .ref (am 12 0), .ref (am 13 0), vI (m 0 0 14), .ref (am 15 0), .ref (am 16 0), .ref (am 17 0), .ref (am 18 0), .ref (am 19 0), .ref (am 20 0), .ref (am 21 0), .ref (am 22 0), .ref (am 23 0), .ref (am 24 0), .ref (am 25 0), .ref (am 26 0), .ref (am 27 0), .ref (am 28 0), .ref (am 29 0), vI (((m 0 0 30).toNat : Nat) : Int), vI (m 0 0 31), vI (m 0 0 32), vI (((m 0 0 33).toNat : Nat) : Int), vI (m 0 0 34), .ref (am 35 0), .ref (am 36 0), .ref (am 37 0)]) := by rw [e62, hu_n (hR.ne (lm0 (by decide)) (lm0 (by decide)) (fun zz9 => absurd zz9.1 (by decide)))]; exact f49
      refine x_get C (v := .ref (am 6 0)) f64 (T := TX8) rfl kX8_undo_1 6 (by decide) kX8_undo_9 rfl dX8_undo_136 ?_
      refine x_iload_n C dX8_undo_139 1 rfl ?_
      refine x_bipush C dX8_undo_140 (-2) (by decide) ?_
      have f65 : h (am 6 0) = some (eI D 12 (m 6 0)) := hR.1 6 0 (lm0 (by decide))
      have f66 : h2 (am 6 0) = some (eI D 12 (m 6 0)) := by rw [e3, hu_n (hR.ne (lm0 (by decide)) (lm0 (by decide)) (fun zz9 => absurd zz9.1 (by decide)))]; exact f65
      have f67 : h15 (am 6 0) = some (eI D 12 (m 6 0)) := by rw [e16, hu_n (hR.ne (lm0 (by decide)) (lm0 (by decide)) (fun zz9 => absurd zz9.1 (by decide)))]; exact f66
      have f68 : h28 (am 6 0) = some (eI D 12 (m 6 0)) := by rw [e29, hu_n (hR.ne (lm0 (by decide)) (lm0 (by decide)) (fun zz9 => absurd zz9.1 (by decide)))]; exact f67
      have f69 : h41 (am 6 0) = some (eI D 12 (m 6 0)) := by rw [e42, hu_n (hR.ne (lm0 (by decide)) (lm0 (by decide)) (fun zz9 => absurd zz9.1 (by decide)))]; exact f68
      have f70 : h46 (am 6 0) = some (eI D 12 (m 6 0)) := by rw [e47, hu_n (hR.ne (lm0 (by decide)) (lm0 (by decide)) (fun zz9 => absurd zz9.1 (by decide)))]; exact f69
      have f71 : h61 (am 6 0) = some (eI D 12 (m 6 0)) := by rw [e62, hu_n (hR.ne (lm0 (by decide)) (lm0 (by decide)) (fun zz9 => absurd zz9.1 (by decide)))]; exact f70
      refine x_iast C f71 ⟨by omega, by omega⟩ (by decide) dX8_undo_142 (x_hn (fun h72 e73 => ?_))
      have f74 : h72 (am 6 0) = some (eI D 12 (fu (m 6 0) (Int.toNat u) ((-2)))) := by rw [e73]; exact hu_s
      refine x_aload_n C dX8_undo_143 0 rfl ?_
      have f75 : h72 (am 0 0) = some (eO 8 [vI 0, .ref (am 1 0), vI (m 0 0 2), .ref (am 3 0), .ref (am 4 0), .ref (am 5 0), .ref (am 6 0), .ref (am 7 0), .ref (am 8 0), .ref (am 9 0), .ref (am 10 0), .ref (am 11 0), .ref (am 12 0), .ref (am 13 0), vI (m 0 0 14), .ref (am 15 0), .ref (am 16 0), .ref (am 17 0), .ref (am 18 0), .ref (am 19 0), .ref (am 20 0), .ref (am 21 0), .ref (am 22 0), .ref (am 23 0), .ref (am 24 0), .ref (am 25 0), .ref (am 26 0), .ref (am 27 0), .ref (am 28 0), .ref (am 29 0), vI (((m 0 0 30).toNat : Nat) : Int), vI (m 0 0 31), vI (m 0 0 32), vI (((m 0 0 33).toNat : Nat) : Int), vI (m 0 0 34), .ref (am 35 0), .ref (am 36 0), .ref (am 37 0)]) := by rw [e73, hu_n (hR.ne (lm0 (by decide)) (lm0 (by decide)) (fun zz9 => absurd zz9.1 (by decide)))]; exact f64
      refine x_get C (v := .ref (am 9 0)) f75 (T := TX8) rfl kX8_undo_1 9 (by decide) kX8_undo_5 rfl dX8_undo_144 ?_
      refine x_iload_n C dX8_undo_147 2 rfl ?_
      have f76 : h61 (am 9 0) = some (eI D 480 (m 9 0)) := by rw [e62, hu_n (hR.ne (lm0 (by decide)) (lm0 (by decide)) (fun zz9 => absurd zz9.1 (by decide)))]; exact f52
      have f77 : h72 (am 9 0) = some (eI D 480 (m 9 0)) := by rw [e73, hu_n (hR.ne (lm0 (by decide)) (lm0 (by decide)) (fun zz9 => absurd zz9.1 (by decide)))]; exact f76
      refine x_iald C f77 ⟨by omega, by omega⟩ (by decide) dX8_undo_148 ?_
      refine x_topv (show (m 9 0) (Int.toNat (40 * u + m 8 0 u.toNat - 1)) = m 9 0 (40 * u + m 8 0 u.toNat - 1).toNat from by rfl) ?_
      refine x_iret C G dX8_undo_149 ?_ (by decide) (by decide)
      have cp78 : MP D am h (cu (cu (cu (cu (cu (cu (cu m 0 0 ((fu (m 0 0) 0 0))) 8 0 (fu (m 8 0) (Int.toNat u) ((m 8 0 u.toNat) - 1))) 12 0 (fu (m 12 0) (Int.toNat ((40 * u) + (m 11 0 u.toNat))) (m 9 0 (40 * u + m 8 0 u.toNat - 1).toNat))) 13 0 (fu (m 13 0) (Int.toNat ((40 * u) + (m 11 0 u.toNat))) (m 10 0 (40 * u + m 8 0 u.toNat - 1).toNat))) 11 0 (fu (m 11 0) (Int.toNat u) ((m 11 0 u.toNat) + 1))) 4 0 (fu (m 4 0) (Int.toNat ((96 * u) + (m 9 0 (40 * u + m 8 0 u.toNat - 1).toNat))) ((m 10 0 (40 * u + m 8 0 u.toNat - 1).toNat) / 10))) 6 0 (fu (m 6 0) (Int.toNat u) ((-2)))) h72 := by rw [e73, e62, e47, e42, e29, e16, e3]; exact (MP.up (MP.up (MP.up (MP.up (MP.up (MP.up (MP.up (MP.rf hR) (lm0 (by decide)) ((fu (m 0 0) 0 0)) rfl) (lm0 (by decide)) (fu (m 8 0) (Int.toNat u) ((m 8 0 u.toNat) - 1)) rfl) (lm0 (by decide)) (fu (m 12 0) (Int.toNat ((40 * u) + (m 11 0 u.toNat))) (m 9 0 (40 * u + m 8 0 u.toNat - 1).toNat)) rfl) (lm0 (by decide)) (fu (m 13 0) (Int.toNat ((40 * u) + (m 11 0 u.toNat))) (m 10 0 (40 * u + m 8 0 u.toNat - 1).toNat)) rfl) (lm0 (by decide)) (fu (m 11 0) (Int.toNat u) ((m 11 0 u.toNat) + 1)) rfl) (lm0 (by decide)) (fu (m 4 0) (Int.toNat ((96 * u) + (m 9 0 (40 * u + m 8 0 u.toNat - 1).toNat))) ((m 10 0 (40 * u + m 8 0 u.toNat - 1).toNat) / 10)) rfl) (lm0 (by decide)) (fu (m 6 0) (Int.toNat u) ((-2))) rfl)
      first
        | exact ⟨_, _, rfl, cp78, Or.inl (⟨rfl, by omega, (by repeat (first | exact SM.rf | refine SM.th ?_ | refine SM.rem ?_ | refine SM.o2 ?_ | refine SM.o14 ?_ | refine SM.sr ?_ | refine SM.ly (by assumption) (by assumption) ?_ | refine SM.bm ?_ | refine SM.st ?_ | refine SM.mv ?_ | refine SM.up (by decide) ?_))⟩)⟩
        | exact ⟨_, _, rfl, cp78, Or.inr (Or.inl (⟨rfl, by omega, (by repeat (first | exact SM.rf | refine SM.th ?_ | refine SM.rem ?_ | refine SM.o2 ?_ | refine SM.o14 ?_ | refine SM.sr ?_ | refine SM.ly (by assumption) (by assumption) ?_ | refine SM.bm ?_ | refine SM.st ?_ | refine SM.mv ?_ | refine SM.up (by decide) ?_))⟩))⟩
        | exact ⟨_, _, rfl, cp78, Or.inr (Or.inr (⟨rfl, by omega, by first | rfl | omega, (by repeat (first | exact SM.rf | refine SM.th ?_ | refine SM.rem ?_ | refine SM.o2 ?_ | refine SM.o14 ?_ | refine SM.sr ?_ | refine SM.ly (by assumption) (by assumption) ?_ | refine SM.bm ?_ | refine SM.st ?_ | refine SM.mv ?_ | refine SM.up (by decide) ?_))⟩))⟩
    · skip
      refine x_aload_n C dX8_undo_28 0 rfl ?_
      refine x_iconst C dX8_undo_29 2 (by decide) ?_
      have cp79 : MP D am h (cu m 0 0 ((fu (m 0 0) 0 0))) h2 := by rw [e3]; exact (MP.up (MP.rf hR) (lm0 (by decide)) ((fu (m 0 0) 0 0)) rfl)
      refine x_callV C (n := 1) (qc := (RX8, TX8, 38)) (As := [vI 2]) (rest := []) (c_X8_fails (cp79.1)) gX8_undo_X8_fails (by decide +kernel) f4 rfl rfl rfl rfl (Nat.le_of_ble_eq_true rfl) ⟨by decide, by decide⟩ ⟨(by decide), (by decide)⟩ dX8_undo_30 (fun rv80 h81 hp82 => ?_)
      obtain ⟨rfl, cp84⟩ := hp82
      have cp85 : MP D am h ((cu ((cu m 0 0 ((fu (m 0 0) 0 0)))) 0 0 ((fu (((cu m 0 0 ((fu (m 0 0) 0 0)))) 0 0) 0 2)))) h81 := MP.trans cp79 cp84
      refine x_iret C G dX8_undo_33 ?_ (by decide) (by decide)
      first
        | exact ⟨_, _, rfl, cp85, Or.inl (⟨rfl, by omega, (by repeat (first | exact SM.rf | refine SM.th ?_ | refine SM.rem ?_ | refine SM.o2 ?_ | refine SM.o14 ?_ | refine SM.sr ?_ | refine SM.ly (by assumption) (by assumption) ?_ | refine SM.bm ?_ | refine SM.st ?_ | refine SM.mv ?_ | refine SM.up (by decide) ?_))⟩)⟩
        | exact ⟨_, _, rfl, cp85, Or.inr (Or.inl (⟨rfl, by omega, (by repeat (first | exact SM.rf | refine SM.th ?_ | refine SM.rem ?_ | refine SM.o2 ?_ | refine SM.o14 ?_ | refine SM.sr ?_ | refine SM.ly (by assumption) (by assumption) ?_ | refine SM.bm ?_ | refine SM.st ?_ | refine SM.mv ?_ | refine SM.up (by decide) ?_))⟩))⟩
        | exact ⟨_, _, rfl, cp85, Or.inr (Or.inr (⟨rfl, by omega, by first | rfl | omega, (by repeat (first | exact SM.rf | refine SM.th ?_ | refine SM.rem ?_ | refine SM.o2 ?_ | refine SM.o14 ?_ | refine SM.sr ?_ | refine SM.ly (by assumption) (by assumption) ?_ | refine SM.bm ?_ | refine SM.st ?_ | refine SM.mv ?_ | refine SM.up (by decide) ?_))⟩))⟩
  · skip
    refine x_aload_n C dX8_undo_13 0 rfl ?_
    refine x_iconst C dX8_undo_14 1 (by decide) ?_
    have cp86 : MP D am h (cu m 0 0 ((fu (m 0 0) 0 0))) h2 := by rw [e3]; exact (MP.up (MP.rf hR) (lm0 (by decide)) ((fu (m 0 0) 0 0)) rfl)
    refine x_callV C (n := 1) (qc := (RX8, TX8, 38)) (As := [vI 1]) (rest := []) (c_X8_fails (cp86.1)) gX8_undo_X8_fails (by decide +kernel) f4 rfl rfl rfl rfl (Nat.le_of_ble_eq_true rfl) ⟨by decide, by decide⟩ ⟨(by decide), (by decide)⟩ dX8_undo_15 (fun rv87 h88 hp89 => ?_)
    obtain ⟨rfl, cp91⟩ := hp89
    have cp92 : MP D am h ((cu ((cu m 0 0 ((fu (m 0 0) 0 0)))) 0 0 ((fu (((cu m 0 0 ((fu (m 0 0) 0 0)))) 0 0) 0 1)))) h88 := MP.trans cp86 cp91
    refine x_iret C G dX8_undo_18 ?_ (by decide) (by decide)
    first
      | exact ⟨_, _, rfl, cp92, Or.inl (⟨rfl, by omega, (by repeat (first | exact SM.rf | refine SM.th ?_ | refine SM.rem ?_ | refine SM.o2 ?_ | refine SM.o14 ?_ | refine SM.sr ?_ | refine SM.ly (by assumption) (by assumption) ?_ | refine SM.bm ?_ | refine SM.st ?_ | refine SM.mv ?_ | refine SM.up (by decide) ?_))⟩)⟩
      | exact ⟨_, _, rfl, cp92, Or.inr (Or.inl (⟨rfl, by omega, (by repeat (first | exact SM.rf | refine SM.th ?_ | refine SM.rem ?_ | refine SM.o2 ?_ | refine SM.o14 ?_ | refine SM.sr ?_ | refine SM.ly (by assumption) (by assumption) ?_ | refine SM.bm ?_ | refine SM.st ?_ | refine SM.mv ?_ | refine SM.up (by decide) ?_))⟩))⟩
      | exact ⟨_, _, rfl, cp92, Or.inr (Or.inr (⟨rfl, by omega, by first | rfl | omega, (by repeat (first | exact SM.rf | refine SM.th ?_ | refine SM.rem ?_ | refine SM.o2 ?_ | refine SM.o14 ?_ | refine SM.sr ?_ | refine SM.ly (by assumption) (by assumption) ?_ | refine SM.bm ?_ | refine SM.st ?_ | refine SM.mv ?_ | refine SM.up (by decide) ?_))⟩))⟩

theorem kX8_redo_0 : Cond.fieldLink "LedgeLevelsModel" 101 "LedgeLevelsModel" "thrown" "I" ∈ wsX8_redo := by decide +kernel
theorem kX8_redo_1 : ∀ w ∈ wsX80, w ∈ wsX8_redo := by decide +kernel
theorem kX8_redo_2 : Cond.fieldLink "LedgeLevelsModel" 37 "LedgeLevelsModel" "redos" "[I" ∈ wsX8_redo := by decide +kernel
theorem kX8_redo_3 : Cond.fieldLink "LedgeLevelsModel" 40 "LedgeLevelsModel" "redoCell" "[I" ∈ wsX8_redo := by decide +kernel
theorem kX8_redo_4 : Cond.fieldLink "LedgeLevelsModel" 43 "LedgeLevelsModel" "redoKind" "[I" ∈ wsX8_redo := by decide +kernel
theorem kX8_redo_5 : Cond.fieldLink "LedgeLevelsModel" 16 "LedgeLevelsModel" "grid" "[I" ∈ wsX8_redo := by decide +kernel
theorem kX8_redo_6 : Cond.fieldLink "LedgeLevelsModel" 22 "LedgeLevelsModel" "proofs" "[I" ∈ wsX8_redo := by decide +kernel
set_option maxRecDepth 100000 in
set_option maxHeartbeats 4000000 in
theorem c_X8_redo {l : Launch} {D : va_G} {A : Nat → Prop} {h : vh} {am : AD} {m : CS} {u : Int}  (hR : RepM D am m h) (hM1 : Mk1 m) (hi_u : -2147483648 ≤ u ∧ u ≤ 2147483647) (hun : ∀ i : Nat, (i : Int) < m 0 0 2 → 0 ≤ m 8 0 i ∧ 0 ≤ m 11 0 i ∧ m 8 0 i + m 11 0 i ≤ 40) (hrc : ∀ i j : Nat, (i : Int) < m 0 0 2 → (j : Int) < m 11 0 i → (0 ≤ m 12 0 (40 * i + j) ∧ m 12 0 (40 * i + j) ≤ 95) ∧ (0 ≤ m 13 0 (40 * i + j) ∧ m 13 0 (40 * i + j) ≤ 88)) : MX l D A yX8_redo wsX8_redo { frames := 2, cells := 0, slots := 0, locals := 43 } [.ref (am 0 0), vI u] h (fun rv h' => ∃ (r : Int) (m1 : CS), rv = some (vI r) ∧ MP D am h (m1) h' ∧ ((m1 0 0 0 = 1 ∧ (¬ (0 ≤ u ∧ u < m 0 0 2)) ∧ SM m m1) ∨ (m1 0 0 0 = 2 ∧ ((0 ≤ u ∧ u < m 0 0 2) ∧ m 11 0 u.toNat = 0) ∧ SM m m1) ∨ (m1 0 0 0 = 0 ∧ ((0 ≤ u ∧ u < m 0 0 2) ∧ m 11 0 u.toNat ≠ 0) ∧ r = m 12 0 (40 * u + m 11 0 u.toNat - 1).toNat ∧ SM (cu (cu (remM (cu m 11 0 (fu (m 11 0) u.toNat (m 11 0 u.toNat - 1))) u.toNat (m 12 0 (40 * u + m 11 0 u.toNat - 1).toNat) (m 13 0 (40 * u + m 11 0 u.toNat - 1).toNat)) 4 0 (fu (m 4 0) (96 * u + m 12 0 (40 * u + m 11 0 u.toNat - 1).toNat).toNat (m 13 0 (40 * u + m 11 0 u.toNat - 1).toNat % 10))) 6 0 (fu (m 6 0) u.toNat (-2))) m1))) := by
  refine MX.of (cc := cX8_redo) (maxL := 3) (ret := (some .int)) [(0, .ref (am 0 0)), (1, vI u)] (by decide +kernel) rfl rfl (Nat.le_of_ble_eq_true rfl) ?_
  intro κ C hkl G
  subst hkl
  have C : CX κ "LedgeLevelsModel" "redo" cX8_redo wsX8_redo { frames := 2, cells := 0, slots := 0, locals := 43 } D A 3 := C
  have hiz : nq (D.1 20) (D.1 21) := cx_iz C
  obtain ⟨hM1a, hM1b⟩ := id hM1
  refine x_aload_n C dX8_redo_0 0 rfl ?_
  refine x_iconst C dX8_redo_1 0 (by decide) ?_
  have f1 : h (am 0 0) = some (eO 8 [vI (m 0 0 0), .ref (am 1 0), vI (m 0 0 2), .ref (am 3 0), .ref (am 4 0), .ref (am 5 0), .ref (am 6 0), .ref (am 7 0), .ref (am 8 0), .ref (am 9 0), .ref (am 10 0), .ref (am 11 0), .ref (am 12 0), .ref (am 13 0), vI (m 0 0 14), .ref (am 15 0), .ref (am 16 0), .ref (am 17 0), .ref (am 18 0), .ref (am 19 0), .ref (am 20 0), .ref (am 21 0), .ref (am 22 0), .ref (am 23 0), .ref (am 24 0), .ref (am 25 0), .ref (am 26 0), .ref (am 27 0), .ref (am 28 0), .ref (am 29 0), vI (((m 0 0 30).toNat : Nat) : Int), vI (m 0 0 31), vI (m 0 0 32), vI (((m 0 0 33).toNat : Nat) : Int), vI (m 0 0 34), .ref (am 35 0), .ref (am 36 0), .ref (am 37 0)]) := hR.1 0 0 (lm0 (by decide))
  refine x_put C f1 (T := TX8) rfl tyX8_ok nmX8 kX8_redo_1 0 (by decide) kX8_redo_0 rfl (fs' := [vI 0, .ref (am 1 0), vI (m 0 0 2), .ref (am 3 0), .ref (am 4 0), .ref (am 5 0), .ref (am 6 0), .ref (am 7 0), .ref (am 8 0), .ref (am 9 0), .ref (am 10 0), .ref (am 11 0), .ref (am 12 0), .ref (am 13 0), vI (m 0 0 14), .ref (am 15 0), .ref (am 16 0), .ref (am 17 0), .ref (am 18 0), .ref (am 19 0), .ref (am 20 0), .ref (am 21 0), .ref (am 22 0), .ref (am 23 0), .ref (am 24 0), .ref (am 25 0), .ref (am 26 0), .ref (am 27 0), .ref (am 28 0), .ref (am 29 0), vI (((m 0 0 30).toNat : Nat) : Int), vI (m 0 0 31), vI (m 0 0 32), vI (((m 0 0 33).toNat : Nat) : Int), vI (m 0 0 34), .ref (am 35 0), .ref (am 36 0), .ref (am 37 0)]) rfl rfl (by simp) rfl dX8_redo_2 (x_hn (fun h2 e3 => ?_))
  have f4 : h2 (am 0 0) = some (eO 8 [vI 0, .ref (am 1 0), vI (m 0 0 2), .ref (am 3 0), .ref (am 4 0), .ref (am 5 0), .ref (am 6 0), .ref (am 7 0), .ref (am 8 0), .ref (am 9 0), .ref (am 10 0), .ref (am 11 0), .ref (am 12 0), .ref (am 13 0), vI (m 0 0 14), .ref (am 15 0), .ref (am 16 0), .ref (am 17 0), .ref (am 18 0), .ref (am 19 0), .ref (am 20 0), .ref (am 21 0), .ref (am 22 0), .ref (am 23 0), .ref (am 24 0), .ref (am 25 0), .ref (am 26 0), .ref (am 27 0), .ref (am 28 0), .ref (am 29 0), vI (((m 0 0 30).toNat : Nat) : Int), vI (m 0 0 31), vI (m 0 0 32), vI (((m 0 0 33).toNat : Nat) : Int), vI (m 0 0 34), .ref (am 35 0), .ref (am 36 0), .ref (am 37 0)]) := by rw [e3]; exact hu_s
  refine x_aload_n C dX8_redo_5 0 rfl ?_
  refine x_iload_n C dX8_redo_6 1 rfl ?_
  have cp6 : MP D am h (cu m 0 0 ((fu (m 0 0) 0 0))) h2 := by rw [e3]; exact (MP.up (MP.rf hR) (lm0 (by decide)) ((fu (m 0 0) 0 0)) rfl)
  refine x_callV C (n := 1) (qc := (RX8, TX8, 38)) (As := [vI u]) (rest := []) (c_X8_isLevel (cp6.1) (hM1) (by omega)) gX8_redo_X8_isLevel (by decide +kernel) f4 rfl rfl rfl rfl (Nat.le_of_ble_eq_true rfl) ⟨by decide, by decide⟩ ⟨(by decide), (by decide)⟩ dX8_redo_7 (fun rv7 h8 hp9 => ?_)
  obtain ⟨rfl, e10⟩ := hp9
  obtain rfl := e10.symm
  refine x_topv (show bI (0 ≤ u ∧ u ≤ ((cu m 0 0 ((fu (m 0 0) 0 0)))) 0 0 2 - 1) = bI (0 ≤ u ∧ u ≤ m 0 0 2 - 1) from by rfl) ?_
  have hbr5 := bI_cs ((0 ≤ u ∧ u ≤ m 0 0 2 - 1))
  refine x_if_ne (tgt := 19) C dX8_redo_10 (by decide) (by omega) (fun c11 => ?_) (fun c11 => ?_)
  · skip
    have hun0 := hun u.toNat (by omega)
    refine x_aload_n C dX8_redo_19 0 rfl ?_
    refine x_get C (v := .ref (am 11 0)) f4 (T := TX8) rfl kX8_redo_1 11 (by decide) kX8_redo_2 rfl dX8_redo_20 ?_
    refine x_iload_n C dX8_redo_23 1 rfl ?_
    have f12 : h (am 11 0) = some (eI D 12 (m 11 0)) := hR.1 11 0 (lm0 (by decide))
    have f13 : h2 (am 11 0) = some (eI D 12 (m 11 0)) := by rw [e3, hu_n (hR.ne (lm0 (by decide)) (lm0 (by decide)) (fun zz9 => absurd zz9.1 (by decide)))]; exact f12
    refine x_iald C f13 ⟨by omega, by omega⟩ (by decide) dX8_redo_24 ?_
    refine x_topv (show (m 11 0) (Int.toNat u) = m 11 0 u.toNat from by rfl) ?_
    refine x_if_ne (tgt := 34) C dX8_redo_25 (by decide) (by omega) (fun c14 => ?_) (fun c14 => ?_)
    · skip
      refine x_aload_n C dX8_redo_34 0 rfl ?_
      refine x_get C (v := .ref (am 11 0)) f4 (T := TX8) rfl kX8_redo_1 11 (by decide) kX8_redo_2 rfl dX8_redo_35 ?_
      refine x_iload_n C dX8_redo_38 1 rfl ?_
      refine x_dup2 C dX8_redo_39 rfl rfl ?_
      refine x_iald C f13 ⟨by omega, by omega⟩ (by decide) dX8_redo_40 ?_
      refine x_topv (show (m 11 0) (Int.toNat u) = m 11 0 u.toNat from by rfl) ?_
      refine x_iconst C dX8_redo_41 1 (by decide) ?_
      refine x_isub C dX8_redo_42 ?_
      refine x_iast C f13 ⟨by omega, by omega⟩ (by decide) dX8_redo_43 (x_hn (fun h15 e16 => ?_))
      have f17 : h15 (am 11 0) = some (eI D 12 (fu (m 11 0) (Int.toNat u) ((m 11 0 u.toNat) - 1))) := by rw [e16]; exact hu_s
      refine x_bipush C dX8_redo_44 40 (by decide) ?_
      refine x_iload_n C dX8_redo_46 1 rfl ?_
      refine x_imul C dX8_redo_47 ?_
      refine x_aload_n C dX8_redo_48 0 rfl ?_
      have f18 : h15 (am 0 0) = some (eO 8 [vI 0, .ref (am 1 0), vI (m 0 0 2), .ref (am 3 0), .ref (am 4 0), .ref (am 5 0), .ref (am 6 0), .ref (am 7 0), .ref (am 8 0), .ref (am 9 0), .ref (am 10 0), .ref (am 11 0), .ref (am 12 0), .ref (am 13 0), vI (m 0 0 14), .ref (am 15 0), .ref (am 16 0), .ref (am 17 0), .ref (am 18 0), .ref (am 19 0), .ref (am 20 0), .ref (am 21 0), .ref (am 22 0), .ref (am 23 0), .ref (am 24 0), .ref (am 25 0), .ref (am 26 0), .ref (am 27 0), .ref (am 28 0), .ref (am 29 0), vI (((m 0 0 30).toNat : Nat) : Int), vI (m 0 0 31), vI (m 0 0 32), vI (((m 0 0 33).toNat : Nat) : Int), vI (m 0 0 34), .ref (am 35 0), .ref (am 36 0), .ref (am 37 0)]) := by rw [e16, hu_n (hR.ne (lm0 (by decide)) (lm0 (by decide)) (fun zz9 => absurd zz9.1 (by decide)))]; exact f4
      refine x_get C (v := .ref (am 11 0)) f18 (T := TX8) rfl kX8_redo_1 11 (by decide) kX8_redo_2 rfl dX8_redo_49 ?_
      refine x_iload_n C dX8_redo_52 1 rfl ?_
      refine x_iald C f17 ⟨by omega, by omega⟩ (by decide) dX8_redo_53 ?_
      refine x_topv (show (fu (m 11 0) (Int.toNat u) ((m 11 0 u.toNat) - 1)) (Int.toNat u) = m 11 0 u.toNat - 1 from by exact fu_s) ?_
      refine x_iadd C dX8_redo_54 ?_
      refine x_topv (show (40 * u) + (m 11 0 u.toNat - 1) = 40 * u + m 11 0 u.toNat - 1 from by omega) ?_
      refine x_istore_n C (ls' := [(0, .ref (am 0 0)), (1, vI u), (2, vI (40 * u + m 11 0 u.toNat - 1))]) dX8_redo_55 (by decide) rfl ?_
      have hz9 := hrc u.toNat (m 11 0 u.toNat - 1).toNat (by omega) (by omega)
      rw [show 40 * u.toNat + (m 11 0 u.toNat - 1).toNat = (40 * u + m 11 0 u.toNat - 1).toNat by omega] at hz9
      have hu9 : 0 ≤ u ∧ u < 12 := by omega
      have hd9 : 0 ≤ m 8 0 u.toNat ∧ m 8 0 u.toNat ≤ 40 := by omega
      refine x_aload_n C dX8_redo_56 0 rfl ?_
      refine x_iload_n C dX8_redo_57 1 rfl ?_
      refine x_aload_n C dX8_redo_58 0 rfl ?_
      refine x_get C (v := .ref (am 12 0)) f18 (T := TX8) rfl kX8_redo_1 12 (by decide) kX8_redo_3 rfl dX8_redo_59 ?_
      refine x_iload_n C dX8_redo_62 2 rfl ?_
      have f19 : h (am 12 0) = some (eI D 480 (m 12 0)) := hR.1 12 0 (lm0 (by decide))
      have f20 : h2 (am 12 0) = some (eI D 480 (m 12 0)) := by rw [e3, hu_n (hR.ne (lm0 (by decide)) (lm0 (by decide)) (fun zz9 => absurd zz9.1 (by decide)))]; exact f19
      have f21 : h15 (am 12 0) = some (eI D 480 (m 12 0)) := by rw [e16, hu_n (hR.ne (lm0 (by decide)) (lm0 (by decide)) (fun zz9 => absurd zz9.1 (by decide)))]; exact f20
      refine x_iald C f21 ⟨by omega, by omega⟩ (by decide) dX8_redo_63 ?_
      refine x_topv (show (m 12 0) (Int.toNat (40 * u + m 11 0 u.toNat - 1)) = m 12 0 (40 * u + m 11 0 u.toNat - 1).toNat from by rfl) ?_
      refine x_aload_n C dX8_redo_64 0 rfl ?_
      refine x_get C (v := .ref (am 13 0)) f18 (T := TX8) rfl kX8_redo_1 13 (by decide) kX8_redo_4 rfl dX8_redo_65 ?_
      refine x_iload_n C dX8_redo_68 2 rfl ?_
      have f22 : h (am 13 0) = some (eI D 480 (m 13 0)) := hR.1 13 0 (lm0 (by decide))
      have f23 : h2 (am 13 0) = some (eI D 480 (m 13 0)) := by rw [e3, hu_n (hR.ne (lm0 (by decide)) (lm0 (by decide)) (fun zz9 => absurd zz9.1 (by decide)))]; exact f22
      have f24 : h15 (am 13 0) = some (eI D 480 (m 13 0)) := by rw [e16, hu_n (hR.ne (lm0 (by decide)) (lm0 (by decide)) (fun zz9 => absurd zz9.1 (by decide)))]; exact f23
      refine x_iald C f24 ⟨by omega, by omega⟩ (by decide) dX8_redo_69 ?_
      refine x_topv (show (m 13 0) (Int.toNat (40 * u + m 11 0 u.toNat - 1)) = m 13 0 (40 * u + m 11 0 u.toNat - 1).toNat from by rfl) ?_
      have cp25 : MP D am h (cu (cu m 0 0 ((fu (m 0 0) 0 0))) 11 0 (fu (m 11 0) (Int.toNat u) ((m 11 0 u.toNat) - 1))) h15 := by rw [e16, e3]; exact (MP.up (MP.up (MP.rf hR) (lm0 (by decide)) ((fu (m 0 0) 0 0)) rfl) (lm0 (by decide)) (fu (m 11 0) (Int.toNat u) ((m 11 0 u.toNat) - 1)) rfl)
      refine x_callV C (n := 3) (qc := (RX8, TX8, 38)) (As := [vI u, vI (m 12 0 (40 * u + m 11 0 u.toNat - 1).toNat), vI (m 13 0 (40 * u + m 11 0 u.toNat - 1).toNat)]) (rest := []) (c_X8_remembers (cp25.1) (hu9) (hd9)) gX8_redo_X8_remembers (by decide +kernel) f18 rfl rfl rfl rfl (Nat.le_of_ble_eq_true rfl) ⟨by decide, by decide⟩ ⟨(by decide), (by decide)⟩ dX8_redo_70 (fun rv26 h27 hp28 => ?_)
      obtain ⟨rfl, cp30⟩ := hp28
      have cp31 : MP D am h (remM ((cu (cu m 0 0 ((fu (m 0 0) 0 0))) 11 0 (fu (m 11 0) (Int.toNat u) ((m 11 0 u.toNat) - 1)))) u.toNat (m 12 0 (40 * u + m 11 0 u.toNat - 1).toNat) (m 13 0 (40 * u + m 11 0 u.toNat - 1).toNat)) h27 := MP.trans cp25 cp30
      refine x_aload_n C dX8_redo_73 0 rfl ?_
      have f32 : h27 (am 0 0) = some (eO 8 [vI (((remM ((cu (cu m 0 0 ((fu (m 0 0) 0 0))) 11 0 (fu (m 11 0) (Int.toNat u) ((m 11 0 u.toNat) - 1)))) u.toNat (m 12 0 (40 * u + m 11 0 u.toNat - 1).toNat) (m 13 0 (40 * u + m 11 0 u.toNat - 1).toNat)) 0 0) 0), .ref (am 1 0), vI (((remM ((cu (cu m 0 0 ((fu (m 0 0) 0 0))) 11 0 (fu (m 11 0) (Int.toNat u) ((m 11 0 u.toNat) - 1)))) u.toNat (m 12 0 (40 * u + m 11 0 u.toNat - 1).toNat) (m 13 0 (40 * u + m 11 0 u.toNat - 1).toNat)) 0 0) 2), .ref (am 3 0), .ref (am 4 0), .ref (am 5 0), .ref (am 6 0), .ref (am 7 0), .ref (am 8 0), .ref (am 9 0), .ref (am 10 0), .ref (am 11 0), .ref (am 12 0), .ref (am 13 0), vI (((remM ((cu (cu m 0 0 ((fu (m 0 0) 0 0))) 11 0 (fu (m 11 0) (Int.toNat u) ((m 11 0 u.toNat) - 1)))) u.toNat (m 12 0 (40 * u + m 11 0 u.toNat - 1).toNat) (m 13 0 (40 * u + m 11 0 u.toNat - 1).toNat)) 0 0) 14), .ref (am 15 0), .ref (am 16 0), .ref (am 17 0), .ref (am 18 0), .ref (am 19 0), .ref (am 20 0), .ref (am 21 0), .ref (am 22 0), .ref (am 23 0), .ref (am 24 0), .ref (am 25 0), .ref (am 26 0), .ref (am 27 0), .ref (am 28 0), .ref (am 29 0), vI (((((remM ((cu (cu m 0 0 ((fu (m 0 0) 0 0))) 11 0 (fu (m 11 0) (Int.toNat u) ((m 11 0 u.toNat) - 1)))) u.toNat (m 12 0 (40 * u + m 11 0 u.toNat - 1).toNat) (m 13 0 (40 * u + m 11 0 u.toNat - 1).toNat)) 0 0) 30).toNat : Nat) : Int), vI (((remM ((cu (cu m 0 0 ((fu (m 0 0) 0 0))) 11 0 (fu (m 11 0) (Int.toNat u) ((m 11 0 u.toNat) - 1)))) u.toNat (m 12 0 (40 * u + m 11 0 u.toNat - 1).toNat) (m 13 0 (40 * u + m 11 0 u.toNat - 1).toNat)) 0 0) 31), vI (((remM ((cu (cu m 0 0 ((fu (m 0 0) 0 0))) 11 0 (fu (m 11 0) (Int.toNat u) ((m 11 0 u.toNat) - 1)))) u.toNat (m 12 0 (40 * u + m 11 0 u.toNat - 1).toNat) (m 13 0 (40 * u + m 11 0 u.toNat - 1).toNat)) 0 0) 32), vI (((((remM ((cu (cu m 0 0 ((fu (m 0 0) 0 0))) 11 0 (fu (m 11 0) (Int.toNat u) ((m 11 0 u.toNat) - 1)))) u.toNat (m 12 0 (40 * u + m 11 0 u.toNat - 1).toNat) (m 13 0 (40 * u + m 11 0 u.toNat - 1).toNat)) 0 0) 33).toNat : Nat) : Int), vI (((remM ((cu (cu m 0 0 ((fu (m 0 0) 0 0))) 11 0 (fu (m 11 0) (Int.toNat u) ((m 11 0 u.toNat) - 1)))) u.toNat (m 12 0 (40 * u + m 11 0 u.toNat - 1).toNat) (m 13 0 (40 * u + m 11 0 u.toNat - 1).toNat)) 0 0) 34), .ref (am 35 0), .ref (am 36 0), .ref (am 37 0)]) := cp31.1.1 0 0 (lm0 (by decide))
      refine x_get C (v := .ref (am 4 0)) f32 (T := TX8) rfl kX8_redo_1 4 (by decide) kX8_redo_5 rfl dX8_redo_74 ?_
      refine x_bipush C dX8_redo_77 96 (by decide) ?_
      refine x_iload_n C dX8_redo_79 1 rfl ?_
      refine x_imul C dX8_redo_80 ?_
      refine x_aload_n C dX8_redo_81 0 rfl ?_
      refine x_get C (v := .ref (am 12 0)) f32 (T := TX8) rfl kX8_redo_1 12 (by decide) kX8_redo_3 rfl dX8_redo_82 ?_
      refine x_iload_n C dX8_redo_85 2 rfl ?_
      have f33 : h27 (am 12 0) = some (eI D 480 (((remM ((cu (cu m 0 0 ((fu (m 0 0) 0 0))) 11 0 (fu (m 11 0) (Int.toNat u) ((m 11 0 u.toNat) - 1)))) u.toNat (m 12 0 (40 * u + m 11 0 u.toNat - 1).toNat) (m 13 0 (40 * u + m 11 0 u.toNat - 1).toNat)) 12 0))) := cp31.1.1 12 0 (lm0 (by decide))
      refine x_iald C f33 ⟨by omega, by omega⟩ (by decide) dX8_redo_86 ?_
      refine x_topv (show (((remM ((cu (cu m 0 0 ((fu (m 0 0) 0 0))) 11 0 (fu (m 11 0) (Int.toNat u) ((m 11 0 u.toNat) - 1)))) u.toNat (m 12 0 (40 * u + m 11 0 u.toNat - 1).toNat) (m 13 0 (40 * u + m 11 0 u.toNat - 1).toNat)) 12 0)) (Int.toNat (40 * u + m 11 0 u.toNat - 1)) = m 12 0 (40 * u + m 11 0 u.toNat - 1).toNat from by rfl) ?_
      refine x_iadd C dX8_redo_87 ?_
      refine x_aload_n C dX8_redo_88 0 rfl ?_
      refine x_get C (v := .ref (am 13 0)) f32 (T := TX8) rfl kX8_redo_1 13 (by decide) kX8_redo_4 rfl dX8_redo_89 ?_
      refine x_iload_n C dX8_redo_92 2 rfl ?_
      have f34 : h27 (am 13 0) = some (eI D 480 (((remM ((cu (cu m 0 0 ((fu (m 0 0) 0 0))) 11 0 (fu (m 11 0) (Int.toNat u) ((m 11 0 u.toNat) - 1)))) u.toNat (m 12 0 (40 * u + m 11 0 u.toNat - 1).toNat) (m 13 0 (40 * u + m 11 0 u.toNat - 1).toNat)) 13 0))) := cp31.1.1 13 0 (lm0 (by decide))
      refine x_iald C f34 ⟨by omega, by omega⟩ (by decide) dX8_redo_93 ?_
      refine x_topv (show (((remM ((cu (cu m 0 0 ((fu (m 0 0) 0 0))) 11 0 (fu (m 11 0) (Int.toNat u) ((m 11 0 u.toNat) - 1)))) u.toNat (m 12 0 (40 * u + m 11 0 u.toNat - 1).toNat) (m 13 0 (40 * u + m 11 0 u.toNat - 1).toNat)) 13 0)) (Int.toNat (40 * u + m 11 0 u.toNat - 1)) = m 13 0 (40 * u + m 11 0 u.toNat - 1).toNat from by rfl) ?_
      refine x_bipush C dX8_redo_94 10 (by decide) ?_
      refine x_irem C dX8_redo_96 (by omega) (by omega) (by omega) (by omega) ?_
      have f35 : h27 (am 4 0) = some (eI D 1152 (((remM ((cu (cu m 0 0 ((fu (m 0 0) 0 0))) 11 0 (fu (m 11 0) (Int.toNat u) ((m 11 0 u.toNat) - 1)))) u.toNat (m 12 0 (40 * u + m 11 0 u.toNat - 1).toNat) (m 13 0 (40 * u + m 11 0 u.toNat - 1).toNat)) 4 0))) := cp31.1.1 4 0 (lm0 (by decide))
      refine x_iast C f35 ⟨by omega, by omega⟩ (by decide) dX8_redo_97 (x_hn (fun h36 e37 => ?_))
      have f38 : h36 (am 4 0) = some (eI D 1152 (fu (((remM ((cu (cu m 0 0 ((fu (m 0 0) 0 0))) 11 0 (fu (m 11 0) (Int.toNat u) ((m 11 0 u.toNat) - 1)))) u.toNat (m 12 0 (40 * u + m 11 0 u.toNat - 1).toNat) (m 13 0 (40 * u + m 11 0 u.toNat - 1).toNat)) 4 0)) (Int.toNat ((96 * u) + (m 12 0 (40 * u + m 11 0 u.toNat - 1).toNat))) ((m 13 0 (40 * u + m 11 0 u.toNat - 1).toNat) % 10))) := by rw [e37]; exact hu_s
      refine x_aload_n C dX8_redo_98 0 rfl ?_
      have f39 : h36 (am 0 0) = some (eO 8 [vI (((remM ((cu (cu m 0 0 ((fu (m 0 0) 0 0))) 11 0 (fu (m 11 0) (Int.toNat u) ((m 11 0 u.toNat) - 1)))) u.toNat (m 12 0 (40 * u + m 11 0 u.toNat - 1).toNat) (m 13 0 (40 * u + m 11 0 u.toNat - 1).toNat)) 0 0) 0), .ref (am 1 0), vI (((remM ((cu (cu m 0 0 ((fu (m 0 0) 0 0))) 11 0 (fu (m 11 0) (Int.toNat u) ((m 11 0 u.toNat) - 1)))) u.toNat (m 12 0 (40 * u + m 11 0 u.toNat - 1).toNat) (m 13 0 (40 * u + m 11 0 u.toNat - 1).toNat)) 0 0) 2), .ref (am 3 0), .ref (am 4 0), .ref (am 5 0), .ref (am 6 0), .ref (am 7 0), .ref (am 8 0), .ref (am 9 0), .ref (am 10 0), .ref (am 11 0), .ref (am 12 0), .ref (am 13 0), vI (((remM ((cu (cu m 0 0 ((fu (m 0 0) 0 0))) 11 0 (fu (m 11 0) (Int.toNat u) ((m 11 0 u.toNat) - 1)))) u.toNat (m 12 0 (40 * u + m 11 0 u.toNat - 1).toNat) (m 13 0 (40 * u + m 11 0 u.toNat - 1).toNat)) 0 0) 14), .ref (am 15 0), .ref (am 16 0), .ref (am 17 0), .ref (am 18 0), .ref (am 19 0), .ref (am 20 0), .ref (am 21 0), .ref (am 22 0), .ref (am 23 0), .ref (am 24 0), .ref (am 25 0), .ref (am 26 0), .ref (am 27 0), .ref (am 28 0), .ref (am 29 0), vI (((((remM ((cu (cu m 0 0 ((fu (m 0 0) 0 0))) 11 0 (fu (m 11 0) (Int.toNat u) ((m 11 0 u.toNat) - 1)))) u.toNat (m 12 0 (40 * u + m 11 0 u.toNat - 1).toNat) (m 13 0 (40 * u + m 11 0 u.toNat - 1).toNat)) 0 0) 30).toNat : Nat) : Int), vI (((remM ((cu (cu m 0 0 ((fu (m 0 0) 0 0))) 11 0 (fu (m 11 0) (Int.toNat u) ((m 11 0 u.toNat) - 1)))) u.toNat (m 12 0 (40 * u + m 11 0 u.toNat - 1).toNat) (m 13 0 (40 * u + m 11 0 u.toNat - 1).toNat)) 0 0) 31), vI (((remM ((cu (cu m 0 0 ((fu (m 0 0) 0 0))) 11 0 (fu (m 11 0) (Int.toNat u) ((m 11 0 u.toNat) - 1)))) u.toNat (m 12 0 (40 * u + m 11 0 u.toNat - 1).toNat) (m 13 0 (40 * u + m 11 0 u.toNat - 1).toNat)) 0 0) 32), vI (((((remM ((cu (cu m 0 0 ((fu (m 0 0) 0 0))) 11 0 (fu (m 11 0) (Int.toNat u) ((m 11 0 u.toNat) - 1)))) u.toNat (m 12 0 (40 * u + m 11 0 u.toNat - 1).toNat) (m 13 0 (40 * u + m 11 0 u.toNat - 1).toNat)) 0 0) 33).toNat : Nat) : Int), vI (((remM ((cu (cu m 0 0 ((fu (m 0 0) 0 0))) 11 0 (fu (m 11 0) (Int.toNat u) ((m 11 0 u.toNat) - 1)))) u.toNat (m 12 0 (40 * u + m 11 0 u.toNat - 1).toNat) (m 13 0 (40 * u + m 11 0 u.toNat - 1).toNat)) 0 0) 34), .ref (am 35 0), .ref (am 36 0), .ref (am 37 0)]) := by rw [e37, hu_n (cp31.1.ne (lm0 (by decide)) (lm0 (by decide)) (fun zz9 => absurd zz9.1 (by decide)))]; exact f32
      refine x_get C (v := .ref (am 6 0)) f39 (T := TX8) rfl kX8_redo_1 6 (by decide) kX8_redo_6 rfl dX8_redo_99 ?_
      refine x_iload_n C dX8_redo_102 1 rfl ?_
      refine x_bipush C dX8_redo_103 (-2) (by decide) ?_
      have f40 : h27 (am 6 0) = some (eI D 12 (((remM ((cu (cu m 0 0 ((fu (m 0 0) 0 0))) 11 0 (fu (m 11 0) (Int.toNat u) ((m 11 0 u.toNat) - 1)))) u.toNat (m 12 0 (40 * u + m 11 0 u.toNat - 1).toNat) (m 13 0 (40 * u + m 11 0 u.toNat - 1).toNat)) 6 0))) := cp31.1.1 6 0 (lm0 (by decide))
      have f41 : h36 (am 6 0) = some (eI D 12 (((remM ((cu (cu m 0 0 ((fu (m 0 0) 0 0))) 11 0 (fu (m 11 0) (Int.toNat u) ((m 11 0 u.toNat) - 1)))) u.toNat (m 12 0 (40 * u + m 11 0 u.toNat - 1).toNat) (m 13 0 (40 * u + m 11 0 u.toNat - 1).toNat)) 6 0))) := by rw [e37, hu_n (cp31.1.ne (lm0 (by decide)) (lm0 (by decide)) (fun zz9 => absurd zz9.1 (by decide)))]; exact f40
      refine x_iast C f41 ⟨by omega, by omega⟩ (by decide) dX8_redo_105 (x_hn (fun h42 e43 => ?_))
      have f44 : h42 (am 6 0) = some (eI D 12 (fu (((remM ((cu (cu m 0 0 ((fu (m 0 0) 0 0))) 11 0 (fu (m 11 0) (Int.toNat u) ((m 11 0 u.toNat) - 1)))) u.toNat (m 12 0 (40 * u + m 11 0 u.toNat - 1).toNat) (m 13 0 (40 * u + m 11 0 u.toNat - 1).toNat)) 6 0)) (Int.toNat u) ((-2)))) := by rw [e43]; exact hu_s
      refine x_aload_n C dX8_redo_106 0 rfl ?_
      have f45 : h42 (am 0 0) = some (eO 8 [vI (((remM ((cu (cu m 0 0 ((fu (m 0 0) 0 0))) 11 0 (fu (m 11 0) (Int.toNat u) ((m 11 0 u.toNat) - 1)))) u.toNat (m 12 0 (40 * u + m 11 0 u.toNat - 1).toNat) (m 13 0 (40 * u + m 11 0 u.toNat - 1).toNat)) 0 0) 0), .ref (am 1 0), vI (((remM ((cu (cu m 0 0 ((fu (m 0 0) 0 0))) 11 0 (fu (m 11 0) (Int.toNat u) ((m 11 0 u.toNat) - 1)))) u.toNat (m 12 0 (40 * u + m 11 0 u.toNat - 1).toNat) (m 13 0 (40 * u + m 11 0 u.toNat - 1).toNat)) 0 0) 2), .ref (am 3 0), .ref (am 4 0), .ref (am 5 0), .ref (am 6 0), .ref (am 7 0), .ref (am 8 0), .ref (am 9 0), .ref (am 10 0), .ref (am 11 0), .ref (am 12 0), .ref (am 13 0), vI (((remM ((cu (cu m 0 0 ((fu (m 0 0) 0 0))) 11 0 (fu (m 11 0) (Int.toNat u) ((m 11 0 u.toNat) - 1)))) u.toNat (m 12 0 (40 * u + m 11 0 u.toNat - 1).toNat) (m 13 0 (40 * u + m 11 0 u.toNat - 1).toNat)) 0 0) 14), .ref (am 15 0), .ref (am 16 0), .ref (am 17 0), .ref (am 18 0), .ref (am 19 0), .ref (am 20 0), .ref (am 21 0), .ref (am 22 0), .ref (am 23 0), .ref (am 24 0), .ref (am 25 0), .ref (am 26 0), .ref (am 27 0), .ref (am 28 0), .ref (am 29 0), vI (((((remM ((cu (cu m 0 0 ((fu (m 0 0) 0 0))) 11 0 (fu (m 11 0) (Int.toNat u) ((m 11 0 u.toNat) - 1)))) u.toNat (m 12 0 (40 * u + m 11 0 u.toNat - 1).toNat) (m 13 0 (40 * u + m 11 0 u.toNat - 1).toNat)) 0 0) 30).toNat : Nat) : Int), vI (((remM ((cu (cu m 0 0 ((fu (m 0 0) 0 0))) 11 0 (fu (m 11 0) (Int.toNat u) ((m 11 0 u.toNat) - 1)))) u.toNat (m 12 0 (40 * u + m 11 0 u.toNat - 1).toNat) (m 13 0 (40 * u + m 11 0 u.toNat - 1).toNat)) 0 0) 31), vI (((remM ((cu (cu m 0 0 ((fu (m 0 0) 0 0))) 11 0 (fu (m 11 0) (Int.toNat u) ((m 11 0 u.toNat) - 1)))) u.toNat (m 12 0 (40 * u + m 11 0 u.toNat - 1).toNat) (m 13 0 (40 * u + m 11 0 u.toNat - 1).toNat)) 0 0) 32), vI (((((remM ((cu (cu m 0 0 ((fu (m 0 0) 0 0))) 11 0 (fu (m 11 0) (Int.toNat u) ((m 11 0 u.toNat) - 1)))) u.toNat (m 12 0 (40 * u + m 11 0 u.toNat - 1).toNat) (m 13 0 (40 * u + m 11 0 u.toNat - 1).toNat)) 0 0) 33).toNat : Nat) : Int), vI (((remM ((cu (cu m 0 0 ((fu (m 0 0) 0 0))) 11 0 (fu (m 11 0) (Int.toNat u) ((m 11 0 u.toNat) - 1)))) u.toNat (m 12 0 (40 * u + m 11 0 u.toNat - 1).toNat) (m 13 0 (40 * u + m 11 0 u.toNat - 1).toNat)) 0 0) 34), .ref (am 35 0), .ref (am 36 0), .ref (am 37 0)]) := by rw [e43, hu_n (cp31.1.ne (lm0 (by decide)) (lm0 (by decide)) (fun zz9 => absurd zz9.1 (by decide)))]; exact f39
      refine x_get C (v := .ref (am 12 0)) f45 (T := TX8) rfl kX8_redo_1 12 (by decide) kX8_redo_3 rfl dX8_redo_107 ?_
      refine x_iload_n C dX8_redo_110 2 rfl ?_
      have f46 : h36 (am 12 0) = some (eI D 480 (((remM ((cu (cu m 0 0 ((fu (m 0 0) 0 0))) 11 0 (fu (m 11 0) (Int.toNat u) ((m 11 0 u.toNat) - 1)))) u.toNat (m 12 0 (40 * u + m 11 0 u.toNat - 1).toNat) (m 13 0 (40 * u + m 11 0 u.toNat - 1).toNat)) 12 0))) := by rw [e37, hu_n (cp31.1.ne (lm0 (by decide)) (lm0 (by decide)) (fun zz9 => absurd zz9.1 (by decide)))]; exact f33
      have f47 : h42 (am 12 0) = some (eI D 480 (((remM ((cu (cu m 0 0 ((fu (m 0 0) 0 0))) 11 0 (fu (m 11 0) (Int.toNat u) ((m 11 0 u.toNat) - 1)))) u.toNat (m 12 0 (40 * u + m 11 0 u.toNat - 1).toNat) (m 13 0 (40 * u + m 11 0 u.toNat - 1).toNat)) 12 0))) := by rw [e43, hu_n (cp31.1.ne (lm0 (by decide)) (lm0 (by decide)) (fun zz9 => absurd zz9.1 (by decide)))]; exact f46
      refine x_iald C f47 ⟨by omega, by omega⟩ (by decide) dX8_redo_111 ?_
      refine x_topv (show (((remM ((cu (cu m 0 0 ((fu (m 0 0) 0 0))) 11 0 (fu (m 11 0) (Int.toNat u) ((m 11 0 u.toNat) - 1)))) u.toNat (m 12 0 (40 * u + m 11 0 u.toNat - 1).toNat) (m 13 0 (40 * u + m 11 0 u.toNat - 1).toNat)) 12 0)) (Int.toNat (40 * u + m 11 0 u.toNat - 1)) = m 12 0 (40 * u + m 11 0 u.toNat - 1).toNat from by rfl) ?_
      refine x_iret C G dX8_redo_112 ?_ (by decide) (by decide)
      have cp48 : MP D am h (cu (cu (remM ((cu (cu m 0 0 ((fu (m 0 0) 0 0))) 11 0 (fu (m 11 0) (Int.toNat u) ((m 11 0 u.toNat) - 1)))) u.toNat (m 12 0 (40 * u + m 11 0 u.toNat - 1).toNat) (m 13 0 (40 * u + m 11 0 u.toNat - 1).toNat)) 4 0 (fu (((remM ((cu (cu m 0 0 ((fu (m 0 0) 0 0))) 11 0 (fu (m 11 0) (Int.toNat u) ((m 11 0 u.toNat) - 1)))) u.toNat (m 12 0 (40 * u + m 11 0 u.toNat - 1).toNat) (m 13 0 (40 * u + m 11 0 u.toNat - 1).toNat)) 4 0)) (Int.toNat ((96 * u) + (m 12 0 (40 * u + m 11 0 u.toNat - 1).toNat))) ((m 13 0 (40 * u + m 11 0 u.toNat - 1).toNat) % 10))) 6 0 (fu (((remM ((cu (cu m 0 0 ((fu (m 0 0) 0 0))) 11 0 (fu (m 11 0) (Int.toNat u) ((m 11 0 u.toNat) - 1)))) u.toNat (m 12 0 (40 * u + m 11 0 u.toNat - 1).toNat) (m 13 0 (40 * u + m 11 0 u.toNat - 1).toNat)) 6 0)) (Int.toNat u) ((-2)))) h42 := by rw [e43, e37]; exact (MP.up (MP.up cp31 (lm0 (by decide)) (fu (((remM ((cu (cu m 0 0 ((fu (m 0 0) 0 0))) 11 0 (fu (m 11 0) (Int.toNat u) ((m 11 0 u.toNat) - 1)))) u.toNat (m 12 0 (40 * u + m 11 0 u.toNat - 1).toNat) (m 13 0 (40 * u + m 11 0 u.toNat - 1).toNat)) 4 0)) (Int.toNat ((96 * u) + (m 12 0 (40 * u + m 11 0 u.toNat - 1).toNat))) ((m 13 0 (40 * u + m 11 0 u.toNat - 1).toNat) % 10)) rfl) (lm0 (by decide)) (fu (((remM ((cu (cu m 0 0 ((fu (m 0 0) 0 0))) 11 0 (fu (m 11 0) (Int.toNat u) ((m 11 0 u.toNat) - 1)))) u.toNat (m 12 0 (40 * u + m 11 0 u.toNat - 1).toNat) (m 13 0 (40 * u + m 11 0 u.toNat - 1).toNat)) 6 0)) (Int.toNat u) ((-2))) rfl)
      first
        | exact ⟨_, _, rfl, cp48, Or.inl (⟨rfl, by omega, (by repeat (first | exact SM.rf | refine SM.th ?_ | refine SM.rem ?_ | refine SM.o2 ?_ | refine SM.o14 ?_ | refine SM.sr ?_ | refine SM.ly (by assumption) (by assumption) ?_ | refine SM.bm ?_ | refine SM.st ?_ | refine SM.mv ?_ | refine SM.up (by decide) ?_))⟩)⟩
        | exact ⟨_, _, rfl, cp48, Or.inr (Or.inl (⟨rfl, by omega, (by repeat (first | exact SM.rf | refine SM.th ?_ | refine SM.rem ?_ | refine SM.o2 ?_ | refine SM.o14 ?_ | refine SM.sr ?_ | refine SM.ly (by assumption) (by assumption) ?_ | refine SM.bm ?_ | refine SM.st ?_ | refine SM.mv ?_ | refine SM.up (by decide) ?_))⟩))⟩
        | exact ⟨_, _, rfl, cp48, Or.inr (Or.inr (⟨rfl, by omega, by first | rfl | omega, (by repeat (first | exact SM.rf | refine SM.th ?_ | refine SM.rem ?_ | refine SM.o2 ?_ | refine SM.o14 ?_ | refine SM.sr ?_ | refine SM.ly (by assumption) (by assumption) ?_ | refine SM.bm ?_ | refine SM.st ?_ | refine SM.mv ?_ | refine SM.up (by decide) ?_))⟩))⟩
    · skip
      refine x_aload_n C dX8_redo_28 0 rfl ?_
      refine x_iconst C dX8_redo_29 2 (by decide) ?_
      have cp49 : MP D am h (cu m 0 0 ((fu (m 0 0) 0 0))) h2 := by rw [e3]; exact (MP.up (MP.rf hR) (lm0 (by decide)) ((fu (m 0 0) 0 0)) rfl)
      refine x_callV C (n := 1) (qc := (RX8, TX8, 38)) (As := [vI 2]) (rest := []) (c_X8_fails (cp49.1)) gX8_redo_X8_fails (by decide +kernel) f4 rfl rfl rfl rfl (Nat.le_of_ble_eq_true rfl) ⟨by decide, by decide⟩ ⟨(by decide), (by decide)⟩ dX8_redo_30 (fun rv50 h51 hp52 => ?_)
      obtain ⟨rfl, cp54⟩ := hp52
      have cp55 : MP D am h ((cu ((cu m 0 0 ((fu (m 0 0) 0 0)))) 0 0 ((fu (((cu m 0 0 ((fu (m 0 0) 0 0)))) 0 0) 0 2)))) h51 := MP.trans cp49 cp54
      refine x_iret C G dX8_redo_33 ?_ (by decide) (by decide)
      first
        | exact ⟨_, _, rfl, cp55, Or.inl (⟨rfl, by omega, (by repeat (first | exact SM.rf | refine SM.th ?_ | refine SM.rem ?_ | refine SM.o2 ?_ | refine SM.o14 ?_ | refine SM.sr ?_ | refine SM.ly (by assumption) (by assumption) ?_ | refine SM.bm ?_ | refine SM.st ?_ | refine SM.mv ?_ | refine SM.up (by decide) ?_))⟩)⟩
        | exact ⟨_, _, rfl, cp55, Or.inr (Or.inl (⟨rfl, by omega, (by repeat (first | exact SM.rf | refine SM.th ?_ | refine SM.rem ?_ | refine SM.o2 ?_ | refine SM.o14 ?_ | refine SM.sr ?_ | refine SM.ly (by assumption) (by assumption) ?_ | refine SM.bm ?_ | refine SM.st ?_ | refine SM.mv ?_ | refine SM.up (by decide) ?_))⟩))⟩
        | exact ⟨_, _, rfl, cp55, Or.inr (Or.inr (⟨rfl, by omega, by first | rfl | omega, (by repeat (first | exact SM.rf | refine SM.th ?_ | refine SM.rem ?_ | refine SM.o2 ?_ | refine SM.o14 ?_ | refine SM.sr ?_ | refine SM.ly (by assumption) (by assumption) ?_ | refine SM.bm ?_ | refine SM.st ?_ | refine SM.mv ?_ | refine SM.up (by decide) ?_))⟩))⟩
  · skip
    refine x_aload_n C dX8_redo_13 0 rfl ?_
    refine x_iconst C dX8_redo_14 1 (by decide) ?_
    have cp56 : MP D am h (cu m 0 0 ((fu (m 0 0) 0 0))) h2 := by rw [e3]; exact (MP.up (MP.rf hR) (lm0 (by decide)) ((fu (m 0 0) 0 0)) rfl)
    refine x_callV C (n := 1) (qc := (RX8, TX8, 38)) (As := [vI 1]) (rest := []) (c_X8_fails (cp56.1)) gX8_redo_X8_fails (by decide +kernel) f4 rfl rfl rfl rfl (Nat.le_of_ble_eq_true rfl) ⟨by decide, by decide⟩ ⟨(by decide), (by decide)⟩ dX8_redo_15 (fun rv57 h58 hp59 => ?_)
    obtain ⟨rfl, cp61⟩ := hp59
    have cp62 : MP D am h ((cu ((cu m 0 0 ((fu (m 0 0) 0 0)))) 0 0 ((fu (((cu m 0 0 ((fu (m 0 0) 0 0)))) 0 0) 0 1)))) h58 := MP.trans cp56 cp61
    refine x_iret C G dX8_redo_18 ?_ (by decide) (by decide)
    first
      | exact ⟨_, _, rfl, cp62, Or.inl (⟨rfl, by omega, (by repeat (first | exact SM.rf | refine SM.th ?_ | refine SM.rem ?_ | refine SM.o2 ?_ | refine SM.o14 ?_ | refine SM.sr ?_ | refine SM.ly (by assumption) (by assumption) ?_ | refine SM.bm ?_ | refine SM.st ?_ | refine SM.mv ?_ | refine SM.up (by decide) ?_))⟩)⟩
      | exact ⟨_, _, rfl, cp62, Or.inr (Or.inl (⟨rfl, by omega, (by repeat (first | exact SM.rf | refine SM.th ?_ | refine SM.rem ?_ | refine SM.o2 ?_ | refine SM.o14 ?_ | refine SM.sr ?_ | refine SM.ly (by assumption) (by assumption) ?_ | refine SM.bm ?_ | refine SM.st ?_ | refine SM.mv ?_ | refine SM.up (by decide) ?_))⟩))⟩
      | exact ⟨_, _, rfl, cp62, Or.inr (Or.inr (⟨rfl, by omega, by first | rfl | omega, (by repeat (first | exact SM.rf | refine SM.th ?_ | refine SM.rem ?_ | refine SM.o2 ?_ | refine SM.o14 ?_ | refine SM.sr ?_ | refine SM.ly (by assumption) (by assumption) ?_ | refine SM.bm ?_ | refine SM.st ?_ | refine SM.mv ?_ | refine SM.up (by decide) ?_))⟩))⟩

theorem kX8_isInLevel_0 : Cond.fieldLink "LedgeLevelsModel" 16 "LedgeLevelsModel" "grid" "[I" ∈ wsX8_isInLevel := by decide +kernel
theorem kX8_isInLevel_1 : ∀ w ∈ wsX80, w ∈ wsX8_isInLevel := by decide +kernel
set_option maxRecDepth 100000 in
set_option maxHeartbeats 1000000 in
theorem c_X8_isInLevel {l : Launch} {D : va_G} {A : Nat → Prop} {h : vh} {am : AD} {m : CS} {u k : Int}  (hR : RepM D am m h) (hu : 0 ≤ u ∧ u < 12) (hi_k : -2147483648 ≤ k ∧ k ≤ 2147483647) (hg9 : ∀ j : Nat, j < 96 → 0 ≤ m 4 0 (96 * u.toNat + j) ∧ m 4 0 (96 * u.toNat + j) ≤ 8) : MX l D A yX8_isInLevel wsX8_isInLevel { frames := 0, cells := 0, slots := 0, locals := 0 } [.ref (am 0 0), vI u, vI k] h (fun rv h' => rv = some (vI (bI (∃ x, x < 96 ∧ m 4 0 (96 * u.toNat + x) = k))) ∧ h' = h) := by
  refine MX.of (cc := cX8_isInLevel) (maxL := 5) (ret := (some .boolean)) [(0, .ref (am 0 0)), (1, vI u), (2, vI k)] (by decide +kernel) rfl rfl (Nat.le_of_ble_eq_true rfl) ?_
  intro κ C hkl G
  subst hkl
  have C : CX κ "LedgeLevelsModel" "isInLevel" cX8_isInLevel wsX8_isInLevel { frames := 0, cells := 0, slots := 0, locals := 0 } D A 5 := C
  have hiz : nq (D.1 20) (D.1 21) := cx_iz C
  refine x_iconst C dX8_isInLevel_0 0 (by decide) ?_
  refine x_topv (show 0 = bI (∃ x, x < 0 ∧ m 4 0 (96 * u.toNat + x) = k) from by exact (bI_f (fun ⟨x, a, _⟩ => absurd a (Nat.not_lt_zero _))).symm) ?_
  refine x_istore_n C (ls' := [(0, .ref (am 0 0)), (1, vI u), (2, vI k), (3, vI (bI (∃ x, x < 0 ∧ m 4 0 (96 * u.toNat + x) = k)))]) dX8_isInLevel_1 (by decide) rfl ?_
  refine x_iconst C dX8_isInLevel_2 0 (by decide) ?_
  refine x_istore C (ls' := [(0, .ref (am 0 0)), (1, vI u), (2, vI k), (3, vI (bI (∃ x, x < 0 ∧ m 4 0 (96 * u.toNat + x) = k))), (4, vI 0)]) dX8_isInLevel_3 (by decide) rfl ?_
  have LP : ∀ (N : Nat) (n : Nat)   (hn : n ≤ 96) (hN : 96 - n < N), X κ 0 0 h [(0, .ref (am 0 0)), (1, vI u), (2, vI k), (3, vI (bI (∃ x, x < n ∧ m 4 0 (96 * u.toNat + x) = k))), (4, vI ((n : Nat) : Int))] 5 [] := by
    intro N
    induction N with
    | zero => intro n hn hN; exfalso; omega
    | succ N ihLP =>
      intro n hn hN
      have hb5 := bI_01 (∃ x, x < n ∧ m 4 0 (96 * u.toNat + x) = k)
      refine x_iload C dX8_isInLevel_5 4 rfl ?_
      refine x_bipush C dX8_isInLevel_7 96 (by decide) ?_
      refine x_icmp_ge (tgt := 44) C dX8_isInLevel_9 (by decide) (by omega) (by omega) (fun c2 => ?_) (fun c2 => ?_)
      · skip
        refine x_iload_n C dX8_isInLevel_44 3 rfl ?_
        refine x_zret C G dX8_isInLevel_45 (bI_z _) ?_ (by decide) (by decide)
        obtain rfl : n = 96 := by omega
        exact ⟨rfl, rfl⟩
      · skip
        refine x_iload_n C dX8_isInLevel_12 3 rfl ?_
        refine x_if_ne (tgt := 32) C dX8_isInLevel_13 (by decide) (by omega) (fun c3 => ?_) (fun c3 => ?_)
        · skip
          refine x_iconst C dX8_isInLevel_32 1 (by decide) ?_
          refine x_topv (show 1 = bI (∃ x, x < n + 1 ∧ m 4 0 (96 * u.toNat + x) = k) from by first | exact (bI_t ⟨n, by omega, by assumption⟩).symm | exact (bI_t (by obtain ⟨x, a1, a2⟩ := bI_ne.mp (by assumption); exact ⟨x, by omega, a2⟩)).symm) ?_
          refine x_goto (tgt := 37) C dX8_isInLevel_33 (by decide) ?_
          refine x_istore_n C (ls' := [(0, .ref (am 0 0)), (1, vI u), (2, vI k), (3, vI (bI (∃ x, x < n + 1 ∧ m 4 0 (96 * u.toNat + x) = k))), (4, vI ((n : Nat) : Int))]) dX8_isInLevel_37 (by decide) rfl ?_
          refine x_iinc C (x := ((n : Nat) : Int)) (ls' := [(0, .ref (am 0 0)), (1, vI u), (2, vI k), (3, vI (bI (∃ x, x < n + 1 ∧ m 4 0 (96 * u.toNat + x) = k))), (4, vI ((((n : Nat) : Int)) + 1))]) dX8_isInLevel_38 4 rfl (by decide) rfl ?_
          refine x_goto (tgt := 5) C dX8_isInLevel_41 (by decide) ?_
          exact ihLP (n + 1) (by omega) (by omega)
        · skip
          have hg8 := hg9 n (by omega)
          refine x_aload_n C dX8_isInLevel_16 0 rfl ?_
          have f4 : h (am 0 0) = some (eO 8 [vI (m 0 0 0), .ref (am 1 0), vI (m 0 0 2), .ref (am 3 0), .ref (am 4 0), .ref (am 5 0), .ref (am 6 0), .ref (am 7 0), .ref (am 8 0), .ref (am 9 0), .ref (am 10 0), .ref (am 11 0), .ref (am 12 0), .ref (am 13 0), vI (m 0 0 14), .ref (am 15 0), .ref (am 16 0), .ref (am 17 0), .ref (am 18 0), .ref (am 19 0), .ref (am 20 0), .ref (am 21 0), .ref (am 22 0), .ref (am 23 0), .ref (am 24 0), .ref (am 25 0), .ref (am 26 0), .ref (am 27 0), .ref (am 28 0), .ref (am 29 0), vI (((m 0 0 30).toNat : Nat) : Int), vI (m 0 0 31), vI (m 0 0 32), vI (((m 0 0 33).toNat : Nat) : Int), vI (m 0 0 34), .ref (am 35 0), .ref (am 36 0), .ref (am 37 0)]) := hR.1 0 0 (lm0 (by decide))
          refine x_get C (v := .ref (am 4 0)) f4 (T := TX8) rfl kX8_isInLevel_1 4 (by decide) kX8_isInLevel_0 rfl dX8_isInLevel_17 ?_
          refine x_bipush C dX8_isInLevel_20 96 (by decide) ?_
          refine x_iload_n C dX8_isInLevel_22 1 rfl ?_
          refine x_imul C dX8_isInLevel_23 ?_
          refine x_iload C dX8_isInLevel_24 4 rfl ?_
          refine x_iadd C dX8_isInLevel_26 ?_
          have f5 : h (am 4 0) = some (eI D 1152 (m 4 0)) := hR.1 4 0 (lm0 (by decide))
          refine x_iald C f5 ⟨by omega, by omega⟩ (by decide) dX8_isInLevel_27 ?_
          refine x_topv (show (m 4 0) (Int.toNat ((96 * u) + (((n : Nat) : Int)))) = m 4 0 (96 * u.toNat + n) from by rw [show Int.toNat (96 * u + ((n : Nat) : Int)) = 96 * u.toNat + n by omega]) ?_
          refine x_iload_n C dX8_isInLevel_28 2 rfl ?_
          refine x_icmp_ne (tgt := 36) C dX8_isInLevel_29 (by decide) (by omega) (by omega) (fun c6 => ?_) (fun c6 => ?_)
          · skip
            refine x_iconst C dX8_isInLevel_36 0 (by decide) ?_
            refine x_topv (show 0 = bI (∃ x, x < n + 1 ∧ m 4 0 (96 * u.toNat + x) = k) from by exact (bI_f (fun z9 => by obtain ⟨x, a1, a2⟩ := z9; exact (show x < n ∨ x = n by omega).elim (fun q => absurd (bI_t (p := ∃ x, x < n ∧ m 4 0 (96 * u.toNat + x) = k) ⟨x, q, a2⟩) (by omega)) (fun q => by subst q; contradiction))).symm) ?_
            refine x_istore_n C (ls' := [(0, .ref (am 0 0)), (1, vI u), (2, vI k), (3, vI (bI (∃ x, x < n + 1 ∧ m 4 0 (96 * u.toNat + x) = k))), (4, vI ((n : Nat) : Int))]) dX8_isInLevel_37 (by decide) rfl ?_
            refine x_iinc C (x := ((n : Nat) : Int)) (ls' := [(0, .ref (am 0 0)), (1, vI u), (2, vI k), (3, vI (bI (∃ x, x < n + 1 ∧ m 4 0 (96 * u.toNat + x) = k))), (4, vI ((((n : Nat) : Int)) + 1))]) dX8_isInLevel_38 4 rfl (by decide) rfl ?_
            refine x_goto (tgt := 5) C dX8_isInLevel_41 (by decide) ?_
            exact ihLP (n + 1) (by omega) (by omega)
          · skip
            refine x_iconst C dX8_isInLevel_32 1 (by decide) ?_
            refine x_topv (show 1 = bI (∃ x, x < n + 1 ∧ m 4 0 (96 * u.toNat + x) = k) from by first | exact (bI_t ⟨n, by omega, by assumption⟩).symm | exact (bI_t (by obtain ⟨x, a1, a2⟩ := bI_ne.mp (by assumption); exact ⟨x, by omega, a2⟩)).symm) ?_
            refine x_goto (tgt := 37) C dX8_isInLevel_33 (by decide) ?_
            refine x_istore_n C (ls' := [(0, .ref (am 0 0)), (1, vI u), (2, vI k), (3, vI (bI (∃ x, x < n + 1 ∧ m 4 0 (96 * u.toNat + x) = k))), (4, vI ((n : Nat) : Int))]) dX8_isInLevel_37 (by decide) rfl ?_
            refine x_iinc C (x := ((n : Nat) : Int)) (ls' := [(0, .ref (am 0 0)), (1, vI u), (2, vI k), (3, vI (bI (∃ x, x < n + 1 ∧ m 4 0 (96 * u.toNat + x) = k))), (4, vI ((((n : Nat) : Int)) + 1))]) dX8_isInLevel_38 4 rfl (by decide) rfl ?_
            refine x_goto (tgt := 5) C dX8_isInLevel_41 (by decide) ?_
            exact ihLP (n + 1) (by omega) (by omega)
  exact LP (97) 0 (by omega) (by omega)

theorem kX8_isInWork_0 : Cond.fieldLink "LedgeLevelsModel" 49 "LedgeLevelsModel" "shape" "[I" ∈ wsX8_isInWork := by decide +kernel
theorem kX8_isInWork_1 : ∀ w ∈ wsX80, w ∈ wsX8_isInWork := by decide +kernel
set_option maxRecDepth 100000 in
set_option maxHeartbeats 1000000 in
theorem c_X8_isInWork {l : Launch} {D : va_G} {A : Nat → Prop} {h : vh} {am : AD} {m : CS} {u k : Int}  (hR : RepM D am m h) (hu : 0 ≤ u ∧ u < 20) (hi_k : -2147483648 ≤ k ∧ k ≤ 2147483647) (hg9 : ∀ j : Nat, j < 96 → 0 ≤ m 16 0 (96 * u.toNat + j) ∧ m 16 0 (96 * u.toNat + j) ≤ 8) : MX l D A yX8_isInWork wsX8_isInWork { frames := 0, cells := 0, slots := 0, locals := 0 } [.ref (am 0 0), vI u, vI k] h (fun rv h' => rv = some (vI (bI (∃ x, x < 96 ∧ m 16 0 (96 * u.toNat + x) = k))) ∧ h' = h) := by
  refine MX.of (cc := cX8_isInWork) (maxL := 5) (ret := (some .boolean)) [(0, .ref (am 0 0)), (1, vI u), (2, vI k)] (by decide +kernel) rfl rfl (Nat.le_of_ble_eq_true rfl) ?_
  intro κ C hkl G
  subst hkl
  have C : CX κ "LedgeLevelsModel" "isInWork" cX8_isInWork wsX8_isInWork { frames := 0, cells := 0, slots := 0, locals := 0 } D A 5 := C
  have hiz : nq (D.1 20) (D.1 21) := cx_iz C
  refine x_iconst C dX8_isInWork_0 0 (by decide) ?_
  refine x_topv (show 0 = bI (∃ x, x < 0 ∧ m 16 0 (96 * u.toNat + x) = k) from by exact (bI_f (fun ⟨x, a, _⟩ => absurd a (Nat.not_lt_zero _))).symm) ?_
  refine x_istore_n C (ls' := [(0, .ref (am 0 0)), (1, vI u), (2, vI k), (3, vI (bI (∃ x, x < 0 ∧ m 16 0 (96 * u.toNat + x) = k)))]) dX8_isInWork_1 (by decide) rfl ?_
  refine x_iconst C dX8_isInWork_2 0 (by decide) ?_
  refine x_istore C (ls' := [(0, .ref (am 0 0)), (1, vI u), (2, vI k), (3, vI (bI (∃ x, x < 0 ∧ m 16 0 (96 * u.toNat + x) = k))), (4, vI 0)]) dX8_isInWork_3 (by decide) rfl ?_
  have LP : ∀ (N : Nat) (n : Nat)   (hn : n ≤ 96) (hN : 96 - n < N), X κ 0 0 h [(0, .ref (am 0 0)), (1, vI u), (2, vI k), (3, vI (bI (∃ x, x < n ∧ m 16 0 (96 * u.toNat + x) = k))), (4, vI ((n : Nat) : Int))] 5 [] := by
    intro N
    induction N with
    | zero => intro n hn hN; exfalso; omega
    | succ N ihLP =>
      intro n hn hN
      have hb5 := bI_01 (∃ x, x < n ∧ m 16 0 (96 * u.toNat + x) = k)
      refine x_iload C dX8_isInWork_5 4 rfl ?_
      refine x_bipush C dX8_isInWork_7 96 (by decide) ?_
      refine x_icmp_ge (tgt := 44) C dX8_isInWork_9 (by decide) (by omega) (by omega) (fun c2 => ?_) (fun c2 => ?_)
      · skip
        refine x_iload_n C dX8_isInWork_44 3 rfl ?_
        refine x_zret C G dX8_isInWork_45 (bI_z _) ?_ (by decide) (by decide)
        obtain rfl : n = 96 := by omega
        exact ⟨rfl, rfl⟩
      · skip
        refine x_iload_n C dX8_isInWork_12 3 rfl ?_
        refine x_if_ne (tgt := 32) C dX8_isInWork_13 (by decide) (by omega) (fun c3 => ?_) (fun c3 => ?_)
        · skip
          refine x_iconst C dX8_isInWork_32 1 (by decide) ?_
          refine x_topv (show 1 = bI (∃ x, x < n + 1 ∧ m 16 0 (96 * u.toNat + x) = k) from by first | exact (bI_t ⟨n, by omega, by assumption⟩).symm | exact (bI_t (by obtain ⟨x, a1, a2⟩ := bI_ne.mp (by assumption); exact ⟨x, by omega, a2⟩)).symm) ?_
          refine x_goto (tgt := 37) C dX8_isInWork_33 (by decide) ?_
          refine x_istore_n C (ls' := [(0, .ref (am 0 0)), (1, vI u), (2, vI k), (3, vI (bI (∃ x, x < n + 1 ∧ m 16 0 (96 * u.toNat + x) = k))), (4, vI ((n : Nat) : Int))]) dX8_isInWork_37 (by decide) rfl ?_
          refine x_iinc C (x := ((n : Nat) : Int)) (ls' := [(0, .ref (am 0 0)), (1, vI u), (2, vI k), (3, vI (bI (∃ x, x < n + 1 ∧ m 16 0 (96 * u.toNat + x) = k))), (4, vI ((((n : Nat) : Int)) + 1))]) dX8_isInWork_38 4 rfl (by decide) rfl ?_
          refine x_goto (tgt := 5) C dX8_isInWork_41 (by decide) ?_
          exact ihLP (n + 1) (by omega) (by omega)
        · skip
          have hg8 := hg9 n (by omega)
          refine x_aload_n C dX8_isInWork_16 0 rfl ?_
          have f4 : h (am 0 0) = some (eO 8 [vI (m 0 0 0), .ref (am 1 0), vI (m 0 0 2), .ref (am 3 0), .ref (am 4 0), .ref (am 5 0), .ref (am 6 0), .ref (am 7 0), .ref (am 8 0), .ref (am 9 0), .ref (am 10 0), .ref (am 11 0), .ref (am 12 0), .ref (am 13 0), vI (m 0 0 14), .ref (am 15 0), .ref (am 16 0), .ref (am 17 0), .ref (am 18 0), .ref (am 19 0), .ref (am 20 0), .ref (am 21 0), .ref (am 22 0), .ref (am 23 0), .ref (am 24 0), .ref (am 25 0), .ref (am 26 0), .ref (am 27 0), .ref (am 28 0), .ref (am 29 0), vI (((m 0 0 30).toNat : Nat) : Int), vI (m 0 0 31), vI (m 0 0 32), vI (((m 0 0 33).toNat : Nat) : Int), vI (m 0 0 34), .ref (am 35 0), .ref (am 36 0), .ref (am 37 0)]) := hR.1 0 0 (lm0 (by decide))
          refine x_get C (v := .ref (am 16 0)) f4 (T := TX8) rfl kX8_isInWork_1 16 (by decide) kX8_isInWork_0 rfl dX8_isInWork_17 ?_
          refine x_bipush C dX8_isInWork_20 96 (by decide) ?_
          refine x_iload_n C dX8_isInWork_22 1 rfl ?_
          refine x_imul C dX8_isInWork_23 ?_
          refine x_iload C dX8_isInWork_24 4 rfl ?_
          refine x_iadd C dX8_isInWork_26 ?_
          have f5 : h (am 16 0) = some (eI D 1920 (m 16 0)) := hR.1 16 0 (lm0 (by decide))
          refine x_iald C f5 ⟨by omega, by omega⟩ (by decide) dX8_isInWork_27 ?_
          refine x_topv (show (m 16 0) (Int.toNat ((96 * u) + (((n : Nat) : Int)))) = m 16 0 (96 * u.toNat + n) from by rw [show Int.toNat (96 * u + ((n : Nat) : Int)) = 96 * u.toNat + n by omega]) ?_
          refine x_iload_n C dX8_isInWork_28 2 rfl ?_
          refine x_icmp_ne (tgt := 36) C dX8_isInWork_29 (by decide) (by omega) (by omega) (fun c6 => ?_) (fun c6 => ?_)
          · skip
            refine x_iconst C dX8_isInWork_36 0 (by decide) ?_
            refine x_topv (show 0 = bI (∃ x, x < n + 1 ∧ m 16 0 (96 * u.toNat + x) = k) from by exact (bI_f (fun z9 => by obtain ⟨x, a1, a2⟩ := z9; exact (show x < n ∨ x = n by omega).elim (fun q => absurd (bI_t (p := ∃ x, x < n ∧ m 16 0 (96 * u.toNat + x) = k) ⟨x, q, a2⟩) (by omega)) (fun q => by subst q; contradiction))).symm) ?_
            refine x_istore_n C (ls' := [(0, .ref (am 0 0)), (1, vI u), (2, vI k), (3, vI (bI (∃ x, x < n + 1 ∧ m 16 0 (96 * u.toNat + x) = k))), (4, vI ((n : Nat) : Int))]) dX8_isInWork_37 (by decide) rfl ?_
            refine x_iinc C (x := ((n : Nat) : Int)) (ls' := [(0, .ref (am 0 0)), (1, vI u), (2, vI k), (3, vI (bI (∃ x, x < n + 1 ∧ m 16 0 (96 * u.toNat + x) = k))), (4, vI ((((n : Nat) : Int)) + 1))]) dX8_isInWork_38 4 rfl (by decide) rfl ?_
            refine x_goto (tgt := 5) C dX8_isInWork_41 (by decide) ?_
            exact ihLP (n + 1) (by omega) (by omega)
          · skip
            refine x_iconst C dX8_isInWork_32 1 (by decide) ?_
            refine x_topv (show 1 = bI (∃ x, x < n + 1 ∧ m 16 0 (96 * u.toNat + x) = k) from by first | exact (bI_t ⟨n, by omega, by assumption⟩).symm | exact (bI_t (by obtain ⟨x, a1, a2⟩ := bI_ne.mp (by assumption); exact ⟨x, by omega, a2⟩)).symm) ?_
            refine x_goto (tgt := 37) C dX8_isInWork_33 (by decide) ?_
            refine x_istore_n C (ls' := [(0, .ref (am 0 0)), (1, vI u), (2, vI k), (3, vI (bI (∃ x, x < n + 1 ∧ m 16 0 (96 * u.toNat + x) = k))), (4, vI ((n : Nat) : Int))]) dX8_isInWork_37 (by decide) rfl ?_
            refine x_iinc C (x := ((n : Nat) : Int)) (ls' := [(0, .ref (am 0 0)), (1, vI u), (2, vI k), (3, vI (bI (∃ x, x < n + 1 ∧ m 16 0 (96 * u.toNat + x) = k))), (4, vI ((((n : Nat) : Int)) + 1))]) dX8_isInWork_38 4 rfl (by decide) rfl ?_
            refine x_goto (tgt := 5) C dX8_isInWork_41 (by decide) ?_
            exact ihLP (n + 1) (by omega) (by omega)
  exact LP (97) 0 (by omega) (by omega)


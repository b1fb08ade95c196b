theorem cu_k {c : CS} {k i k' i' : Nat} {f : Nat → Int} (n : k' ≠ k) : cu c k i f k' i' = c k' i' := cu_n (fun z => n z.1)
/-- the runs of the first n persons that go on a work end -/
def erN (c : CS) (x : Nat) : Nat → CS
  | 0 => c
  | n + 1 => if c 23 n 1 = (x : Int) + 1 ∧ c 23 n 2 = 1 then cu (erN c x n) 23 n (oF [0, (x : Int) + 1, 4, c 23 n 3]) else erN c x n
def erU (c : CS) (x : Nat) : CS := if 0 ≤ c 18 x 6 then c else erN c x 6
theorem erN_k {c : CS} {x : Nat} {k i : Nat} (h : k ≠ 23) : ∀ n, erN c x n k i = c k i
  | 0 => rfl
  | n + 1 => by
    unfold erN; split
    · rw [cu_k h]; exact erN_k h n
    · exact erN_k h n
theorem erN_i {c : CS} {x : Nat} {i : Nat} : ∀ n, n ≤ i → erN c x n 23 i = c 23 i
  | 0, _ => rfl
  | n + 1, h => by
    unfold erN; split
    · rw [cu_n (by omega)]; exact erN_i n (by omega)
    · exact erN_i n (by omega)
theorem Ok1.er {c : CS} {L W x n : Nat} (h : Ok1 c L W) : Ok1 (erN c x n) L W := by
  unfold Ok1 at h ⊢
  rw [erN_k (by decide), erN_k (by decide), erN_k (by decide), erN_k (by decide)]; exact h

theorem kX7_endRunsIfWithdrawn_0 : Cond.fieldLinkNest "LedgeLevels" 156 "LedgeLevels$Work" "best" "I" "LedgeLevels" ∈ nwAll := by decide +kernel
theorem kX7_endRunsIfWithdrawn_1 : ∀ w ∈ wsX60, w ∈ wsX7_endRunsIfWithdrawn := by decide +kernel
theorem kX7_endRunsIfWithdrawn_2 : Cond.fieldLinkNest "LedgeLevels" 290 "LedgeLevels$Run" "work" "LLedgeLevels$Work;" "LedgeLevels" ∈ nwAll := by decide +kernel
theorem kX7_endRunsIfWithdrawn_3 : ∀ w ∈ wsX40, w ∈ wsX7_endRunsIfWithdrawn := by decide +kernel
theorem kX7_endRunsIfWithdrawn_4 : Cond.fieldLinkNest "LedgeLevels" 202 "LedgeLevels$Run" "state" "I" "LedgeLevels" ∈ nwAll := by decide +kernel
set_option maxRecDepth 100000 in
set_option maxHeartbeats 1000000 in
theorem c_X7_endRunsIfWithdrawn {l : Launch} {D : va_G} {A : Nat → Prop} {h : vh} {ad : AD} {c : CS} {L W : Nat} {x : Nat}  (hR : RepC D ad c L W h) (hO1 : Ok1 c L W) (hx : x < W) (hb : -1 ≤ c 18 x 6 ∧ c 18 x 6 ≤ 7000) (hrn : ∀ p, p < 6 → (0 ≤ c 23 p 1 ∧ c 23 p 1 ≤ (W : Int)) ∧ (0 ≤ c 23 p 2 ∧ c 23 p 2 ≤ 4)) : TX l D A yX7_endRunsIfWithdrawn wsX7_endRunsIfWithdrawn { frames := 7, cells := 6, slots := 36, locals := 112 } [.ref (ad 0 0), .ref (ad 18 x)] h (fun rv h' => rv = none ∧ CP D ad L W h (erU c x) h') (XP False False False h) := by
  refine TX.of (cc := cX7_endRunsIfWithdrawn) (maxL := 4) (ret := none) [(0, .ref (ad 0 0)), (1, .ref (ad 18 x))] (by decide +kernel) rfl rfl (Nat.le_of_ble_eq_true rfl) ?_
  intro κ C hkl G GT
  subst hkl
  have C : CX κ "LedgeLevels" "endRunsIfWithdrawn" cX7_endRunsIfWithdrawn wsX7_endRunsIfWithdrawn { frames := 7, cells := 6, slots := 36, locals := 112 } D A 4 := C
  have hiz : nq (D.1 20) (D.1 21) := cx_iz C
  obtain ⟨o1, o2, o3, o4, o5, o6, o7⟩ := id hO1
  refine x_aload_n C dX7_endRunsIfWithdrawn_0 1 rfl ?_
  have f1 : h (ad 18 x) = some (eO 6 [vI (c 18 x 0), vI (c 18 x 1), va_rf (prf ad (c 18 x 2)), .ref (ad 19 x), vI (c 18 x 4), .ref (ad 22 x), vI (c 18 x 6), vI (c 18 x 7)]) := hR.1 18 x (lvW (by decide) (by omega))
  refine x_getN (host := "LedgeLevels") C (v := vI (c 18 x 6)) f1 (T := TX6) rfl kX7_endRunsIfWithdrawn_1 6 (by decide) kX7_endRunsIfWithdrawn_0 rfl dX7_endRunsIfWithdrawn_1 ?_
  refine x_if_lt (tgt := 8) C dX7_endRunsIfWithdrawn_4 (by decide) (by omega) (fun c2 => ?_) (fun c2 => ?_)
  · skip
    refine x_iconst C dX7_endRunsIfWithdrawn_8 0 (by decide) ?_
    refine x_istore_n C (ls' := [(0, .ref (ad 0 0)), (1, .ref (ad 18 x)), (2, vI 0)]) dX7_endRunsIfWithdrawn_9 (by decide) rfl ?_
    have LP : ∀ (N : Nat) (k : Nat) (h3 : vh)   (hk : k ≤ 6) (hm : 6 - k < N) (hcp : CP D ad L W h (erN c x k) h3), X κ k (6 * k) h3 [(0, .ref (ad 0 0)), (1, .ref (ad 18 x)), (2, vI ((k : Nat) : Int))] 10 [] := by
      intro N
      induction N with
      | zero => intro k h3 hk hm hcp; exfalso; omega
      | succ N ihLP =>
        intro k h3 hk hm hcp
        have he9 : erN c x k 23 k = c 23 k := erN_i k (Nat.le_refl _)
        have hrk := hrn k
        refine x_iload_n C dX7_endRunsIfWithdrawn_10 2 rfl ?_
        refine x_bipush C dX7_endRunsIfWithdrawn_11 6 (by decide) ?_
        refine x_icmp_ge (tgt := 49) C dX7_endRunsIfWithdrawn_13 (by decide) (by omega) (by omega) (fun c4 => ?_) (fun c4 => ?_)
        · skip
          refine x_vret C G dX7_endRunsIfWithdrawn_49 ?_ (by first | omega | (dsimp only; omega)) (by first | omega | (dsimp only; omega))
          obtain rfl : k = 6 := by omega
          exact ⟨rfl, by unfold erU; rw [if_neg (by omega)]; exact hcp⟩
        · skip
          refine x_aload_n C dX7_endRunsIfWithdrawn_16 0 rfl ?_
          refine x_iload_n C dX7_endRunsIfWithdrawn_17 2 rfl ?_
          have f5 : h3 (ad 0 0) = some (eO 7 [.ref (ad 1 0), .ref (ad 2 0), .ref (ad 3 0), .ref (ad 4 0), .ref (ad 5 0), vI (((erN c x k) 0 0) 5), vI (((erN c x k) 0 0) 6)]) := hcp.1.1 0 0 (lv0 (by decide))
          refine x_callVt C (n := 1) (qc := (RX7, TX7, 7)) (As := [vI ((k : Nat) : Int)]) (rest := []) (c_X7_runOf (hcp.1) (Ok1.er hO1) (by omega)) gX7_endRunsIfWithdrawn_X7_runOf (by decide +kernel) f5 rfl rfl rfl rfl (Nat.le_of_ble_eq_true rfl) ⟨by decide, by decide⟩ ⟨(by first | omega | (dsimp only; omega)), (by first | omega | (dsimp only; omega))⟩ dX7_endRunsIfWithdrawn_18 GT (by first | omega | (dsimp only; omega)) (by first | omega | (dsimp only; omega)) (fun E h9 hx9 => XP.imp (h := h) ⟨by obtain ⟨q8, q9⟩ := hx9; rcases q9 with ⟨q6, q7⟩ | ⟨q6, q7⟩ | ⟨q6, q7⟩ <;> (exfalso; first | exact q7 | omega), hx9.2⟩ (fun z9 => by first | exact z9.elim | omega) (fun z9 => by first | exact z9.elim | omega) (fun z9 => by first | exact z9.elim | omega)) (fun rv6 h7 hp8 => ?_)
          obtain ⟨rfl, e9, hp_18⟩ := hp8
          obtain rfl := e9.symm
          refine x_astore_n C (ls' := [(0, .ref (ad 0 0)), (1, .ref (ad 18 x)), (2, vI ((k : Nat) : Int)), (3, .ref (ad 23 k))]) dX7_endRunsIfWithdrawn_21 (by decide) rfl ?_
          have f10 : h3 (ad 23 k) = some (eO 4 [.ref (ad 24 k), va_rf (prf ad (((erN c x k) 23 k) 1)), vI (((erN c x k) 23 k) 2), vI (((erN c x k) 23 k) 3)]) := hcp.1.1 23 k (lvR (by decide) (by omega))
          have f11 : h3 (ad 23 k) = some (eO 4 [.ref (ad 24 k), va_rf (prf ad (c 23 k 1)), vI (c 23 k 2), vI (c 23 k 3)]) := by have q9 := f10; rw [he9] at q9; exact q9
          refine x_aload_n C dX7_endRunsIfWithdrawn_22 3 rfl ?_
          refine x_getN (host := "LedgeLevels") C (v := va_rf (prf ad (c 23 k 1))) f11 (T := TX4) rfl kX7_endRunsIfWithdrawn_3 1 (by decide) kX7_endRunsIfWithdrawn_2 rfl dX7_endRunsIfWithdrawn_23 ?_
          rcases prf_or (ad := ad) (show 0 ≤ c 23 k 1 from (hrk (by omega)).1.1) with ⟨hz, hq⟩ | ⟨y, hz, hq⟩
          · skip
            refine x_rf_n hq ?_
            refine x_aload_n C dX7_endRunsIfWithdrawn_26 1 rfl ?_
            refine x_acmp_neN (tgt := 43) C dX7_endRunsIfWithdrawn_27 (by decide) ?_
            refine x_iinc C (x := ((k : Nat) : Int)) (ls' := [(0, .ref (ad 0 0)), (1, .ref (ad 18 x)), (2, vI ((((k : Nat) : Int)) + 1)), (3, .ref (ad 23 k))]) dX7_endRunsIfWithdrawn_43 2 rfl (by decide) rfl ?_
            refine x_goto (tgt := 10) C dX7_endRunsIfWithdrawn_46 (by decide) ?_
            refine x_sub [0, 1, 2] (ls' := [(0, .ref (ad 0 0)), (1, .ref (ad 18 x)), (2, vI ((((k : Nat) : Int)) + 1))]) rfl ?_
            refine x_widen (m1 := (k + 1)) (m2 := 6 * (k + 1)) (by first | omega | (dsimp only; omega)) (by first | omega | (dsimp only; omega)) ?_
            exact ihLP (k + 1) h3 (by omega) (by omega) (by rw [show erN c x (k + 1) = erN c x k from if_neg (fun z9 => by omega)]; exact hcp)
          · skip
            refine x_rf_s hq ?_
            refine x_aload_n C dX7_endRunsIfWithdrawn_26 1 rfl ?_
            refine x_acmp_ne (tgt := 43) C dX7_endRunsIfWithdrawn_27 (by decide) (fun c12 => ?_) (fun c12 => ?_)
            · skip
              have hne : ¬ y = x := fun z9 => c12 (congrArg (ad 18) z9)
              refine x_iinc C (x := ((k : Nat) : Int)) (ls' := [(0, .ref (ad 0 0)), (1, .ref (ad 18 x)), (2, vI ((((k : Nat) : Int)) + 1)), (3, .ref (ad 23 k))]) dX7_endRunsIfWithdrawn_43 2 rfl (by decide) rfl ?_
              refine x_goto (tgt := 10) C dX7_endRunsIfWithdrawn_46 (by decide) ?_
              refine x_sub [0, 1, 2] (ls' := [(0, .ref (ad 0 0)), (1, .ref (ad 18 x)), (2, vI ((((k : Nat) : Int)) + 1))]) rfl ?_
              refine x_widen (m1 := (k + 1)) (m2 := 6 * (k + 1)) (by first | omega | (dsimp only; omega)) (by first | omega | (dsimp only; omega)) ?_
              exact ihLP (k + 1) h3 (by omega) (by omega) (by rw [show erN c x (k + 1) = erN c x k from if_neg (fun z9 => by omega)]; exact hcp)
            · skip
              have heq : y = x := (hcp.1.2 18 y 18 x (lvW (by decide) (by omega)) (lvW (by decide) hx) c12).2
              refine x_aload_n C dX7_endRunsIfWithdrawn_30 3 rfl ?_
              refine x_getN (host := "LedgeLevels") C (v := vI (c 23 k 2)) f11 (T := TX4) rfl kX7_endRunsIfWithdrawn_3 2 (by decide) kX7_endRunsIfWithdrawn_4 rfl dX7_endRunsIfWithdrawn_31 ?_
              refine x_iconst C dX7_endRunsIfWithdrawn_34 1 (by decide) ?_
              refine x_icmp_ne (tgt := 43) C dX7_endRunsIfWithdrawn_35 (by decide) (by omega) (by omega) (fun c13 => ?_) (fun c13 => ?_)
              · skip
                refine x_iinc C (x := ((k : Nat) : Int)) (ls' := [(0, .ref (ad 0 0)), (1, .ref (ad 18 x)), (2, vI ((((k : Nat) : Int)) + 1)), (3, .ref (ad 23 k))]) dX7_endRunsIfWithdrawn_43 2 rfl (by decide) rfl ?_
                refine x_goto (tgt := 10) C dX7_endRunsIfWithdrawn_46 (by decide) ?_
                refine x_sub [0, 1, 2] (ls' := [(0, .ref (ad 0 0)), (1, .ref (ad 18 x)), (2, vI ((((k : Nat) : Int)) + 1))]) rfl ?_
                refine x_widen (m1 := (k + 1)) (m2 := 6 * (k + 1)) (by first | omega | (dsimp only; omega)) (by first | omega | (dsimp only; omega)) ?_
                exact ihLP (k + 1) h3 (by omega) (by omega) (by rw [show erN c x (k + 1) = erN c x k from if_neg (fun z9 => by omega)]; exact hcp)
              · skip
                have f14 : h3 (ad 23 k) = some (eO 4 [.ref (ad 24 k), .ref (ad 18 y), vI (c 23 k 2), vI (c 23 k 3)]) := by have q9 := f11; rw [hq] at q9; exact q9
                refine x_aload_n C dX7_endRunsIfWithdrawn_38 3 rfl ?_
                refine x_iconst C dX7_endRunsIfWithdrawn_39 4 (by decide) ?_
                refine x_putN (host := "LedgeLevels") C f14 (T := TX4) rfl tyX4_ok nmX4 kX7_endRunsIfWithdrawn_3 2 (by decide) kX7_endRunsIfWithdrawn_4 rfl (fs' := [.ref (ad 24 k), .ref (ad 18 y), vI 4, vI (c 23 k 3)]) rfl rfl (by simp) rfl dX7_endRunsIfWithdrawn_40 (x_hn (fun h15 e16 => ?_))
                have f17 : h15 (ad 23 k) = some (eO 4 [.ref (ad 24 k), .ref (ad 18 y), vI 4, vI (c 23 k 3)]) := by rw [e16]; exact hu_s
                refine x_iinc C (x := ((k : Nat) : Int)) (ls' := [(0, .ref (ad 0 0)), (1, .ref (ad 18 x)), (2, vI ((((k : Nat) : Int)) + 1)), (3, .ref (ad 23 k))]) dX7_endRunsIfWithdrawn_43 2 rfl (by decide) rfl ?_
                refine x_goto (tgt := 10) C dX7_endRunsIfWithdrawn_46 (by decide) ?_
                refine x_sub [0, 1, 2] (ls' := [(0, .ref (ad 0 0)), (1, .ref (ad 18 x)), (2, vI ((((k : Nat) : Int)) + 1))]) rfl ?_
                have cp18 : CP D ad L W h (cu (erN c x k) 23 k (oF [0, ((y + 1 : Nat) : Int), 4, c 23 k 3])) h15 := by rw [e16]; exact (CP.up hcp (lvR (by decide) (by omega)) (oF [0, ((y + 1 : Nat) : Int), 4, c 23 k 3]) rfl)
                refine x_widen (m1 := (k + 1)) (m2 := 6 * (k + 1)) (by first | omega | (dsimp only; omega)) (by first | omega | (dsimp only; omega)) ?_
                exact ihLP (k + 1) h15 (by omega) (by omega) (by rw [show erN c x (k + 1) = cu (erN c x k) 23 k (oF [0, (x : Int) + 1, 4, c 23 k 3]) from if_pos ⟨by rw [hz, heq], by assumption⟩]; have q9 := cp18; rw [heq] at q9; exact q9)
    exact LP (7) 0 h (by omega) (by omega) (CP.rf hR)
  · skip
    refine x_vret C G dX7_endRunsIfWithdrawn_7 ?_ (by decide) (by decide)
    exact ⟨rfl, by unfold erU; rw [if_pos (by omega)]; exact CP.rf hR⟩

/-- the proofs of the first n levels that hold a spring of a kind are void; how many were -/
noncomputable def vpB (c : CS) (s : Int) (n : Nat) : Int := if c 10 n 5 = -2 then 0 else bI (∃ x, x < 96 ∧ c 12 n x = s)
noncomputable def vpN (c : CS) (s : Int) : Nat → CS
  | 0 => c
  | n + 1 => if vpB c s n = 0 then vpN c s n else cu (vpN c s n) 10 n (oF [c 10 n 0, c 10 n 1, 0, 0, c 10 n 4, -2])
theorem vpN_k {c : CS} {s : Int} {k i : Nat} (h : k ≠ 10) : ∀ n, vpN c s n k i = c k i
  | 0 => rfl
  | n + 1 => by
    unfold vpN; split
    · exact vpN_k h n
    · rw [cu_k h]; exact vpN_k h n
theorem vpN_i {c : CS} {s : Int} {i : Nat} : ∀ n, n ≤ i → vpN c s n 10 i = c 10 i
  | 0, _ => rfl
  | n + 1, h => by
    unfold vpN; split
    · exact vpN_i n (by omega)
    · rw [cu_n (by omega)]; exact vpN_i n (by omega)
theorem vpB_01 {c : CS} {s : Int} {n : Nat} : 0 ≤ vpB c s n ∧ vpB c s n ≤ 1 := by
  unfold vpB; split
  · exact ⟨Int.le_refl _, by decide⟩
  · have := bI_01 (∃ x, x < 96 ∧ c 12 n x = s); omega
theorem Ok1.vp {c : CS} {L W n : Nat} {s : Int} (h : Ok1 c L W) : Ok1 (vpN c s n) L W := by
  unfold Ok1 at h ⊢
  rw [vpN_k (by decide), vpN_k (by decide), vpN_k (by decide), vpN_k (by decide)]; exact h

theorem kX7_voidProofsWith_0 : Cond.fieldLink "LedgeLevels" 40 "LedgeLevels" "levelCount" "I" ∈ wsX7_voidProofsWith := by decide +kernel
theorem kX7_voidProofsWith_1 : ∀ w ∈ wsX70, w ∈ wsX7_voidProofsWith := by decide +kernel
theorem kX7_voidProofsWith_2 : Cond.fieldLinkNest "LedgeLevels" 109 "LedgeLevels$Level" "proof" "I" "LedgeLevels" ∈ nwAll := by decide +kernel
theorem kX7_voidProofsWith_3 : ∀ w ∈ wsX30, w ∈ wsX7_voidProofsWith := by decide +kernel
theorem kX7_voidProofsWith_4 : Cond.fieldLinkNest "LedgeLevels" 56 "LedgeLevels$Level" "grid" "LLedgeLevels$Grid;" "LedgeLevels" ∈ nwAll := by decide +kernel
set_option maxRecDepth 100000 in
set_option maxHeartbeats 1000000 in
theorem c_X7_voidProofsWith {l : Launch} {D : va_G} {A : Nat → Prop} {h : vh} {ad : AD} {c : CS} {L W : Nat} {s : Int}  (hR : RepC D ad c L W h) (hC : Cok c L W) (hs : 6 ≤ s ∧ s ≤ 8) : TX l D A yX7_voidProofsWith wsX7_voidProofsWith { frames := 7, cells := 12, slots := 72, locals := 112 } [.ref (ad 0 0), vI s] h (fun rv h' => rv = some (vI (sumN (vpB c s) L)) ∧ CP D ad L W h (vpN c s L) h') (XP False False False h) := by
  refine TX.of (cc := cX7_voidProofsWith) (maxL := 5) (ret := (some .int)) [(0, .ref (ad 0 0)), (1, vI s)] (by decide +kernel) rfl rfl (Nat.le_of_ble_eq_true rfl) ?_
  intro κ C hkl G GT
  subst hkl
  have C : CX κ "LedgeLevels" "voidProofsWith" cX7_voidProofsWith wsX7_voidProofsWith { frames := 7, cells := 12, slots := 72, locals := 112 } D A 5 := C
  have hiz : nq (D.1 20) (D.1 21) := cx_iz C
  obtain ⟨hO1, q2, q3, q4, q5⟩ := id hC
  obtain ⟨o1, o2, o3, o4, o5, o6, o7⟩ := id hO1
  refine x_iconst C dX7_voidProofsWith_0 0 (by decide) ?_
  refine x_istore_n C (ls' := [(0, .ref (ad 0 0)), (1, vI s), (2, vI 0)]) dX7_voidProofsWith_1 (by decide) rfl ?_
  refine x_iconst C dX7_voidProofsWith_2 0 (by decide) ?_
  refine x_istore_n C (ls' := [(0, .ref (ad 0 0)), (1, vI s), (2, vI 0), (3, vI 0)]) dX7_voidProofsWith_3 (by decide) rfl ?_
  have LP : ∀ (N : Nat) (k : Nat) (h1 : vh)   (hk : k ≤ L) (hm : L - k < N) (hcp : CP D ad L W h (vpN c s k) h1), X κ k (6 * k) h1 [(0, .ref (ad 0 0)), (1, vI s), (2, vI (sumN (vpB c s) k)), (3, vI ((k : Nat) : Int))] 4 [] := by
    intro N
    induction N with
    | zero => intro k h1 hk hm hcp; exfalso; omega
    | succ N ihLP =>
      intro k h1 hk hm hcp
      have he9 : vpN c s k 10 k = c 10 k := vpN_i k (Nat.le_refl _)
      have he0 : vpN c s k 0 0 = c 0 0 := vpN_k (by decide) k
      have he1 : vpN c s k 12 k = c 12 k := vpN_k (by decide) k
      have he2 : vpN c s k 11 k = c 11 k := vpN_k (by decide) k
      have hs9 := sumN_b (b := vpB c s) (m := 1) (fun j => vpB_01) k
      have hb9 := bI_01 (∃ x, x < 96 ∧ c 12 k x = s)
      refine x_iload_n C dX7_voidProofsWith_4 3 rfl ?_
      have f2 : h1 (ad 0 0) = some (eO 7 [.ref (ad 1 0), .ref (ad 2 0), .ref (ad 3 0), .ref (ad 4 0), .ref (ad 5 0), vI (((vpN c s k) 0 0) 5), vI (((vpN c s k) 0 0) 6)]) := hcp.1.1 0 0 (lv0 (by decide))
      have f3 : h1 (ad 0 0) = some (eO 7 [.ref (ad 1 0), .ref (ad 2 0), .ref (ad 3 0), .ref (ad 4 0), .ref (ad 5 0), vI (c 0 0 5), vI (c 0 0 6)]) := by have q9 := f2; rw [he0] at q9; exact q9
      refine x_aload_n C dX7_voidProofsWith_5 0 rfl ?_
      refine x_get C (v := vI (c 0 0 5)) f3 (T := TX7) rfl kX7_voidProofsWith_1 5 (by decide) kX7_voidProofsWith_0 rfl dX7_voidProofsWith_6 ?_
      refine x_icmp_ge (tgt := 57) C dX7_voidProofsWith_9 (by decide) (by omega) (by omega) (fun c4 => ?_) (fun c4 => ?_)
      · skip
        refine x_iload_n C dX7_voidProofsWith_57 2 rfl ?_
        refine x_iret C G dX7_voidProofsWith_58 ?_ (by first | omega | (dsimp only; omega)) (by first | omega | (dsimp only; omega))
        obtain rfl : k = L := by omega
        exact ⟨rfl, hcp⟩
      · skip
        refine x_aload_n C dX7_voidProofsWith_12 0 rfl ?_
        refine x_iload_n C dX7_voidProofsWith_13 3 rfl ?_
        refine x_callVt C (n := 1) (qc := (RX7, TX7, 7)) (As := [vI ((k : Nat) : Int)]) (rest := []) (c_X7_levelOf (hcp.1) (Ok1.vp hO1) (by omega)) gX7_voidProofsWith_X7_levelOf (by decide +kernel) f3 rfl rfl rfl rfl (Nat.le_of_ble_eq_true rfl) ⟨by decide, by decide⟩ ⟨(by first | omega | (dsimp only; omega)), (by first | omega | (dsimp only; omega))⟩ dX7_voidProofsWith_14 GT (by first | omega | (dsimp only; omega)) (by first | omega | (dsimp only; omega)) (fun E h9 hx9 => XP.imp (h := h) ⟨by obtain ⟨q8, q9⟩ := hx9; rcases q9 with ⟨q6, q7⟩ | ⟨q6, q7⟩ | ⟨q6, q7⟩ <;> (exfalso; first | exact q7 | omega), hx9.2⟩ (fun z9 => by first | exact z9.elim | omega) (fun z9 => by first | exact z9.elim | omega) (fun z9 => by first | exact z9.elim | omega)) (fun rv5 h6 hp7 => ?_)
        obtain ⟨rfl, e8, hu_14⟩ := hp7
        obtain rfl := e8.symm
        obtain ⟨⟨g1, g2, g3⟩, ⟨e0, e1, e2, e3⟩, ⟨k1, k2, k3, k4⟩⟩ := q3 k (by omega)
        refine x_astore C (ls' := [(0, .ref (ad 0 0)), (1, vI s), (2, vI (sumN (vpB c s) k)), (3, vI ((k : Nat) : Int)), (4, .ref (ad 10 k))]) dX7_voidProofsWith_17 (by decide) rfl ?_
        have f9 : h1 (ad 10 k) = some (eO 3 [vI (((vpN c s k) 10 k) 0), va_rf (prf ad (((vpN c s k) 10 k) 1)), .ref (ad 11 k), .ref (ad 14 k), vI (((vpN c s k) 10 k) 4), vI (((vpN c s k) 10 k) 5)]) := hcp.1.1 10 k (lvL (by decide) (by omega))
        have f10 : h1 (ad 10 k) = some (eO 3 [vI (c 10 k 0), va_rf (prf ad (c 10 k 1)), .ref (ad 11 k), .ref (ad 14 k), vI (c 10 k 4), vI (c 10 k 5)]) := by have q9 := f9; rw [he9] at q9; exact q9
        refine x_aload C dX7_voidProofsWith_19 4 rfl ?_
        refine x_getN (host := "LedgeLevels") C (v := vI (c 10 k 5)) f10 (T := TX3) rfl kX7_voidProofsWith_3 5 (by decide) kX7_voidProofsWith_2 rfl dX7_voidProofsWith_21 ?_
        refine x_bipush C dX7_voidProofsWith_24 (-2) (by decide) ?_
        refine x_icmp_eq (tgt := 51) C dX7_voidProofsWith_26 (by decide) (by omega) (by omega) (fun c11 => ?_) (fun c11 => ?_)
        · skip
          refine x_iinc C (x := ((k : Nat) : Int)) (ls' := [(0, .ref (ad 0 0)), (1, vI s), (2, vI (sumN (vpB c s) k)), (3, vI ((((k : Nat) : Int)) + 1)), (4, .ref (ad 10 k))]) dX7_voidProofsWith_51 3 rfl (by decide) rfl ?_
          refine x_goto (tgt := 4) C dX7_voidProofsWith_54 (by decide) ?_
          have hB : vpB c s k = 0 := by unfold vpB; first | exact if_pos (by assumption) | (rw [if_neg (by assumption)]; assumption)
          have hst : sumN (vpB c s) k = sumN (vpB c s) (k + 1) := by show _ = sumN (vpB c s) k + vpB c s k; rw [hB, Int.add_zero]
          rw [hst]
          refine x_sub [0, 1, 2, 3] (ls' := [(0, .ref (ad 0 0)), (1, vI s), (2, vI (sumN (vpB c s) (k + 1))), (3, vI ((((k : Nat) : Int)) + 1))]) rfl ?_
          refine x_widen (m1 := (k + 1)) (m2 := 6 * (k + 1)) (by first | omega | (dsimp only; omega)) (by first | omega | (dsimp only; omega)) ?_
          exact ihLP (k + 1) h1 (by omega) (by omega) (by rw [show vpN c s (k + 1) = vpN c s k from if_pos hB]; exact hcp)
        · skip
          refine x_aload C dX7_voidProofsWith_29 4 rfl ?_
          refine x_getN (host := "LedgeLevels") C (v := .ref (ad 11 k)) f10 (T := TX3) rfl kX7_voidProofsWith_3 2 (by decide) kX7_voidProofsWith_4 rfl dX7_voidProofsWith_31 ?_
          refine x_iload_n C dX7_voidProofsWith_34 1 rfl ?_
          have f12 : h1 (ad 12 k) = some (eI D 96 (((vpN c s k) 12 k))) := hcp.1.1 12 k (lvL (by decide) (by omega))
          have f13 : h1 (ad 12 k) = some (eI D 96 (c 12 k)) := by have q9 := f12; rw [he1] at q9; exact q9
          have f14 : h1 (ad 11 k) = some (eO 1 [.ref (ad 12 k), .ref (ad 13 k), vI (((((vpN c s k) 11 k) 2).toNat : Nat) : Int)]) := hcp.1.1 11 k (lvL (by decide) (by omega))
          refine x_callV C (n := 1) (qc := (RX1, TX1, 3)) (As := [vI s]) (rest := []) (c_X1_has f14 f13 (by omega) (by assumption)) gX7_voidProofsWith_X1_has (by decide +kernel) f14 rfl rfl rfl rfl (Nat.le_of_ble_eq_true rfl) ⟨by decide, by decide⟩ ⟨(by first | omega | (dsimp only; omega)), (by first | omega | (dsimp only; omega))⟩ dX7_voidProofsWith_35 (fun rv15 h16 hp17 => ?_)
          obtain ⟨rfl, e18⟩ := hp17
          obtain rfl := e18.symm
          refine x_if_eq (tgt := 51) C dX7_voidProofsWith_38 (by decide) (by omega) (fun c19 => ?_) (fun c19 => ?_)
          · skip
            refine x_iinc C (x := ((k : Nat) : Int)) (ls' := [(0, .ref (ad 0 0)), (1, vI s), (2, vI (sumN (vpB c s) k)), (3, vI ((((k : Nat) : Int)) + 1)), (4, .ref (ad 10 k))]) dX7_voidProofsWith_51 3 rfl (by decide) rfl ?_
            refine x_goto (tgt := 4) C dX7_voidProofsWith_54 (by decide) ?_
            have hB : vpB c s k = 0 := by unfold vpB; first | exact if_pos (by assumption) | (rw [if_neg (by assumption)]; assumption)
            have hst : sumN (vpB c s) k = sumN (vpB c s) (k + 1) := by show _ = sumN (vpB c s) k + vpB c s k; rw [hB, Int.add_zero]
            rw [hst]
            refine x_sub [0, 1, 2, 3] (ls' := [(0, .ref (ad 0 0)), (1, vI s), (2, vI (sumN (vpB c s) (k + 1))), (3, vI ((((k : Nat) : Int)) + 1))]) rfl ?_
            refine x_widen (m1 := (k + 1)) (m2 := 6 * (k + 1)) (by first | omega | (dsimp only; omega)) (by first | omega | (dsimp only; omega)) ?_
            exact ihLP (k + 1) h1 (by omega) (by omega) (by rw [show vpN c s (k + 1) = vpN c s k from if_pos hB]; exact hcp)
          · skip
            refine x_aload C dX7_voidProofsWith_41 4 rfl ?_
            refine x_bipush C dX7_voidProofsWith_43 (-2) (by decide) ?_
            refine x_putN (host := "LedgeLevels") C f10 (T := TX3) rfl tyX3_ok nmX3 kX7_voidProofsWith_3 5 (by decide) kX7_voidProofsWith_2 rfl (fs' := [vI (c 10 k 0), va_rf (prf ad (c 10 k 1)), .ref (ad 11 k), .ref (ad 14 k), vI (c 10 k 4), vI (-2)]) rfl rfl (by simp) rfl dX7_voidProofsWith_45 (x_hn (fun h20 e21 => ?_))
            have f22 : h20 (ad 10 k) = some (eO 3 [vI (c 10 k 0), va_rf (prf ad (c 10 k 1)), .ref (ad 11 k), .ref (ad 14 k), vI (c 10 k 4), vI (-2)]) := by rw [e21]; exact hu_s
            refine x_iinc C (x := sumN (vpB c s) k) (ls' := [(0, .ref (ad 0 0)), (1, vI s), (2, vI ((sumN (vpB c s) k) + 1)), (3, vI ((k : Nat) : Int)), (4, .ref (ad 10 k))]) dX7_voidProofsWith_48 2 rfl (by decide) rfl ?_
            refine x_iinc C (x := ((k : Nat) : Int)) (ls' := [(0, .ref (ad 0 0)), (1, vI s), (2, vI ((sumN (vpB c s) k) + 1)), (3, vI ((((k : Nat) : Int)) + 1)), (4, .ref (ad 10 k))]) dX7_voidProofsWith_51 3 rfl (by decide) rfl ?_
            refine x_goto (tgt := 4) C dX7_voidProofsWith_54 (by decide) ?_
            have hB : ¬ vpB c s k = 0 := by unfold vpB; rw [if_neg (by assumption)]; assumption
            have hB1 : vpB c s k = 1 := by have := vpB_01 (c := c) (s := s) (n := k); omega
            have hst : sumN (vpB c s) k + 1 = sumN (vpB c s) (k + 1) := by show _ = sumN (vpB c s) k + vpB c s k; rw [hB1]
            rw [hst]
            refine x_sub [0, 1, 2, 3] (ls' := [(0, .ref (ad 0 0)), (1, vI s), (2, vI (sumN (vpB c s) (k + 1))), (3, vI ((((k : Nat) : Int)) + 1))]) rfl ?_
            have cp23 : CP D ad L W h (cu (vpN c s k) 10 k (oF [c 10 k 0, c 10 k 1, 0, 0, c 10 k 4, (-2)])) h20 := by rw [e21]; exact (CP.up hcp (lvL (by decide) (by omega)) (oF [c 10 k 0, c 10 k 1, 0, 0, c 10 k 4, (-2)]) rfl)
            refine x_widen (m1 := (k + 1)) (m2 := 6 * (k + 1)) (by first | omega | (dsimp only; omega)) (by first | omega | (dsimp only; omega)) ?_
            exact ihLP (k + 1) h20 (by omega) (by omega) (by rw [show vpN c s (k + 1) = cu (vpN c s k) 10 k (oF [c 10 k 0, c 10 k 1, 0, 0, c 10 k 4, -2]) from if_neg hB]; exact cp23)
  exact LP (L + 1) 0 h (by omega) (by omega) (CP.rf hR)


theorem cAdd_l {c : CS} {L k : Nat} {au pr : Int} (h : 10 ≤ k ∧ k < 18) : cAdd c L au pr k L = FL au pr k := by
  unfold cAdd
  rw [cu_k (by omega), cu_k (by omega), cG_s h]
theorem cAdd_o {c : CS} {L k i : Nat} {au pr : Int} (h : 18 ≤ k ∨ (k < 10 ∧ k ≠ 0 ∧ k ≠ 2)) : cAdd c L au pr k i = c k i := by
  unfold cAdd
  rw [cu_k (by omega), cu_k (by omega), cG_k (by omega)]
def bgS (d : CS) (L : Nat) (z : Int) : CS := cu (cu (cu d 12 L (fu (d 12 L) z.toNat 1)) 13 L (gpq (d 12 L) (d 13 L) z 1)) 11 L (oF [0, 0, ((gpa (d 12 L) (d 13 L) (d 11 L 2).toNat z 1 : Nat) : Int)])
def bgN (c : CS) (L : Nat) : Nat → CS
  | 0 => c
  | m + 1 => bgS (bgN c L m) L ((84 + m : Nat) : Int)
theorem bgN_k {c : CS} {L k i : Nat} (h : k ≠ 11 ∧ k ≠ 12 ∧ k ≠ 13) : ∀ m, bgN c L m k i = c k i
  | 0 => rfl
  | m + 1 => by
    show bgS (bgN c L m) L ((84 + m : Nat) : Int) k i = _
    unfold bgS
    rw [cu_k h.1, cu_k h.2.2, cu_k h.2.1]
    exact bgN_k h m
theorem bgN_r {c : CS} {L : Nat} (h0 : (∀ j, 0 ≤ c 12 L j ∧ c 12 L j ≤ 8) ∧ ∀ j, -1 ≤ c 13 L j ∧ c 13 L j ≤ 95) : ∀ m, m ≤ 12 → (∀ j, 0 ≤ bgN c L m 12 L j ∧ bgN c L m 12 L j ≤ 8) ∧ ∀ j, -1 ≤ bgN c L m 13 L j ∧ bgN c L m 13 L j ≤ 95
  | 0, _ => h0
  | m + 1, hm => by
    obtain ⟨g1, g2⟩ := bgN_r h0 m (by omega)
    have e12 : bgN c L (m + 1) 12 L = fu (bgN c L m 12 L) (((84 + m : Nat) : Int)).toNat 1 := by
      show bgS (bgN c L m) L ((84 + m : Nat) : Int) 12 L = _
      unfold bgS
      rw [cu_k (by decide), cu_k (by decide), cu_s]
    have e13 : bgN c L (m + 1) 13 L = gpq (bgN c L m 12 L) (bgN c L m 13 L) ((84 + m : Nat) : Int) 1 := by
      show bgS (bgN c L m) L ((84 + m : Nat) : Int) 13 L = _
      unfold bgS
      rw [cu_k (by decide), cu_s]
    rw [e12, e13]
    refine ⟨fun j => ?_, gpq_r g2 (by omega)⟩
    unfold fu; split
    · decide
    · exact g1 j
def cOff (c : CS) (W : Nat) (au pr st pf : Int) (f : Nat → Int) : CS := cu (cu (cG c 18 23 W (FW (W : Int) au pr st pf f)) 3 0 (oF [((W + 1 : Nat) : Int)])) 0 0 (oF [0, 0, 0, 0, 0, c 0 0 5, ((W + 1 : Nat) : Int)])

theorem kX7_begin_0 : Cond.fieldLink "LedgeLevels" 40 "LedgeLevels" "levelCount" "I" ∈ wsX7_begin := by decide +kernel
theorem kX7_begin_1 : ∀ w ∈ wsX70, w ∈ wsX7_begin := by decide +kernel
theorem kX7_begin_2 : Cond.fieldLinkNest "LedgeLevels" 56 "LedgeLevels$Level" "grid" "LLedgeLevels$Grid;" "LedgeLevels" ∈ nwAll := by decide +kernel
theorem kX7_begin_3 : ∀ w ∈ wsX30, w ∈ wsX7_begin := by decide +kernel
set_option maxRecDepth 100000 in
set_option maxHeartbeats 1000000 in
theorem c_X7_begin {l : Launch} {D : va_G} {A : Nat → Prop} {h : vh} {ad : AD} {c : CS} {L W : Nat} {p : Int}  (hR : RepC D ad c L W h) (hC : Cok c L W) (hi_p : -2147483648 ≤ p ∧ p ≤ 2147483647) : TX l D A yX7_begin wsX7_begin { frames := 7, cells := 9, slots := 239, locals := 113 } [.ref (ad 0 0), vI p] h (fun rv h' => ∃ (ad9 : AD), rv = some (vI (L : Int)) ∧ CP D ad9 (L + 1) W h (bgN (cAdd c L p 0) L 12) h' ∧ (Grown ad ad9 L W (L + 1) W h) ∧ ((0 ≤ p ∧ p < 6) ∧ L < 12)) (XP (¬ (0 ≤ p ∧ p < 6)) False ((0 ≤ p ∧ p < 6) ∧ ¬ L < 12) h) := by
  refine TX.of (cc := cX7_begin) (maxL := 4) (ret := (some .int)) [(0, .ref (ad 0 0)), (1, vI p)] (by decide +kernel) rfl rfl (Nat.le_of_ble_eq_true rfl) ?_
  intro κ C hkl G GT
  subst hkl
  have C : CX κ "LedgeLevels" "begin" cX7_begin wsX7_begin { frames := 7, cells := 9, slots := 239, locals := 113 } D A 4 := C
  have hiz : nq (D.1 20) (D.1 21) := cx_iz C
  obtain ⟨hO1, q2, q3, q4, q5⟩ := id hC
  obtain ⟨o1, o2, o3, o4, o5, o6, o7⟩ := id hO1
  refine x_iload_n C dX7_begin_0 1 rfl ?_
  refine x_callSt C (n := 1) (As := [vI p]) (rest := []) (c_X7_checkPerson (hR) (by omega)) gX7_begin_X7_checkPerson (by decide +kernel) rfl rfl rfl (Nat.le_of_ble_eq_true rfl) ⟨by decide, by decide⟩ ⟨(by decide), (by decide)⟩ dX7_begin_1 GT (by decide) (by decide) (fun E h9 hx9 => XP.imp hx9 (fun z9 => by first | exact z9.elim | omega) (fun z9 => by first | exact z9.elim | omega) (fun z9 => by first | exact z9.elim | omega)) (fun rv1 h2 hp3 => ?_)
  obtain ⟨rfl, e4, hp_1⟩ := hp3
  obtain rfl := e4.symm
  refine x_aload_n C dX7_begin_4 0 rfl ?_
  refine x_iload_n C dX7_begin_5 1 rfl ?_
  refine x_null C dX7_begin_6 ?_
  have f5 : h (ad 0 0) = some (eO 7 [.ref (ad 1 0), .ref (ad 2 0), .ref (ad 3 0), .ref (ad 4 0), .ref (ad 5 0), vI (c 0 0 5), vI (c 0 0 6)]) := hR.1 0 0 (lv0 (by decide))
  refine x_callVt C (n := 2) (qc := (RX7, TX7, 7)) (As := [vI p, .null]) (rest := []) (c_X7_addLevelN (hR) (by assumption)) gX7_begin_X7_addLevel (by decide +kernel) f5 rfl rfl rfl rfl (Nat.le_of_ble_eq_true rfl) ⟨by decide, by decide⟩ ⟨(by decide), (by decide)⟩ dX7_begin_7 GT (by decide) (by decide) (fun E h9 hx9 => XP.imp hx9 (fun z9 => by first | exact z9.elim | omega) (fun z9 => by first | exact z9.elim | omega) (fun z9 => by first | exact z9.elim | omega)) (fun rv6 h7 hp8 => ?_)
  obtain ⟨ad_10, rfl, cp11, hGr_7, hL_7⟩ := hp8
  rw [← hGr_7.1 0 0 (lv0 (by decide))]
  refine x_astore_n C (ls' := [(0, .ref (ad_10 0 0)), (1, vI p), (2, .ref (ad_10 10 L))]) dX7_begin_10 (by decide) rfl ?_
  refine x_bipush C dX7_begin_11 84 (by decide) ?_
  refine x_istore_n C (ls' := [(0, .ref (ad_10 0 0)), (1, vI p), (2, .ref (ad_10 10 L)), (3, vI 84)]) dX7_begin_13 (by decide) rfl ?_
  have LP : ∀ (N : Nat) (m : Nat) (h13 : vh)   (hm : m ≤ 12) (hN : 12 - m < N) (hcp : CP D ad_10 (L + 1) W h (bgN (cAdd c L p 0) L m) h13), X κ 9 239 h13 [(0, .ref (ad_10 0 0)), (1, vI p), (2, .ref (ad_10 10 L)), (3, vI ((84 + m : Nat) : Int))] 14 [] := by
    intro N
    induction N with
    | zero => intro m h13 hm hN hcp; exfalso; omega
    | succ N ihLP =>
      intro m h13 hm hN hcp
      have hB := bgN_r (c := (cAdd c L p 0)) (L := L) ⟨by rw [cAdd_l ⟨by decide, by decide⟩]; exact fun j => ⟨by show (0 : Int) ≤ 0; decide, by show (0 : Int) ≤ 8; decide⟩, by rw [cAdd_l ⟨by decide, by decide⟩]; exact fun j => by show -1 ≤ (if j < 3 then (-1 : Int) else 0) ∧ (if j < 3 then (-1 : Int) else 0) ≤ 95; split <;> decide⟩ m hm
      have he0 : bgN (cAdd c L p 0) L m 0 0 = oF [0, 0, 0, 0, 0, ((L + 1 : Nat) : Int), c 0 0 6] := (bgN_k (by decide) m).trans cu_s
      refine x_iload_n C dX7_begin_14 3 rfl ?_
      refine x_bipush C dX7_begin_15 96 (by decide) ?_
      refine x_icmp_ge (tgt := 35) C dX7_begin_17 (by decide) (by omega) (by omega) (fun c14 => ?_) (fun c14 => ?_)
      · skip
        refine x_aload_n C dX7_begin_35 0 rfl ?_
        have f15 : h13 (ad_10 0 0) = some (eO 7 [.ref (ad_10 1 0), .ref (ad_10 2 0), .ref (ad_10 3 0), .ref (ad_10 4 0), .ref (ad_10 5 0), vI (((bgN (cAdd c L p 0) L m) 0 0) 5), vI (((bgN (cAdd c L p 0) L m) 0 0) 6)]) := hcp.1.1 0 0 (lv0 (by decide))
        have f16 : h13 (ad_10 0 0) = some (eO 7 [.ref (ad_10 1 0), .ref (ad_10 2 0), .ref (ad_10 3 0), .ref (ad_10 4 0), .ref (ad_10 5 0), vI ((L + 1 : Nat) : Int), vI (c 0 0 6)]) := by have q9 := f15; rw [he0] at q9; exact q9
        refine x_get C (v := vI ((L + 1 : Nat) : Int)) f16 (T := TX7) rfl kX7_begin_1 5 (by decide) kX7_begin_0 rfl dX7_begin_36 ?_
        refine x_iconst C dX7_begin_39 1 (by decide) ?_
        refine x_isub C dX7_begin_40 ?_
        refine x_topv (show (((L + 1 : Nat) : Int)) - 1 = (L : Int) from by omega) ?_
        refine x_iret C G dX7_begin_41 ?_ (by decide) (by decide)
        obtain rfl : m = 12 := by omega
        exact ⟨ad_10, rfl, hcp, hGr_7, by omega⟩
      · skip
        refine x_aload_n C dX7_begin_20 2 rfl ?_
        have f17 : h13 (ad_10 10 L) = some (eO 3 [vI (((bgN (cAdd c L p 0) L m) 10 L) 0), va_rf (prf ad_10 (((bgN (cAdd c L p 0) L m) 10 L) 1)), .ref (ad_10 11 L), .ref (ad_10 14 L), vI (((bgN (cAdd c L p 0) L m) 10 L) 4), vI (((bgN (cAdd c L p 0) L m) 10 L) 5)]) := hcp.1.1 10 L (lvL (by decide) (by omega))
        refine x_getN (host := "LedgeLevels") C (v := .ref (ad_10 11 L)) f17 (T := TX3) rfl kX7_begin_3 2 (by decide) kX7_begin_2 rfl dX7_begin_21 ?_
        refine x_iload_n C dX7_begin_24 3 rfl ?_
        refine x_iconst C dX7_begin_25 1 (by decide) ?_
        have f18 : h13 (ad_10 11 L) = some (eO 1 [.ref (ad_10 12 L), .ref (ad_10 13 L), vI (((((bgN (cAdd c L p 0) L m) 11 L) 2).toNat : Nat) : Int)]) := hcp.1.1 11 L (lvL (by decide) (by omega))
        have f19 : h13 (ad_10 12 L) = some (eI D 96 (((bgN (cAdd c L p 0) L m) 12 L))) := hcp.1.1 12 L (lvL (by decide) (by omega))
        have f20 : h13 (ad_10 13 L) = some (eI D 3 (((bgN (cAdd c L p 0) L m) 13 L))) := hcp.1.1 13 L (lvL (by decide) (by omega))
        refine x_callV C (n := 2) (qc := (RX1, TX1, 3)) (As := [vI ((84 + m : Nat) : Int), vI 1]) (rest := []) (c_X1_put f18 f19 f20 (⟨by omega, by omega⟩) (by omega) (hB.1) (hB.2)) gX7_begin_X1_put (by decide +kernel) f18 rfl rfl rfl rfl (Nat.le_of_ble_eq_true rfl) ⟨by decide, by decide⟩ ⟨(by decide), (by decide)⟩ dX7_begin_26 (fun rv21 h22 hp23 => ?_)
        obtain ⟨rfl, e24⟩ := hp23
        have f25 : h22 (ad_10 11 L) = some (eO 1 [.ref (ad_10 12 L), .ref (ad_10 13 L), vI ((gpa (((bgN (cAdd c L p 0) L m) 12 L)) (((bgN (cAdd c L p 0) L m) 13 L)) ((((bgN (cAdd c L p 0) L m) 11 L) 2).toNat) (((84 + m : Nat) : Int)) 1 : Nat) : Int)]) := by rw [e24]; exact hu_s
        have f26 : h22 (ad_10 13 L) = some (eI D 3 (gpq (((bgN (cAdd c L p 0) L m) 12 L)) (((bgN (cAdd c L p 0) L m) 13 L)) (((84 + m : Nat) : Int)) 1)) := by rw [e24, hu_n (hcp.1.ne (lvL (by decide) (by omega)) (lvL (by decide) (by omega)) (fun zz9 => absurd zz9.1 (by decide)))]; exact hu_s
        have f27 : h22 (ad_10 12 L) = some (eI D 96 (fu (((bgN (cAdd c L p 0) L m) 12 L)) (((84 + m : Nat) : Int)).toNat 1)) := by rw [e24, hu_n (hcp.1.ne (lvL (by decide) (by omega)) (lvL (by decide) (by omega)) (fun zz9 => absurd zz9.1 (by decide))), hu_n (hcp.1.ne (lvL (by decide) (by omega)) (lvL (by decide) (by omega)) (fun zz9 => absurd zz9.1 (by decide)))]; exact hu_s
        refine x_iinc C (x := ((84 + m : Nat) : Int)) (ls' := [(0, .ref (ad_10 0 0)), (1, vI p), (2, .ref (ad_10 10 L)), (3, vI ((((84 + m : Nat) : Int)) + 1))]) dX7_begin_29 3 rfl (by decide) rfl ?_
        refine x_goto (tgt := 14) C dX7_begin_32 (by decide) ?_
        have cp28 : CP D ad_10 (L + 1) W h (cu (cu (cu (bgN (cAdd c L p 0) L m) 12 L (fu (((bgN (cAdd c L p 0) L m) 12 L)) (((84 + m : Nat) : Int)).toNat 1)) 13 L (gpq (((bgN (cAdd c L p 0) L m) 12 L)) (((bgN (cAdd c L p 0) L m) 13 L)) (((84 + m : Nat) : Int)) 1)) 11 L (oF [0, 0, ((gpa (((bgN (cAdd c L p 0) L m) 12 L)) (((bgN (cAdd c L p 0) L m) 13 L)) ((((bgN (cAdd c L p 0) L m) 11 L) 2).toNat) (((84 + m : Nat) : Int)) 1 : Nat) : Int)])) h22 := by rw [e24]; exact (CP.up (CP.up (CP.up hcp (lvL (by decide) (by omega)) (fu (((bgN (cAdd c L p 0) L m) 12 L)) (((84 + m : Nat) : Int)).toNat 1) rfl) (lvL (by decide) (by omega)) (gpq (((bgN (cAdd c L p 0) L m) 12 L)) (((bgN (cAdd c L p 0) L m) 13 L)) (((84 + m : Nat) : Int)) 1) rfl) (lvL (by decide) (by omega)) (oF [0, 0, ((gpa (((bgN (cAdd c L p 0) L m) 12 L)) (((bgN (cAdd c L p 0) L m) 13 L)) ((((bgN (cAdd c L p 0) L m) 11 L) 2).toNat) (((84 + m : Nat) : Int)) 1 : Nat) : Int)]) rfl)
        exact ihLP (m + 1) h22 (by omega) (by omega) (cp28)
  exact LP (13) 0 h7 (by omega) (by omega) (cp11)

theorem kX7_copy_0 : Cond.fieldLinkNest "LedgeLevels" 56 "LedgeLevels$Level" "grid" "LLedgeLevels$Grid;" "LedgeLevels" ∈ nwAll := by decide +kernel
theorem kX7_copy_1 : ∀ w ∈ wsX30, w ∈ wsX7_copy := by decide +kernel
theorem kX7_copy_2 : Cond.fieldLinkNest "LedgeLevels" 146 "LedgeLevels$Work" "grid" "LLedgeLevels$Grid;" "LedgeLevels" ∈ nwAll := by decide +kernel
theorem kX7_copy_3 : ∀ w ∈ wsX60, w ∈ wsX7_copy := by decide +kernel
theorem kX7_copy_4 : Cond.fieldLinkNest "LedgeLevels" 151 "LedgeLevels$Work" "start" "I" "LedgeLevels" ∈ nwAll := by decide +kernel
theorem kX7_copy_5 : Cond.fieldLinkNest "LedgeLevels" 106 "LedgeLevels$Level" "start" "I" "LedgeLevels" ∈ nwAll := by decide +kernel
theorem kX7_copy_6 : Cond.fieldLink "LedgeLevels" 40 "LedgeLevels" "levelCount" "I" ∈ wsX7_copy := by decide +kernel
theorem kX7_copy_7 : ∀ w ∈ wsX70, w ∈ wsX7_copy := by decide +kernel
set_option maxRecDepth 100000 in
set_option maxHeartbeats 1000000 in
theorem c_X7_copy {l : Launch} {D : va_G} {A : Nat → Prop} {h : vh} {ad : AD} {c : CS} {L W : Nat} {w p : Int}  (hR : RepC D ad c L W h) (hC : Cok c L W) (hi_w : -2147483648 ≤ w ∧ w ≤ 2147483647) (hi_p : -2147483648 ≤ p ∧ p ≤ 2147483647) : TX l D A yX7_copy wsX7_copy { frames := 7, cells := 11, slots := 251, locals := 113 } [.ref (ad 0 0), vI w, vI p] h (fun rv h' => ∃ (ad9 : AD), rv = some (vI (L : Int)) ∧ CP D ad9 (L + 1) W h ((cu (cu (cu (cu (cAdd c L p (((w.toNat + 1 : Nat) : Int))) 12 L (gnf (c 20 w.toNat) (fun _ => 0) 96)) 13 L (gnq (c 20 w.toNat) (fun _ => 0) (fun j => if j < 3 then -1 else 0) 96)) 11 L (oF [0, 0, ((gna (c 20 w.toNat) (fun _ => 0) (fun j => if j < 3 then -1 else 0) 0 96 : Nat) : Int)])) 10 L (oF [p, ((w.toNat + 1 : Nat) : Int), 0, 0, c 18 w.toNat 4, (-2)]))) h' ∧ (Grown ad ad9 L W (L + 1) W h) ∧ ((0 ≤ w ∧ w < (W : Int)) ∧ (0 ≤ p ∧ p < 6) ∧ 0 ≤ c 18 w.toNat 6 ∧ L < 12)) (XP (¬ (0 ≤ w ∧ w < (W : Int)) ∨ ¬ (0 ≤ p ∧ p < 6)) False ((0 ≤ w ∧ w < (W : Int)) ∧ (0 ≤ p ∧ p < 6) ∧ (c 18 w.toNat 6 < 0 ∨ ¬ L < 12)) h) := by
  refine TX.of (cc := cX7_copy) (maxL := 5) (ret := (some .int)) [(0, .ref (ad 0 0)), (1, vI w), (2, vI p)] (by decide +kernel) rfl rfl (Nat.le_of_ble_eq_true rfl) ?_
  intro κ C hkl G GT
  subst hkl
  have C : CX κ "LedgeLevels" "copy" cX7_copy wsX7_copy { frames := 7, cells := 11, slots := 251, locals := 113 } D A 5 := C
  have hiz : nq (D.1 20) (D.1 21) := cx_iz C
  obtain ⟨hO1, q2, q3, q4, q5⟩ := id hC
  obtain ⟨o1, o2, o3, o4, o5, o6, o7⟩ := id hO1
  refine x_aload_n C dX7_copy_0 0 rfl ?_
  refine x_iload_n C dX7_copy_1 1 rfl ?_
  have f1 : h (ad 0 0) = some (eO 7 [.ref (ad 1 0), .ref (ad 2 0), .ref (ad 3 0), .ref (ad 4 0), .ref (ad 5 0), vI (c 0 0 5), vI (c 0 0 6)]) := hR.1 0 0 (lv0 (by decide))
  refine x_callVt C (n := 1) (qc := (RX7, TX7, 7)) (As := [vI w]) (rest := []) (c_X7_workOf (hR) (by assumption) (by omega)) gX7_copy_X7_workOf (by decide +kernel) f1 rfl rfl rfl rfl (Nat.le_of_ble_eq_true rfl) ⟨by decide, by decide⟩ ⟨(by decide), (by decide)⟩ dX7_copy_2 GT (by decide) (by decide) (fun E h9 hx9 => XP.imp hx9 (fun z9 => by first | exact z9.elim | omega) (fun z9 => by first | exact z9.elim | omega) (fun z9 => by first | exact z9.elim | omega)) (fun rv2 h3 hp4 => ?_)
  obtain ⟨rfl, e5, hw_2⟩ := hp4
  obtain rfl := e5.symm
  obtain ⟨⟨g1, g2, g3⟩, ⟨e0, e1, e2, e3, e4, e5, e6⟩⟩ := q4 w.toNat (by omega)
  refine x_astore_n C (ls' := [(0, .ref (ad 0 0)), (1, vI w), (2, vI p), (3, .ref (ad 18 w.toNat))]) dX7_copy_5 (by decide) rfl ?_
  refine x_iload_n C dX7_copy_6 2 rfl ?_
  refine x_callSt C (n := 1) (As := [vI p]) (rest := []) (c_X7_checkPerson (hR) (by omega)) gX7_copy_X7_checkPerson (by decide +kernel) rfl rfl rfl (Nat.le_of_ble_eq_true rfl) ⟨by decide, by decide⟩ ⟨(by decide), (by decide)⟩ dX7_copy_7 GT (by decide) (by decide) (fun E h9 hx9 => XP.imp hx9 (fun z9 => by first | exact z9.elim | omega) (fun z9 => by first | exact z9.elim | omega) (fun z9 => by first | exact z9.elim | omega)) (fun rv6 h7 hp8 => ?_)
  obtain ⟨rfl, e9, hp_7⟩ := hp8
  obtain rfl := e9.symm
  refine x_aload_n C dX7_copy_10 3 rfl ?_
  refine x_callSt C (n := 1) (As := [.ref (ad 18 w.toNat)]) (rest := []) (c_X7_checkNotWithdrawn (hR) (by assumption) (by omega)) gX7_copy_X7_checkNotWithdrawn (by decide +kernel) rfl rfl rfl (Nat.le_of_ble_eq_true rfl) ⟨by decide, by decide⟩ ⟨(by decide), (by decide)⟩ dX7_copy_11 GT (by decide) (by decide) (fun E h9 hx9 => XP.imp hx9 (fun z9 => by first | exact z9.elim | omega) (fun z9 => by first | exact z9.elim | omega) (fun z9 => by first | exact z9.elim | omega)) (fun rv10 h11 hp12 => ?_)
  obtain ⟨rfl, e13, hnw_11⟩ := hp12
  obtain rfl := e13.symm
  refine x_aload_n C dX7_copy_14 0 rfl ?_
  refine x_iload_n C dX7_copy_15 2 rfl ?_
  refine x_aload_n C dX7_copy_16 3 rfl ?_
  refine x_callVt C (n := 2) (qc := (RX7, TX7, 7)) (As := [vI p, .ref (ad 18 w.toNat)]) (rest := []) (c_X7_addLevel (hR) (by assumption) (by omega)) gX7_copy_X7_addLevel (by decide +kernel) f1 rfl rfl rfl rfl (Nat.le_of_ble_eq_true rfl) ⟨by decide, by decide⟩ ⟨(by decide), (by decide)⟩ dX7_copy_17 GT (by decide) (by decide) (fun E h9 hx9 => XP.imp hx9 (fun z9 => by first | exact z9.elim | omega) (fun z9 => by first | exact z9.elim | omega) (fun z9 => by first | exact z9.elim | omega)) (fun rv14 h15 hp16 => ?_)
  obtain ⟨ad_18, rfl, cp19, hGr_17, hL_17⟩ := hp16
  rw [← hGr_17.1 0 0 (lv0 (by decide))]
  rw [← hGr_17.1 18 w.toNat (lvW (by decide) (by omega))]
  refine x_astore C (ls' := [(0, .ref (ad_18 0 0)), (1, vI w), (2, vI p), (3, .ref (ad_18 18 w.toNat)), (4, .ref (ad_18 10 L))]) dX7_copy_20 (by decide) rfl ?_
  have f21 : h15 (ad_18 12 L) = some (eI D 96 (((cAdd c L p (((w.toNat + 1 : Nat) : Int))) 12 L))) := cp19.1.1 12 L (lvL (by decide) (by omega))
  have f22 : h15 (ad_18 12 L) = some (eI D 96 (fun _ => 0)) := by have q9 := f21; rw [cAdd_l (by decide)] at q9; exact q9
  have f23 : h15 (ad_18 13 L) = some (eI D 3 (((cAdd c L p (((w.toNat + 1 : Nat) : Int))) 13 L))) := cp19.1.1 13 L (lvL (by decide) (by omega))
  have f24 : h15 (ad_18 13 L) = some (eI D 3 (fun j => if j < 3 then -1 else 0)) := by have q9 := f23; rw [cAdd_l (by decide)] at q9; exact q9
  have f25 : h15 (ad_18 11 L) = some (eO 1 [.ref (ad_18 12 L), .ref (ad_18 13 L), vI (((((cAdd c L p (((w.toNat + 1 : Nat) : Int))) 11 L) 2).toNat : Nat) : Int)]) := cp19.1.1 11 L (lvL (by decide) (by omega))
  have f26 : h15 (ad_18 11 L) = some (eO 1 [.ref (ad_18 12 L), .ref (ad_18 13 L), vI ((0 : Nat) : Int)]) := by have q9 := f25; rw [cAdd_l (by decide)] at q9; exact q9
  have f27 : h15 (ad_18 19 w.toNat) = some (eO 1 [.ref (ad_18 20 w.toNat), .ref (ad_18 21 w.toNat), vI (((((cAdd c L p (((w.toNat + 1 : Nat) : Int))) 19 w.toNat) 2).toNat : Nat) : Int)]) := cp19.1.1 19 w.toNat (lvW (by decide) (by omega))
  have f28 : h15 (ad_18 19 w.toNat) = some (eO 1 [.ref (ad_18 20 w.toNat), .ref (ad_18 21 w.toNat), vI (((c 19 w.toNat 2).toNat : Nat) : Int)]) := by have q9 := f27; rw [cAdd_o (by decide)] at q9; exact q9
  have f29 : h15 (ad_18 20 w.toNat) = some (eI D 96 (((cAdd c L p (((w.toNat + 1 : Nat) : Int))) 20 w.toNat))) := cp19.1.1 20 w.toNat (lvW (by decide) (by omega))
  have f30 : h15 (ad_18 20 w.toNat) = some (eI D 96 (c 20 w.toNat)) := by have q9 := f29; rw [cAdd_o (by decide)] at q9; exact q9
  refine x_aload C dX7_copy_22 4 rfl ?_
  have f31 : h15 (ad_18 10 L) = some (eO 3 [vI (((cAdd c L p (((w.toNat + 1 : Nat) : Int))) 10 L) 0), va_rf (prf ad_18 (((cAdd c L p (((w.toNat + 1 : Nat) : Int))) 10 L) 1)), .ref (ad_18 11 L), .ref (ad_18 14 L), vI (((cAdd c L p (((w.toNat + 1 : Nat) : Int))) 10 L) 4), vI (((cAdd c L p (((w.toNat + 1 : Nat) : Int))) 10 L) 5)]) := cp19.1.1 10 L (lvL (by decide) (by omega))
  refine x_getN (host := "LedgeLevels") C (v := .ref (ad_18 11 L)) f31 (T := TX3) rfl kX7_copy_1 2 (by decide) kX7_copy_0 rfl dX7_copy_24 ?_
  refine x_aload_n C dX7_copy_27 3 rfl ?_
  have f32 : h15 (ad_18 18 w.toNat) = some (eO 6 [vI (((cAdd c L p (((w.toNat + 1 : Nat) : Int))) 18 w.toNat) 0), vI (((cAdd c L p (((w.toNat + 1 : Nat) : Int))) 18 w.toNat) 1), va_rf (prf ad_18 (((cAdd c L p (((w.toNat + 1 : Nat) : Int))) 18 w.toNat) 2)), .ref (ad_18 19 w.toNat), vI (((cAdd c L p (((w.toNat + 1 : Nat) : Int))) 18 w.toNat) 4), .ref (ad_18 22 w.toNat), vI (((cAdd c L p (((w.toNat + 1 : Nat) : Int))) 18 w.toNat) 6), vI (((cAdd c L p (((w.toNat + 1 : Nat) : Int))) 18 w.toNat) 7)]) := cp19.1.1 18 w.toNat (lvW (by decide) (by omega))
  refine x_getN (host := "LedgeLevels") C (v := .ref (ad_18 19 w.toNat)) f32 (T := TX6) rfl kX7_copy_3 3 (by decide) kX7_copy_2 rfl dX7_copy_28 ?_
  refine x_callV C (n := 1) (qc := (RX1, TX1, 3)) (As := [.ref (ad_18 19 w.toNat)]) (rest := []) (c_X1_putAllOf f26 f22 f24 f28 f30 ((cp19.1.ne (lvW (by decide) (by omega)) (lvL (by decide) (by omega)) (fun zz9 => absurd zz9.1 (by decide)))) ((cp19.1.ne (lvW (by decide) (by omega)) (lvL (by decide) (by omega)) (fun zz9 => absurd zz9.1 (by decide)))) (fun j => ⟨by decide, by decide⟩) (fun j => by split <;> exact ⟨by decide, by decide⟩) (g1)) gX7_copy_X1_putAllOf (by decide +kernel) f26 rfl rfl rfl rfl (Nat.le_of_ble_eq_true rfl) ⟨by decide, by decide⟩ ⟨(by decide), (by decide)⟩ dX7_copy_31 (fun rv33 h34 hp35 => ?_)
  obtain ⟨rfl, e36⟩ := hp35
  have f37 : h34 (ad_18 11 L) = some (eO 1 [.ref (ad_18 12 L), .ref (ad_18 13 L), vI ((gna (c 20 w.toNat) (fun _ => 0) (fun j => if j < 3 then -1 else 0) 0 96 : Nat) : Int)]) := by rw [e36]; exact hu_s
  have f38 : h34 (ad_18 13 L) = some (eI D 3 (gnq (c 20 w.toNat) (fun _ => 0) (fun j => if j < 3 then -1 else 0) 96)) := by rw [e36, hu_n (cp19.1.ne (lvL (by decide) (by omega)) (lvL (by decide) (by omega)) (fun zz9 => absurd zz9.1 (by decide)))]; exact hu_s
  have f39 : h34 (ad_18 12 L) = some (eI D 96 (gnf (c 20 w.toNat) (fun _ => 0) 96)) := by rw [e36, hu_n (cp19.1.ne (lvL (by decide) (by omega)) (lvL (by decide) (by omega)) (fun zz9 => absurd zz9.1 (by decide))), hu_n (cp19.1.ne (lvL (by decide) (by omega)) (lvL (by decide) (by omega)) (fun zz9 => absurd zz9.1 (by decide)))]; exact hu_s
  refine x_aload C dX7_copy_34 4 rfl ?_
  refine x_aload_n C dX7_copy_36 3 rfl ?_
  have f40 : h34 (ad_18 18 w.toNat) = some (eO 6 [vI (((cAdd c L p (((w.toNat + 1 : Nat) : Int))) 18 w.toNat) 0), vI (((cAdd c L p (((w.toNat + 1 : Nat) : Int))) 18 w.toNat) 1), va_rf (prf ad_18 (((cAdd c L p (((w.toNat + 1 : Nat) : Int))) 18 w.toNat) 2)), .ref (ad_18 19 w.toNat), vI (((cAdd c L p (((w.toNat + 1 : Nat) : Int))) 18 w.toNat) 4), .ref (ad_18 22 w.toNat), vI (((cAdd c L p (((w.toNat + 1 : Nat) : Int))) 18 w.toNat) 6), vI (((cAdd c L p (((w.toNat + 1 : Nat) : Int))) 18 w.toNat) 7)]) := by rw [e36, hu_n (cp19.1.ne (lvW (by decide) (by omega)) (lvL (by decide) (by omega)) (fun zz9 => absurd zz9.1 (by decide))), hu_n (cp19.1.ne (lvW (by decide) (by omega)) (lvL (by decide) (by omega)) (fun zz9 => absurd zz9.1 (by decide))), hu_n (cp19.1.ne (lvW (by decide) (by omega)) (lvL (by decide) (by omega)) (fun zz9 => absurd zz9.1 (by decide)))]; exact f32
  have f41 : h34 (ad_18 18 w.toNat) = some (eO 6 [vI (c 18 w.toNat 0), vI (c 18 w.toNat 1), va_rf (prf ad_18 (c 18 w.toNat 2)), .ref (ad_18 19 w.toNat), vI (c 18 w.toNat 4), .ref (ad_18 22 w.toNat), vI (c 18 w.toNat 6), vI (c 18 w.toNat 7)]) := by have q9 := f40; rw [cAdd_o (by decide)] at q9; exact q9
  have f42 : h34 (ad_18 10 L) = some (eO 3 [vI (((cAdd c L p (((w.toNat + 1 : Nat) : Int))) 10 L) 0), va_rf (prf ad_18 (((cAdd c L p (((w.toNat + 1 : Nat) : Int))) 10 L) 1)), .ref (ad_18 11 L), .ref (ad_18 14 L), vI (((cAdd c L p (((w.toNat + 1 : Nat) : Int))) 10 L) 4), vI (((cAdd c L p (((w.toNat + 1 : Nat) : Int))) 10 L) 5)]) := by rw [e36, hu_n (cp19.1.ne (lvL (by decide) (by omega)) (lvL (by decide) (by omega)) (fun zz9 => absurd zz9.1 (by decide))), hu_n (cp19.1.ne (lvL (by decide) (by omega)) (lvL (by decide) (by omega)) (fun zz9 => absurd zz9.1 (by decide))), hu_n (cp19.1.ne (lvL (by decide) (by omega)) (lvL (by decide) (by omega)) (fun zz9 => absurd zz9.1 (by decide)))]; exact f31
  have f43 : h34 (ad_18 10 L) = some (eO 3 [vI p, .ref (ad_18 18 w.toNat), .ref (ad_18 11 L), .ref (ad_18 14 L), vI 72, vI (-2)]) := by have q9 := f42; rw [cAdd_l (by decide)] at q9; exact q9
  refine x_getN (host := "LedgeLevels") C (v := vI (c 18 w.toNat 4)) f41 (T := TX6) rfl kX7_copy_3 4 (by decide) kX7_copy_4 rfl dX7_copy_37 ?_
  refine x_putN (host := "LedgeLevels") C f43 (T := TX3) rfl tyX3_ok nmX3 kX7_copy_1 4 (by decide) kX7_copy_5 rfl (fs' := [vI p, .ref (ad_18 18 w.toNat), .ref (ad_18 11 L), .ref (ad_18 14 L), vI (c 18 w.toNat 4), vI (-2)]) rfl rfl (by simp) rfl dX7_copy_40 (x_hn (fun h44 e45 => ?_))
  have f46 : h44 (ad_18 10 L) = some (eO 3 [vI p, .ref (ad_18 18 w.toNat), .ref (ad_18 11 L), .ref (ad_18 14 L), vI (c 18 w.toNat 4), vI (-2)]) := by rw [e45]; exact hu_s
  refine x_aload_n C dX7_copy_43 0 rfl ?_
  have f47 : h15 (ad_18 0 0) = some (eO 7 [.ref (ad_18 1 0), .ref (ad_18 2 0), .ref (ad_18 3 0), .ref (ad_18 4 0), .ref (ad_18 5 0), vI (((cAdd c L p (((w.toNat + 1 : Nat) : Int))) 0 0) 5), vI (((cAdd c L p (((w.toNat + 1 : Nat) : Int))) 0 0) 6)]) := cp19.1.1 0 0 (lv0 (by decide))
  have f48 : h34 (ad_18 0 0) = some (eO 7 [.ref (ad_18 1 0), .ref (ad_18 2 0), .ref (ad_18 3 0), .ref (ad_18 4 0), .ref (ad_18 5 0), vI (((cAdd c L p (((w.toNat + 1 : Nat) : Int))) 0 0) 5), vI (((cAdd c L p (((w.toNat + 1 : Nat) : Int))) 0 0) 6)]) := by rw [e36, hu_n (cp19.1.ne (lv0 (by decide)) (lvL (by decide) (by omega)) (fun zz9 => absurd zz9.1 (by decide))), hu_n (cp19.1.ne (lv0 (by decide)) (lvL (by decide) (by omega)) (fun zz9 => absurd zz9.1 (by decide))), hu_n (cp19.1.ne (lv0 (by decide)) (lvL (by decide) (by omega)) (fun zz9 => absurd zz9.1 (by decide)))]; exact f47
  have f49 : h44 (ad_18 0 0) = some (eO 7 [.ref (ad_18 1 0), .ref (ad_18 2 0), .ref (ad_18 3 0), .ref (ad_18 4 0), .ref (ad_18 5 0), vI (((cAdd c L p (((w.toNat + 1 : Nat) : Int))) 0 0) 5), vI (((cAdd c L p (((w.toNat + 1 : Nat) : Int))) 0 0) 6)]) := by rw [e45, hu_n (cp19.1.ne (lv0 (by decide)) (lvL (by decide) (by omega)) (fun zz9 => absurd zz9.1 (by decide)))]; exact f48
  have f50 : h44 (ad_18 0 0) = some (eO 7 [.ref (ad_18 1 0), .ref (ad_18 2 0), .ref (ad_18 3 0), .ref (ad_18 4 0), .ref (ad_18 5 0), vI ((L + 1 : Nat) : Int), vI (c 0 0 6)]) := by have q9 := f49; exact q9
  refine x_get C (v := vI ((L + 1 : Nat) : Int)) f50 (T := TX7) rfl kX7_copy_7 5 (by decide) kX7_copy_6 rfl dX7_copy_44 ?_
  refine x_iconst C dX7_copy_47 1 (by decide) ?_
  refine x_isub C dX7_copy_48 ?_
  refine x_topv (show (((L + 1 : Nat) : Int)) - 1 = (L : Int) from by omega) ?_
  refine x_iret C G dX7_copy_49 ?_ (by decide) (by decide)
  have cp51 : CP D ad_18 (L + 1) W h (cu (cu (cu (cu (cAdd c L p (((w.toNat + 1 : Nat) : Int))) 12 L (gnf (c 20 w.toNat) (fun _ => 0) 96)) 13 L (gnq (c 20 w.toNat) (fun _ => 0) (fun j => if j < 3 then -1 else 0) 96)) 11 L (oF [0, 0, ((gna (c 20 w.toNat) (fun _ => 0) (fun j => if j < 3 then -1 else 0) 0 96 : Nat) : Int)])) 10 L (oF [p, ((w.toNat + 1 : Nat) : Int), 0, 0, c 18 w.toNat 4, (-2)])) h44 := by rw [e45, e36]; exact (CP.up (CP.up (CP.up (CP.up cp19 (lvL (by decide) (by omega)) (gnf (c 20 w.toNat) (fun _ => 0) 96) rfl) (lvL (by decide) (by omega)) (gnq (c 20 w.toNat) (fun _ => 0) (fun j => if j < 3 then -1 else 0) 96) rfl) (lvL (by decide) (by omega)) (oF [0, 0, ((gna (c 20 w.toNat) (fun _ => 0) (fun j => if j < 3 then -1 else 0) 0 96 : Nat) : Int)]) rfl) (lvL (by decide) (by omega)) (oF [p, ((w.toNat + 1 : Nat) : Int), 0, 0, c 18 w.toNat 4, (-2)]) rfl)
  exact ⟨ad_18, rfl, cp51, hGr_17, by omega⟩

theorem kX7_offer_0 : Cond.fieldLinkNest "LedgeLevels" 109 "LedgeLevels$Level" "proof" "I" "LedgeLevels" ∈ nwAll := by decide +kernel
theorem kX7_offer_1 : ∀ w ∈ wsX30, w ∈ wsX7_offer := by decide +kernel
theorem kX7_offer_2 : Cond.fieldLink "LedgeLevels" 44 "LedgeLevels" "workCount" "I" ∈ wsX7_offer := by decide +kernel
theorem kX7_offer_3 : ∀ w ∈ wsX70, w ∈ wsX7_offer := by decide +kernel
theorem kX7_offer_4 : Cond.fieldLink "LedgeLevels" 21 "LedgeLevels" "works" "[LLedgeLevels$Work;" ∈ wsX7_offer := by decide +kernel
theorem kX7_offer_5 : ∀ w ∈ wsX60, w ∈ wsX7_offer := by decide +kernel
theorem kX7_offer_6 : Cond.classLink "LedgeLevels" 19 "LedgeLevels$Work" ∈ wsX7_offer := by decide +kernel
theorem kX7_offer_7 : Cond.instantiable "LedgeLevels$Work" 8 ∈ wsX7_offer := by decide +kernel
theorem kX7_offer_8 : Cond.initialized "LedgeLevels$Work" ∈ wsX7_offer := by decide +kernel
theorem kX7_offer_9 : Cond.instanceMethod yX6_init ∈ wsX7_offer := by decide +kernel
theorem kX7_offer_10 : Cond.methodLink "LedgeLevels" 170 yX6_init ∈ wsX7_offer := by decide +kernel
theorem kX7_offer_11 : Cond.classLink "LedgeLevels" 88 "java/lang/IllegalStateException" ∈ wsX7_offer := by decide +kernel
theorem kX7_offer_12 : Cond.initialized "java/lang/IllegalStateException" ∈ wsX7_offer := by decide +kernel
theorem kX7_offer_13 : ∀ w ∈ (vx_atS "LedgeLevels" 92 "java/lang/IllegalStateException" ["java/lang/RuntimeException", "java/lang/Exception"]).filter goodWord, w ∈ wsX7_offer := by decide +kernel
set_option maxRecDepth 100000 in
set_option maxHeartbeats 1000000 in
theorem c_X7_offer {l : Launch} {D : va_G} {A : Nat → Prop} {h : vh} {ad : AD} {c : CS} {L W : Nat} {u : Int}  (hR : RepC D ad c L W h) (hC : Cok c L W) (hi_u : -2147483648 ≤ u ∧ u ≤ 2147483647) : TX l D A yX7_offer wsX7_offer { frames := 7, cells := 6, slots := 122, locals := 112 } [.ref (ad 0 0), vI u] h (fun rv h' => ∃ (ad9 : AD), rv = some (vI (W : Int)) ∧ CP D ad9 L (W + 1) h (cOff c W (c 10 u.toNat 0) (c 10 u.toNat 1) (c 10 u.toNat 4) (c 10 u.toNat 5) (c 12 u.toNat)) h' ∧ (Grown ad ad9 L W L (W + 1) h) ∧ ((0 ≤ u ∧ u < (L : Int)) ∧ 0 ≤ c 10 u.toNat 5 ∧ W < 20)) (XP (¬ (0 ≤ u ∧ u < (L : Int))) False ((0 ≤ u ∧ u < (L : Int)) ∧ (c 10 u.toNat 5 < 0 ∨ ¬ W < 20)) h) := by
  refine TX.of (cc := cX7_offer) (maxL := 3) (ret := (some .int)) [(0, .ref (ad 0 0)), (1, vI u)] (by decide +kernel) rfl rfl (Nat.le_of_ble_eq_true rfl) ?_
  intro κ C hkl G GT
  subst hkl
  have C : CX κ "LedgeLevels" "offer" cX7_offer wsX7_offer { frames := 7, cells := 6, slots := 122, locals := 112 } D A 3 := C
  have hiz : nq (D.1 20) (D.1 21) := cx_iz C
  obtain ⟨hO1, q2, q3, q4, q5⟩ := id hC
  obtain ⟨o1, o2, o3, o4, o5, o6, o7⟩ := id hO1
  refine x_aload_n C dX7_offer_0 0 rfl ?_
  refine x_iload_n C dX7_offer_1 1 rfl ?_
  have f1 : h (ad 0 0) = some (eO 7 [.ref (ad 1 0), .ref (ad 2 0), .ref (ad 3 0), .ref (ad 4 0), .ref (ad 5 0), vI (c 0 0 5), vI (c 0 0 6)]) := hR.1 0 0 (lv0 (by decide))
  refine x_callVt C (n := 1) (qc := (RX7, TX7, 7)) (As := [vI u]) (rest := []) (c_X7_levelOf (hR) (by assumption) (by omega)) gX7_offer_X7_levelOf (by decide +kernel) f1 rfl rfl rfl rfl (Nat.le_of_ble_eq_true rfl) ⟨by decide, by decide⟩ ⟨(by decide), (by decide)⟩ dX7_offer_2 GT (by decide) (by decide) (fun E h9 hx9 => XP.imp hx9 (fun z9 => by first | exact z9.elim | omega) (fun z9 => by first | exact z9.elim | omega) (fun z9 => by first | exact z9.elim | omega)) (fun rv2 h3 hp4 => ?_)
  obtain ⟨rfl, e5, hu_2⟩ := hp4
  obtain rfl := e5.symm
  obtain ⟨⟨g1, g2, g3⟩, ⟨e0, e1, e2, e3⟩, ⟨k1, k2, k3, k4⟩⟩ := q3 u.toNat (by omega)
  refine x_astore_n C (ls' := [(0, .ref (ad 0 0)), (1, vI u), (2, .ref (ad 10 u.toNat))]) dX7_offer_5 (by decide) rfl ?_
  refine x_aload_n C dX7_offer_6 2 rfl ?_
  have f6 : h (ad 10 u.toNat) = some (eO 3 [vI (c 10 u.toNat 0), va_rf (prf ad (c 10 u.toNat 1)), .ref (ad 11 u.toNat), .ref (ad 14 u.toNat), vI (c 10 u.toNat 4), vI (c 10 u.toNat 5)]) := hR.1 10 u.toNat (lvL (by decide) (by omega))
  refine x_getN (host := "LedgeLevels") C (v := vI (c 10 u.toNat 5)) f6 (T := TX3) rfl kX7_offer_1 5 (by decide) kX7_offer_0 rfl dX7_offer_7 ?_
  refine x_if_ge (tgt := 23) C dX7_offer_10 (by decide) (by omega) (fun c7 => ?_) (fun c7 => ?_)
  · skip
    refine x_aload_n C dX7_offer_23 0 rfl ?_
    refine x_get C (v := vI (c 0 0 6)) f1 (T := TX7) rfl kX7_offer_3 6 (by decide) kX7_offer_2 rfl dX7_offer_24 ?_
    refine x_aload_n C dX7_offer_27 0 rfl ?_
    refine x_get C (v := .ref (ad 3 0)) f1 (T := TX7) rfl kX7_offer_3 2 (by decide) kX7_offer_4 rfl dX7_offer_28 ?_
    have f8 : h (ad 3 0) = some (eR D 24 20 ((fun j => if j < (c 3 0 0).toNat then some (ad 18 j) else none))) := hR.1 3 0 (lv0 (by decide))
    refine x_alen C f8 (t0 := 4) rfl 20 rfl dX7_offer_31 ?_
    refine x_icmp_lt (tgt := 45) C dX7_offer_32 (by decide) (by omega) (by omega) (fun c9 => ?_) (fun c9 => ?_)
    · skip
      refine x_aload_n C dX7_offer_45 0 rfl ?_
      refine x_get C (v := .ref (ad 3 0)) f1 (T := TX7) rfl kX7_offer_3 2 (by decide) kX7_offer_4 rfl dX7_offer_46 ?_
      refine x_aload_n C dX7_offer_49 0 rfl ?_
      refine x_get C (v := vI (c 0 0 6)) f1 (T := TX7) rfl kX7_offer_3 6 (by decide) kX7_offer_2 rfl dX7_offer_50 ?_
      refine x_new C (ci := 6) (T := TX6) (fs := [vI 0, vI 0, .null, .null, vI 0, .null, vI 0, vI 0]) rfl tyX6_ok kX7_offer_5 kX7_offer_6 kX7_offer_7 kX7_offer_8 (by intro j hj; rcases (show j = 0 ∨ j = 1 ∨ j = 2 ∨ j = 3 ∨ j = 4 ∨ j = 5 ∨ j = 6 ∨ j = 7 by omega) with rfl | rfl | rfl | rfl | rfl | rfl | rfl | rfl <;> rfl) (by decide) (by decide) dX7_offer_53 (fun q10 nq13 => x_hn (fun h11 e12 => ?_))
      have nb14 : h q10 = none := nq13
      have f15 : h11 q10 = some (eO 6 [vI 0, vI 0, .null, .null, vI 0, .null, vI 0, vI 0]) := by rw [e12]; exact hu_s
      refine x_dup C dX7_offer_56 rfl ?_
      refine x_aload_n C dX7_offer_57 0 rfl ?_
      have f16 : h11 (ad 0 0) = some (eO 7 [.ref (ad 1 0), .ref (ad 2 0), .ref (ad 3 0), .ref (ad 4 0), .ref (ad 5 0), vI (c 0 0 5), vI (c 0 0 6)]) := by rw [e12, hu_n (vnn f1 nb14)]; exact f1
      refine x_get C (v := vI (c 0 0 6)) f16 (T := TX7) rfl kX7_offer_3 6 (by decide) kX7_offer_2 rfl dX7_offer_58 ?_
      refine x_aload_n C dX7_offer_61 2 rfl ?_
      have f17 : h11 (ad 10 u.toNat) = some (eO 3 [vI (c 10 u.toNat 0), va_rf (prf ad (c 10 u.toNat 1)), .ref (ad 11 u.toNat), .ref (ad 14 u.toNat), vI (c 10 u.toNat 4), vI (c 10 u.toNat 5)]) := by rw [e12, hu_n (vnn f6 nb14)]; exact f6
      have f18 : h (ad 11 u.toNat) = some (eO 1 [.ref (ad 12 u.toNat), .ref (ad 13 u.toNat), vI (((c 11 u.toNat 2).toNat : Nat) : Int)]) := hR.1 11 u.toNat (lvL (by decide) (by omega))
      have f19 : h11 (ad 11 u.toNat) = some (eO 1 [.ref (ad 12 u.toNat), .ref (ad 13 u.toNat), vI (((c 11 u.toNat 2).toNat : Nat) : Int)]) := by rw [e12, hu_n (vnn f18 nb14)]; exact f18
      have f20 : h (ad 12 u.toNat) = some (eI D 96 (c 12 u.toNat)) := hR.1 12 u.toNat (lvL (by decide) (by omega))
      have f21 : h11 (ad 12 u.toNat) = some (eI D 96 (c 12 u.toNat)) := by rw [e12, hu_n (vnn f20 nb14)]; exact f20
      refine x_callI C (n := 2) (As := [vI (c 0 0 6), .ref (ad 10 u.toNat)]) (rest := [.ref q10, vI (c 0 0 6), .ref (ad 3 0)]) (c_X6_init f15 f17 f19 f21 (by assumption)) gX7_offer_X6_init kX7_offer_8 kX7_offer_10 kX7_offer_9 rfl (by decide +kernel) rfl rfl rfl (Nat.le_of_ble_eq_true rfl) ⟨by decide, by decide⟩ ⟨(by decide), (by decide)⟩ dX7_offer_62 (fun rv22 h23 hp24 => ?_)
      obtain ⟨rfl, g, ak, aq, gi, hn4, hE5, keep⟩ := hp24
      have hE0 := hE5.1
      rw [o2] at hE0
      obtain ⟨hG, hGr⟩ := growWork (nu := (W : Int)) (au := c 10 u.toNat 0) (pr := c 10 u.toNat 1) (st := c 10 u.toNat 4) (pf := c 10 u.toNat 5) (f := c 12 u.toNat) hR o4 (fun i hi => (q3 i hi).2.1.2.1.2) (fun i hi => (q4 i hi).2.2.2.1.2) (fun i hi => (q5 i hi).1.2) e1.2 rfl nb14 e12 hn4 ⟨hE0, hE5.2⟩ keep
      have f26 : h11 (ad 3 0) = some (eR D 24 20 ((fun j => if j < (c 3 0 0).toNat then some (ad 18 j) else none))) := by rw [e12, hu_n (vnn f8 nb14)]; exact f8
      have f27 : h23 (ad 3 0) = some (eR D 24 20 ((fun j => if j < (c 3 0 0).toNat then some (ad 18 j) else none))) := keep (ad 3 0) _ ((vnn f8 nb14)) f26
      refine x_aast C (t0 := 4) f27 rfl hE0 rfl ⟨by omega, by omega⟩ (by decide) dX7_offer_65 (x_hn (fun h28 e29 => ?_))
      have f30 : h28 (ad 3 0) = some (eR D 24 20 (va_up ((fun j => if j < (c 3 0 0).toNat then some (ad 18 j) else none)) (Int.toNat (c 0 0 6)) (some q10))) := by rw [e29]; exact hu_s
      refine x_aload_n C dX7_offer_66 0 rfl ?_
      refine x_dup C dX7_offer_67 rfl ?_
      have f31 : h23 (ad 0 0) = some (eO 7 [.ref (ad 1 0), .ref (ad 2 0), .ref (ad 3 0), .ref (ad 4 0), .ref (ad 5 0), vI (c 0 0 5), vI (c 0 0 6)]) := keep (ad 0 0) _ ((vnn f1 nb14)) f16
      have f32 : h28 (ad 0 0) = some (eO 7 [.ref (ad 1 0), .ref (ad 2 0), .ref (ad 3 0), .ref (ad 4 0), .ref (ad 5 0), vI (c 0 0 5), vI (c 0 0 6)]) := by rw [e29, hu_n (hR.ne (lv0 (by decide)) (lv0 (by decide)) (fun zz9 => absurd zz9.1 (by decide)))]; exact f31
      refine x_get C (v := vI (c 0 0 6)) f32 (T := TX7) rfl kX7_offer_3 6 (by decide) kX7_offer_2 rfl dX7_offer_68 ?_
      refine x_iconst C dX7_offer_71 1 (by decide) ?_
      refine x_iadd C dX7_offer_72 ?_
      refine x_put C f32 (T := TX7) rfl tyX7_ok nmX7 kX7_offer_3 6 (by decide) kX7_offer_2 rfl (fs' := [.ref (ad 1 0), .ref (ad 2 0), .ref (ad 3 0), .ref (ad 4 0), .ref (ad 5 0), vI (c 0 0 5), vI ((c 0 0 6) + 1)]) rfl rfl (by simp) rfl dX7_offer_73 (x_hn (fun h33 e34 => ?_))
      have f35 : h33 (ad 0 0) = some (eO 7 [.ref (ad 1 0), .ref (ad 2 0), .ref (ad 3 0), .ref (ad 4 0), .ref (ad 5 0), vI (c 0 0 5), vI ((c 0 0 6) + 1)]) := by rw [e34]; exact hu_s
      refine x_aload_n C dX7_offer_76 0 rfl ?_
      refine x_get C (v := vI ((c 0 0 6) + 1)) f35 (T := TX7) rfl kX7_offer_3 6 (by decide) kX7_offer_2 rfl dX7_offer_77 ?_
      refine x_iconst C dX7_offer_80 1 (by decide) ?_
      refine x_isub C dX7_offer_81 ?_
      refine x_topv (show ((c 0 0 6) + 1) - 1 = (W : Int) from by omega) ?_
      refine x_iret C G dX7_offer_82 ?_ (by decide) (by decide)
      refine ⟨(adG ad 18 23 W (naW q10 g ak aq gi)), rfl, ?_, hGr, by omega⟩
      rw [e34, e29]
      exact CP.up (CP.up hG (lv0 (by decide)) (oF [((W + 1 : Nat) : Int)]) (by rw [show Int.toNat (c 0 0 6) = W by omega]; exact rowWrk o4 rfl)) (lv0 (by decide)) (oF [0, 0, 0, 0, 0, c 0 0 5, ((W + 1 : Nat) : Int)]) (by rw [o2]; rfl)
    · skip
      refine x_throwS C GT (cls := "java/lang/IllegalStateException") (text := "too many works") (names := ["java/lang/RuntimeException", "java/lang/Exception"]) (by decide +kernel) (by decide +kernel) kX7_offer_11 kX7_offer_12 (by decide +kernel) kX7_offer_13 (by decide +kernel) (by decide +kernel) dX7_offer_35 dX7_offer_38 dX7_offer_39 dX7_offer_41 dX7_offer_44 (by decide) (by decide) (by decide) (by decide) (by decide) (by decide) ?_
      exact ⟨rfl, Or.inr (Or.inr ⟨rfl, by omega⟩)⟩
  · skip
    refine x_throwS C GT (cls := "java/lang/IllegalStateException") (text := "no proof with a shortest run") (names := ["java/lang/RuntimeException", "java/lang/Exception"]) (by decide +kernel) (by decide +kernel) kX7_offer_11 kX7_offer_12 (by decide +kernel) kX7_offer_13 (by decide +kernel) (by decide +kernel) dX7_offer_13 dX7_offer_16 dX7_offer_17 dX7_offer_19 dX7_offer_22 (by decide) (by decide) (by decide) (by decide) (by decide) (by decide) ?_
    exact ⟨rfl, Or.inr (Or.inr ⟨rfl, by omega⟩)⟩


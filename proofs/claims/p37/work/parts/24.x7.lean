/-! ===== bounds of the numbers ===== -/
def Ok1 (c : CS) (L W : Nat) : Prop := c 0 0 5 = (L : Int) ∧ c 0 0 6 = (W : Int) ∧ c 2 0 0 = (L : Int) ∧ c 3 0 0 = (W : Int) ∧ c 4 0 0 = 6 ∧ L ≤ 12 ∧ W ≤ 20
def OkG (f q : Nat → Int) (a : Int) : Prop := (∀ j, 0 ≤ f j ∧ f j ≤ 8) ∧ (∀ j, -1 ≤ q j ∧ q j ≤ 95) ∧ 0 ≤ a ∧ a < 8
def OkL (c : CS) (W i : Nat) : Prop := (0 ≤ c 10 i 0 ∧ c 10 i 0 ≤ 5) ∧ (0 ≤ c 10 i 1 ∧ c 10 i 1 ≤ (W : Int)) ∧ (0 ≤ c 10 i 4 ∧ c 10 i 4 ≤ 95) ∧ (-2 ≤ c 10 i 5 ∧ c 10 i 5 ≤ 7000)
def OkH (c : CS) (i : Nat) : Prop := (0 ≤ c 14 i 3 ∧ 0 ≤ c 14 i 4 ∧ c 14 i 3 + c 14 i 4 ≤ 40) ∧ (∀ j, 0 ≤ c 15 i j ∧ c 15 i j ≤ 95) ∧ (∀ j, 0 ≤ c 16 i j ∧ c 16 i j ≤ 8) ∧ ∀ j, 0 ≤ c 17 i j ∧ c 17 i j ≤ 8
def OkW (c : CS) (i : Nat) : Prop := c 18 i 0 = (i : Int) ∧ (0 ≤ c 18 i 1 ∧ c 18 i 1 ≤ 5) ∧ (0 ≤ c 18 i 2 ∧ c 18 i 2 ≤ (i : Int)) ∧ (0 ≤ c 18 i 4 ∧ c 18 i 4 ≤ 95) ∧ (-1 ≤ c 18 i 6 ∧ c 18 i 6 ≤ 7000) ∧ (-1 ≤ c 18 i 7 ∧ c 18 i 7 ≤ 300) ∧ ∀ j, 0 ≤ c 22 i j ∧ c 22 i j ≤ 5
def OkR (c : CS) (W p : Nat) : Prop := (0 ≤ c 23 p 1 ∧ c 23 p 1 ≤ (W : Int)) ∧ (0 ≤ c 23 p 2 ∧ c 23 p 2 ≤ 4) ∧ (0 ≤ c 23 p 3 ∧ c 23 p 3 ≤ 200) ∧ (c 23 p 2 = 1 → 1 ≤ c 23 p 1 ∧ c 24 p 4 = 1) ∧ (0 ≤ c 24 p 1 ∧ c 24 p 1 ≤ 95) ∧ (-4 ≤ c 24 p 2 ∧ c 24 p 2 ≤ 3) ∧ (0 ≤ c 24 p 3 ∧ c 24 p 3 < 8) ∧ (0 ≤ c 24 p 4 ∧ c 24 p 4 ≤ 4)
def OkS (c : CS) : Prop := SSok (c 5 0 4) ((c 5 0 5).toNat, c 7 0, c 8 0, c 9 0, c 5 0 6) ∧ 0 ≤ c 5 0 4 ∧ c 5 0 4 ≤ 900000
def Cok (c : CS) (L W : Nat) : Prop := Ok1 c L W ∧ (∀ j, 0 ≤ c 1 0 j ∧ c 1 0 j ≤ 4) ∧ (∀ i, i < L → OkG (c 12 i) (c 13 i) (c 11 i 2) ∧ OkL c W i ∧ OkH c i) ∧ (∀ i, i < W → OkG (c 20 i) (c 21 i) (c 19 i 2) ∧ OkW c i) ∧ ∀ p, p < 6 → OkR c W p

theorem kX7_levelOf_0 : Cond.classLink "LedgeLevels" 267 "java/lang/IndexOutOfBoundsException" ∈ wsX7_levelOf := by decide +kernel
theorem kX7_levelOf_1 : Cond.initialized "java/lang/IndexOutOfBoundsException" ∈ wsX7_levelOf := by decide +kernel
theorem kX7_levelOf_2 : ∀ w ∈ (vx_atS "LedgeLevels" 271 "java/lang/IndexOutOfBoundsException" ["java/lang/RuntimeException", "java/lang/Exception"]).filter goodWord, w ∈ wsX7_levelOf := by decide +kernel
theorem kX7_levelOf_3 : Cond.fieldLink "LedgeLevels" 15 "LedgeLevels" "levels" "[LLedgeLevels$Level;" ∈ wsX7_levelOf := by decide +kernel
theorem kX7_levelOf_4 : ∀ w ∈ wsX70, w ∈ wsX7_levelOf := by decide +kernel
set_option maxRecDepth 100000 in
set_option maxHeartbeats 1000000 in
theorem c_X7_levelOf {l : Launch} {D : va_G} {A : Nat → Prop} {h : vh} {ad : AD} {c : CS} {L W : Nat} {u : Int}  (hR : RepC D ad c L W h) (hO1 : Ok1 c L W) (hi_u : -2147483648 ≤ u ∧ u ≤ 2147483647) : TX l D A yX7_levelOf wsX7_levelOf { frames := 6, cells := 1, slots := 6, locals := 90 } [.ref (ad 0 0), vI u] h (fun rv h' => rv = some (.ref (ad 10 u.toNat)) ∧ h' = h ∧ ((0 ≤ u ∧ u < (L : Int)))) (XP (¬ (0 ≤ u ∧ u < (L : Int))) False False h) := by
  refine TX.of (cc := cX7_levelOf) (maxL := 3) (ret := (some (.object "LedgeLevels$Level"))) [(0, .ref (ad 0 0)), (1, vI u)] (by decide +kernel) rfl rfl (Nat.le_of_ble_eq_true rfl) ?_
  intro κ C hkl G GT
  subst hkl
  have C : CX κ "LedgeLevels" "levelOf" cX7_levelOf wsX7_levelOf { frames := 6, cells := 1, slots := 6, locals := 90 } D A 3 := C
  have hiz : nq (D.1 20) (D.1 21) := cx_iz C
  obtain ⟨o1, o2, o3, o4, o5, o6, o7⟩ := id hO1
  refine x_iload_n C dX7_levelOf_0 1 rfl ?_
  refine x_if_lt (tgt := 22) C dX7_levelOf_1 (by decide) (by omega) (fun c1 => ?_) (fun c1 => ?_)
  · skip
    refine x_null C dX7_levelOf_22 ?_
    refine x_astore_nN C (ls' := [(0, .ref (ad 0 0)), (1, vI u), (2, .null)]) dX7_levelOf_23 (by decide) rfl ?_
    refine x_aload_nN C dX7_levelOf_24 2 rfl ?_
    refine x_ifnonnullN C dX7_levelOf_25 ?_
    refine x_throwSw C GT (cls := "java/lang/IndexOutOfBoundsException") (text := "no such level") (names := ["java/lang/RuntimeException", "java/lang/Exception"]) (by decide +kernel) (by decide +kernel) kX7_levelOf_0 kX7_levelOf_1 (by decide +kernel) kX7_levelOf_2 (by decide +kernel) (by decide +kernel) dX7_levelOf_28 dX7_levelOf_31 dX7_levelOf_32 dX7_levelOf_35 dX7_levelOf_38 (by decide) (by decide) (by decide) (by decide) (by decide) (by decide) ?_
    exact ⟨rfl, Or.inl ⟨rfl, by omega⟩⟩
  · skip
    refine x_iload_n C dX7_levelOf_4 1 rfl ?_
    refine x_aload_n C dX7_levelOf_5 0 rfl ?_
    have f2 : h (ad 0 0) = some (eO 7 [.ref (ad 1 0), .ref (ad 2 0), .ref (ad 3 0), .ref (ad 4 0), .ref (ad 5 0), vI (c 0 0 5), vI (c 0 0 6)]) := hR.1 0 0 (lv0 (by decide))
    refine x_get C (v := .ref (ad 2 0)) f2 (T := TX7) rfl kX7_levelOf_4 1 (by decide) kX7_levelOf_3 rfl dX7_levelOf_6 ?_
    have f3 : h (ad 2 0) = some (eR D 22 12 ((fun j => if j < (c 2 0 0).toNat then some (ad 10 j) else none))) := hR.1 2 0 (lv0 (by decide))
    refine x_alen C f3 (t0 := 2) rfl 12 rfl dX7_levelOf_9 ?_
    refine x_icmp_ge (tgt := 22) C dX7_levelOf_10 (by decide) (by omega) (by omega) (fun c4 => ?_) (fun c4 => ?_)
    · skip
      refine x_null C dX7_levelOf_22 ?_
      refine x_astore_nN C (ls' := [(0, .ref (ad 0 0)), (1, vI u), (2, .null)]) dX7_levelOf_23 (by decide) rfl ?_
      refine x_aload_nN C dX7_levelOf_24 2 rfl ?_
      refine x_ifnonnullN C dX7_levelOf_25 ?_
      refine x_throwSw C GT (cls := "java/lang/IndexOutOfBoundsException") (text := "no such level") (names := ["java/lang/RuntimeException", "java/lang/Exception"]) (by decide +kernel) (by decide +kernel) kX7_levelOf_0 kX7_levelOf_1 (by decide +kernel) kX7_levelOf_2 (by decide +kernel) (by decide +kernel) dX7_levelOf_28 dX7_levelOf_31 dX7_levelOf_32 dX7_levelOf_35 dX7_levelOf_38 (by decide) (by decide) (by decide) (by decide) (by decide) (by decide) ?_
      exact ⟨rfl, Or.inl ⟨rfl, by omega⟩⟩
    · skip
      refine x_aload_n C dX7_levelOf_13 0 rfl ?_
      refine x_get C (v := .ref (ad 2 0)) f2 (T := TX7) rfl kX7_levelOf_4 1 (by decide) kX7_levelOf_3 rfl dX7_levelOf_14 ?_
      refine x_iload_n C dX7_levelOf_17 1 rfl ?_
      refine x_aald C (t0 := 2) (Cn := RX3) f3 rfl ⟨by omega, by omega⟩ (by decide) dX7_levelOf_18 ?_
      rcases Nat.lt_or_ge (Int.toNat u) (c 2 0 0).toNat with hq | hq
      · skip
        refine x_rf_s (if_pos hq) ?_
        refine x_goto (tgt := 23) C dX7_levelOf_19 (by decide) ?_
        refine x_astore_n C (ls' := [(0, .ref (ad 0 0)), (1, vI u), (2, .ref (ad 10 u.toNat))]) dX7_levelOf_23 (by decide) rfl ?_
        refine x_aload_n C dX7_levelOf_24 2 rfl ?_
        refine x_ifnonnull (tgt := 39) C dX7_levelOf_25 (by decide) ?_
        refine x_aload_n C dX7_levelOf_39 2 rfl ?_
        refine x_aret C G dX7_levelOf_40 ?_ (by decide) (by decide)
        exact ⟨rfl, rfl, by omega⟩
      · skip
        refine x_rf_n (if_neg (by omega)) ?_
        refine x_goto (tgt := 23) C dX7_levelOf_19 (by decide) ?_
        refine x_astore_nN C (ls' := [(0, .ref (ad 0 0)), (1, vI u), (2, .null)]) dX7_levelOf_23 (by decide) rfl ?_
        refine x_aload_nN C dX7_levelOf_24 2 rfl ?_
        refine x_ifnonnullN C dX7_levelOf_25 ?_
        refine x_throwSw C GT (cls := "java/lang/IndexOutOfBoundsException") (text := "no such level") (names := ["java/lang/RuntimeException", "java/lang/Exception"]) (by decide +kernel) (by decide +kernel) kX7_levelOf_0 kX7_levelOf_1 (by decide +kernel) kX7_levelOf_2 (by decide +kernel) (by decide +kernel) dX7_levelOf_28 dX7_levelOf_31 dX7_levelOf_32 dX7_levelOf_35 dX7_levelOf_38 (by decide) (by decide) (by decide) (by decide) (by decide) (by decide) ?_
        exact ⟨rfl, Or.inl ⟨rfl, by omega⟩⟩

theorem kX7_workOf_0 : Cond.classLink "LedgeLevels" 267 "java/lang/IndexOutOfBoundsException" ∈ wsX7_workOf := by decide +kernel
theorem kX7_workOf_1 : Cond.initialized "java/lang/IndexOutOfBoundsException" ∈ wsX7_workOf := by decide +kernel
theorem kX7_workOf_2 : ∀ w ∈ (vx_atS "LedgeLevels" 271 "java/lang/IndexOutOfBoundsException" ["java/lang/RuntimeException", "java/lang/Exception"]).filter goodWord, w ∈ wsX7_workOf := by decide +kernel
theorem kX7_workOf_3 : Cond.fieldLink "LedgeLevels" 21 "LedgeLevels" "works" "[LLedgeLevels$Work;" ∈ wsX7_workOf := by decide +kernel
theorem kX7_workOf_4 : ∀ w ∈ wsX70, w ∈ wsX7_workOf := by decide +kernel
set_option maxRecDepth 100000 in
set_option maxHeartbeats 1000000 in
theorem c_X7_workOf {l : Launch} {D : va_G} {A : Nat → Prop} {h : vh} {ad : AD} {c : CS} {L W : Nat} {w : Int}  (hR : RepC D ad c L W h) (hO1 : Ok1 c L W) (hi_w : -2147483648 ≤ w ∧ w ≤ 2147483647) : TX l D A yX7_workOf wsX7_workOf { frames := 6, cells := 1, slots := 6, locals := 90 } [.ref (ad 0 0), vI w] h (fun rv h' => rv = some (.ref (ad 18 w.toNat)) ∧ h' = h ∧ ((0 ≤ w ∧ w < (W : Int)))) (XP (¬ (0 ≤ w ∧ w < (W : Int))) False False h) := by
  refine TX.of (cc := cX7_workOf) (maxL := 3) (ret := (some (.object "LedgeLevels$Work"))) [(0, .ref (ad 0 0)), (1, vI w)] (by decide +kernel) rfl rfl (Nat.le_of_ble_eq_true rfl) ?_
  intro κ C hkl G GT
  subst hkl
  have C : CX κ "LedgeLevels" "workOf" cX7_workOf wsX7_workOf { frames := 6, cells := 1, slots := 6, locals := 90 } D A 3 := C
  have hiz : nq (D.1 20) (D.1 21) := cx_iz C
  obtain ⟨o1, o2, o3, o4, o5, o6, o7⟩ := id hO1
  refine x_iload_n C dX7_workOf_0 1 rfl ?_
  refine x_if_lt (tgt := 22) C dX7_workOf_1 (by decide) (by omega) (fun c1 => ?_) (fun c1 => ?_)
  · skip
    refine x_null C dX7_workOf_22 ?_
    refine x_astore_nN C (ls' := [(0, .ref (ad 0 0)), (1, vI w), (2, .null)]) dX7_workOf_23 (by decide) rfl ?_
    refine x_aload_nN C dX7_workOf_24 2 rfl ?_
    refine x_ifnonnullN C dX7_workOf_25 ?_
    refine x_throwSw C GT (cls := "java/lang/IndexOutOfBoundsException") (text := "no such work") (names := ["java/lang/RuntimeException", "java/lang/Exception"]) (by decide +kernel) (by decide +kernel) kX7_workOf_0 kX7_workOf_1 (by decide +kernel) kX7_workOf_2 (by decide +kernel) (by decide +kernel) dX7_workOf_28 dX7_workOf_31 dX7_workOf_32 dX7_workOf_35 dX7_workOf_38 (by decide) (by decide) (by decide) (by decide) (by decide) (by decide) ?_
    exact ⟨rfl, Or.inl ⟨rfl, by omega⟩⟩
  · skip
    refine x_iload_n C dX7_workOf_4 1 rfl ?_
    refine x_aload_n C dX7_workOf_5 0 rfl ?_
    have f2 : h (ad 0 0) = some (eO 7 [.ref (ad 1 0), .ref (ad 2 0), .ref (ad 3 0), .ref (ad 4 0), .ref (ad 5 0), vI (c 0 0 5), vI (c 0 0 6)]) := hR.1 0 0 (lv0 (by decide))
    refine x_get C (v := .ref (ad 3 0)) f2 (T := TX7) rfl kX7_workOf_4 2 (by decide) kX7_workOf_3 rfl dX7_workOf_6 ?_
    have f3 : h (ad 3 0) = some (eR D 24 20 ((fun j => if j < (c 3 0 0).toNat then some (ad 18 j) else none))) := hR.1 3 0 (lv0 (by decide))
    refine x_alen C f3 (t0 := 4) rfl 20 rfl dX7_workOf_9 ?_
    refine x_icmp_ge (tgt := 22) C dX7_workOf_10 (by decide) (by omega) (by omega) (fun c4 => ?_) (fun c4 => ?_)
    · skip
      refine x_null C dX7_workOf_22 ?_
      refine x_astore_nN C (ls' := [(0, .ref (ad 0 0)), (1, vI w), (2, .null)]) dX7_workOf_23 (by decide) rfl ?_
      refine x_aload_nN C dX7_workOf_24 2 rfl ?_
      refine x_ifnonnullN C dX7_workOf_25 ?_
      refine x_throwSw C GT (cls := "java/lang/IndexOutOfBoundsException") (text := "no such work") (names := ["java/lang/RuntimeException", "java/lang/Exception"]) (by decide +kernel) (by decide +kernel) kX7_workOf_0 kX7_workOf_1 (by decide +kernel) kX7_workOf_2 (by decide +kernel) (by decide +kernel) dX7_workOf_28 dX7_workOf_31 dX7_workOf_32 dX7_workOf_35 dX7_workOf_38 (by decide) (by decide) (by decide) (by decide) (by decide) (by decide) ?_
      exact ⟨rfl, Or.inl ⟨rfl, by omega⟩⟩
    · skip
      refine x_aload_n C dX7_workOf_13 0 rfl ?_
      refine x_get C (v := .ref (ad 3 0)) f2 (T := TX7) rfl kX7_workOf_4 2 (by decide) kX7_workOf_3 rfl dX7_workOf_14 ?_
      refine x_iload_n C dX7_workOf_17 1 rfl ?_
      refine x_aald C (t0 := 4) (Cn := RX6) f3 rfl ⟨by omega, by omega⟩ (by decide) dX7_workOf_18 ?_
      rcases Nat.lt_or_ge (Int.toNat w) (c 3 0 0).toNat with hq | hq
      · skip
        refine x_rf_s (if_pos hq) ?_
        refine x_goto (tgt := 23) C dX7_workOf_19 (by decide) ?_
        refine x_astore_n C (ls' := [(0, .ref (ad 0 0)), (1, vI w), (2, .ref (ad 18 w.toNat))]) dX7_workOf_23 (by decide) rfl ?_
        refine x_aload_n C dX7_workOf_24 2 rfl ?_
        refine x_ifnonnull (tgt := 39) C dX7_workOf_25 (by decide) ?_
        refine x_aload_n C dX7_workOf_39 2 rfl ?_
        refine x_aret C G dX7_workOf_40 ?_ (by decide) (by decide)
        exact ⟨rfl, rfl, by omega⟩
      · skip
        refine x_rf_n (if_neg (by omega)) ?_
        refine x_goto (tgt := 23) C dX7_workOf_19 (by decide) ?_
        refine x_astore_nN C (ls' := [(0, .ref (ad 0 0)), (1, vI w), (2, .null)]) dX7_workOf_23 (by decide) rfl ?_
        refine x_aload_nN C dX7_workOf_24 2 rfl ?_
        refine x_ifnonnullN C dX7_workOf_25 ?_
        refine x_throwSw C GT (cls := "java/lang/IndexOutOfBoundsException") (text := "no such work") (names := ["java/lang/RuntimeException", "java/lang/Exception"]) (by decide +kernel) (by decide +kernel) kX7_workOf_0 kX7_workOf_1 (by decide +kernel) kX7_workOf_2 (by decide +kernel) (by decide +kernel) dX7_workOf_28 dX7_workOf_31 dX7_workOf_32 dX7_workOf_35 dX7_workOf_38 (by decide) (by decide) (by decide) (by decide) (by decide) (by decide) ?_
        exact ⟨rfl, Or.inl ⟨rfl, by omega⟩⟩

theorem kX7_runOf_0 : Cond.classLink "LedgeLevels" 267 "java/lang/IndexOutOfBoundsException" ∈ wsX7_runOf := by decide +kernel
theorem kX7_runOf_1 : Cond.initialized "java/lang/IndexOutOfBoundsException" ∈ wsX7_runOf := by decide +kernel
theorem kX7_runOf_2 : ∀ w ∈ (vx_atS "LedgeLevels" 271 "java/lang/IndexOutOfBoundsException" ["java/lang/RuntimeException", "java/lang/Exception"]).filter goodWord, w ∈ wsX7_runOf := by decide +kernel
theorem kX7_runOf_3 : Cond.fieldLink "LedgeLevels" 27 "LedgeLevels" "runs" "[LLedgeLevels$Run;" ∈ wsX7_runOf := by decide +kernel
theorem kX7_runOf_4 : ∀ w ∈ wsX70, w ∈ wsX7_runOf := by decide +kernel
set_option maxRecDepth 100000 in
set_option maxHeartbeats 1000000 in
theorem c_X7_runOf {l : Launch} {D : va_G} {A : Nat → Prop} {h : vh} {ad : AD} {c : CS} {L W : Nat} {p : Int}  (hR : RepC D ad c L W h) (hO1 : Ok1 c L W) (hi_p : -2147483648 ≤ p ∧ p ≤ 2147483647) : TX l D A yX7_runOf wsX7_runOf { frames := 6, cells := 1, slots := 6, locals := 90 } [.ref (ad 0 0), vI p] h (fun rv h' => rv = some (.ref (ad 23 p.toNat)) ∧ h' = h ∧ ((0 ≤ p ∧ p < 6))) (XP (¬ (0 ≤ p ∧ p < 6)) False False h) := by
  refine TX.of (cc := cX7_runOf) (maxL := 3) (ret := (some (.object "LedgeLevels$Run"))) [(0, .ref (ad 0 0)), (1, vI p)] (by decide +kernel) rfl rfl (Nat.le_of_ble_eq_true rfl) ?_
  intro κ C hkl G GT
  subst hkl
  have C : CX κ "LedgeLevels" "runOf" cX7_runOf wsX7_runOf { frames := 6, cells := 1, slots := 6, locals := 90 } D A 3 := C
  have hiz : nq (D.1 20) (D.1 21) := cx_iz C
  obtain ⟨o1, o2, o3, o4, o5, o6, o7⟩ := id hO1
  refine x_iload_n C dX7_runOf_0 1 rfl ?_
  refine x_if_lt (tgt := 22) C dX7_runOf_1 (by decide) (by omega) (fun c1 => ?_) (fun c1 => ?_)
  · skip
    refine x_null C dX7_runOf_22 ?_
    refine x_astore_nN C (ls' := [(0, .ref (ad 0 0)), (1, vI p), (2, .null)]) dX7_runOf_23 (by decide) rfl ?_
    refine x_aload_nN C dX7_runOf_24 2 rfl ?_
    refine x_ifnonnullN C dX7_runOf_25 ?_
    refine x_throwSw C GT (cls := "java/lang/IndexOutOfBoundsException") (text := "no such person") (names := ["java/lang/RuntimeException", "java/lang/Exception"]) (by decide +kernel) (by decide +kernel) kX7_runOf_0 kX7_runOf_1 (by decide +kernel) kX7_runOf_2 (by decide +kernel) (by decide +kernel) dX7_runOf_28 dX7_runOf_31 dX7_runOf_32 dX7_runOf_35 dX7_runOf_38 (by decide) (by decide) (by decide) (by decide) (by decide) (by decide) ?_
    exact ⟨rfl, Or.inl ⟨rfl, by omega⟩⟩
  · skip
    refine x_iload_n C dX7_runOf_4 1 rfl ?_
    refine x_aload_n C dX7_runOf_5 0 rfl ?_
    have f2 : h (ad 0 0) = some (eO 7 [.ref (ad 1 0), .ref (ad 2 0), .ref (ad 3 0), .ref (ad 4 0), .ref (ad 5 0), vI (c 0 0 5), vI (c 0 0 6)]) := hR.1 0 0 (lv0 (by decide))
    refine x_get C (v := .ref (ad 4 0)) f2 (T := TX7) rfl kX7_runOf_4 3 (by decide) kX7_runOf_3 rfl dX7_runOf_6 ?_
    have f3 : h (ad 4 0) = some (eR D 23 6 ((fun j => if j < (c 4 0 0).toNat then some (ad 23 j) else none))) := hR.1 4 0 (lv0 (by decide))
    refine x_alen C f3 (t0 := 3) rfl 6 rfl dX7_runOf_9 ?_
    refine x_icmp_ge (tgt := 22) C dX7_runOf_10 (by decide) (by omega) (by omega) (fun c4 => ?_) (fun c4 => ?_)
    · skip
      refine x_null C dX7_runOf_22 ?_
      refine x_astore_nN C (ls' := [(0, .ref (ad 0 0)), (1, vI p), (2, .null)]) dX7_runOf_23 (by decide) rfl ?_
      refine x_aload_nN C dX7_runOf_24 2 rfl ?_
      refine x_ifnonnullN C dX7_runOf_25 ?_
      refine x_throwSw C GT (cls := "java/lang/IndexOutOfBoundsException") (text := "no such person") (names := ["java/lang/RuntimeException", "java/lang/Exception"]) (by decide +kernel) (by decide +kernel) kX7_runOf_0 kX7_runOf_1 (by decide +kernel) kX7_runOf_2 (by decide +kernel) (by decide +kernel) dX7_runOf_28 dX7_runOf_31 dX7_runOf_32 dX7_runOf_35 dX7_runOf_38 (by decide) (by decide) (by decide) (by decide) (by decide) (by decide) ?_
      exact ⟨rfl, Or.inl ⟨rfl, by omega⟩⟩
    · skip
      refine x_aload_n C dX7_runOf_13 0 rfl ?_
      refine x_get C (v := .ref (ad 4 0)) f2 (T := TX7) rfl kX7_runOf_4 3 (by decide) kX7_runOf_3 rfl dX7_runOf_14 ?_
      refine x_iload_n C dX7_runOf_17 1 rfl ?_
      refine x_aald C (t0 := 3) (Cn := RX4) f3 rfl ⟨by omega, by omega⟩ (by decide) dX7_runOf_18 ?_
      rcases Nat.lt_or_ge (Int.toNat p) (c 4 0 0).toNat with hq | hq
      · skip
        refine x_rf_s (if_pos hq) ?_
        refine x_goto (tgt := 23) C dX7_runOf_19 (by decide) ?_
        refine x_astore_n C (ls' := [(0, .ref (ad 0 0)), (1, vI p), (2, .ref (ad 23 p.toNat))]) dX7_runOf_23 (by decide) rfl ?_
        refine x_aload_n C dX7_runOf_24 2 rfl ?_
        refine x_ifnonnull (tgt := 39) C dX7_runOf_25 (by decide) ?_
        refine x_aload_n C dX7_runOf_39 2 rfl ?_
        refine x_aret C G dX7_runOf_40 ?_ (by decide) (by decide)
        exact ⟨rfl, rfl, by omega⟩
      · skip
        refine x_rf_n (if_neg (by omega)) ?_
        refine x_goto (tgt := 23) C dX7_runOf_19 (by decide) ?_
        refine x_astore_nN C (ls' := [(0, .ref (ad 0 0)), (1, vI p), (2, .null)]) dX7_runOf_23 (by decide) rfl ?_
        refine x_aload_nN C dX7_runOf_24 2 rfl ?_
        refine x_ifnonnullN C dX7_runOf_25 ?_
        refine x_throwSw C GT (cls := "java/lang/IndexOutOfBoundsException") (text := "no such person") (names := ["java/lang/RuntimeException", "java/lang/Exception"]) (by decide +kernel) (by decide +kernel) kX7_runOf_0 kX7_runOf_1 (by decide +kernel) kX7_runOf_2 (by decide +kernel) (by decide +kernel) dX7_runOf_28 dX7_runOf_31 dX7_runOf_32 dX7_runOf_35 dX7_runOf_38 (by decide) (by decide) (by decide) (by decide) (by decide) (by decide) ?_
        exact ⟨rfl, Or.inl ⟨rfl, by omega⟩⟩

theorem kX7_checkPerson_0 : Cond.classLink "LedgeLevels" 267 "java/lang/IndexOutOfBoundsException" ∈ wsX7_checkPerson := by decide +kernel
theorem kX7_checkPerson_1 : Cond.initialized "java/lang/IndexOutOfBoundsException" ∈ wsX7_checkPerson := by decide +kernel
theorem kX7_checkPerson_2 : ∀ w ∈ (vx_atS "LedgeLevels" 271 "java/lang/IndexOutOfBoundsException" ["java/lang/RuntimeException", "java/lang/Exception"]).filter goodWord, w ∈ wsX7_checkPerson := by decide +kernel
set_option maxRecDepth 100000 in
set_option maxHeartbeats 1000000 in
theorem c_X7_checkPerson {l : Launch} {D : va_G} {A : Nat → Prop} {h : vh} {ad : AD} {c : CS} {L W : Nat} {p : Int}  (hR : RepC D ad c L W h) (hi_p : -2147483648 ≤ p ∧ p ≤ 2147483647) : TX l D A yX7_checkPerson wsX7_checkPerson { frames := 6, cells := 1, slots := 6, locals := 90 } [vI p] h (fun rv h' => rv = none ∧ h' = h ∧ ((0 ≤ p ∧ p < 6))) (XP (¬ (0 ≤ p ∧ p < 6)) False False h) := by
  refine TX.of (cc := cX7_checkPerson) (maxL := 1) (ret := none) [(0, vI p)] (by decide +kernel) rfl rfl (Nat.le_of_ble_eq_true rfl) ?_
  intro κ C hkl G GT
  subst hkl
  have C : CX κ "LedgeLevels" "checkPerson" cX7_checkPerson wsX7_checkPerson { frames := 6, cells := 1, slots := 6, locals := 90 } D A 1 := C
  have hiz : nq (D.1 20) (D.1 21) := cx_iz C
  refine x_iload_n C dX7_checkPerson_0 0 rfl ?_
  refine x_if_lt (tgt := 10) C dX7_checkPerson_1 (by decide) (by omega) (fun c1 => ?_) (fun c1 => ?_)
  · skip
    refine x_throwSw C GT (cls := "java/lang/IndexOutOfBoundsException") (text := "no such person") (names := ["java/lang/RuntimeException", "java/lang/Exception"]) (by decide +kernel) (by decide +kernel) kX7_checkPerson_0 kX7_checkPerson_1 (by decide +kernel) kX7_checkPerson_2 (by decide +kernel) (by decide +kernel) dX7_checkPerson_10 dX7_checkPerson_13 dX7_checkPerson_14 dX7_checkPerson_17 dX7_checkPerson_20 (by decide) (by decide) (by decide) (by decide) (by decide) (by decide) ?_
    exact ⟨rfl, Or.inl ⟨rfl, by omega⟩⟩
  · skip
    refine x_iload_n C dX7_checkPerson_4 0 rfl ?_
    refine x_bipush C dX7_checkPerson_5 6 (by decide) ?_
    refine x_icmp_lt (tgt := 21) C dX7_checkPerson_7 (by decide) (by omega) (by omega) (fun c2 => ?_) (fun c2 => ?_)
    · skip
      refine x_vret C G dX7_checkPerson_21 ?_ (by decide) (by decide)
      exact ⟨rfl, rfl, by omega⟩
    · skip
      refine x_throwSw C GT (cls := "java/lang/IndexOutOfBoundsException") (text := "no such person") (names := ["java/lang/RuntimeException", "java/lang/Exception"]) (by decide +kernel) (by decide +kernel) kX7_checkPerson_0 kX7_checkPerson_1 (by decide +kernel) kX7_checkPerson_2 (by decide +kernel) (by decide +kernel) dX7_checkPerson_10 dX7_checkPerson_13 dX7_checkPerson_14 dX7_checkPerson_17 dX7_checkPerson_20 (by decide) (by decide) (by decide) (by decide) (by decide) (by decide) ?_
      exact ⟨rfl, Or.inl ⟨rfl, by omega⟩⟩

theorem kX7_checkSpring_0 : Cond.classLink "LedgeLevels" 267 "java/lang/IndexOutOfBoundsException" ∈ wsX7_checkSpring := by decide +kernel
theorem kX7_checkSpring_1 : Cond.initialized "java/lang/IndexOutOfBoundsException" ∈ wsX7_checkSpring := by decide +kernel
theorem kX7_checkSpring_2 : ∀ w ∈ (vx_atS "LedgeLevels" 271 "java/lang/IndexOutOfBoundsException" ["java/lang/RuntimeException", "java/lang/Exception"]).filter goodWord, w ∈ wsX7_checkSpring := by decide +kernel
set_option maxRecDepth 100000 in
set_option maxHeartbeats 1000000 in
theorem c_X7_checkSpring {l : Launch} {D : va_G} {A : Nat → Prop} {h : vh} {ad : AD} {c : CS} {L W : Nat} {s : Int}  (hR : RepC D ad c L W h) (hi_s : -2147483648 ≤ s ∧ s ≤ 2147483647) : TX l D A yX7_checkSpring wsX7_checkSpring { frames := 6, cells := 1, slots := 6, locals := 90 } [vI s] h (fun rv h' => rv = none ∧ h' = h ∧ ((0 ≤ s ∧ s < 3))) (XP (¬ (0 ≤ s ∧ s < 3)) False False h) := by
  refine TX.of (cc := cX7_checkSpring) (maxL := 1) (ret := none) [(0, vI s)] (by decide +kernel) rfl rfl (Nat.le_of_ble_eq_true rfl) ?_
  intro κ C hkl G GT
  subst hkl
  have C : CX κ "LedgeLevels" "checkSpring" cX7_checkSpring wsX7_checkSpring { frames := 6, cells := 1, slots := 6, locals := 90 } D A 1 := C
  have hiz : nq (D.1 20) (D.1 21) := cx_iz C
  refine x_iload_n C dX7_checkSpring_0 0 rfl ?_
  refine x_if_lt (tgt := 9) C dX7_checkSpring_1 (by decide) (by omega) (fun c1 => ?_) (fun c1 => ?_)
  · skip
    refine x_throwSw C GT (cls := "java/lang/IndexOutOfBoundsException") (text := "no such spring kind") (names := ["java/lang/RuntimeException", "java/lang/Exception"]) (by decide +kernel) (by decide +kernel) kX7_checkSpring_0 kX7_checkSpring_1 (by decide +kernel) kX7_checkSpring_2 (by decide +kernel) (by decide +kernel) dX7_checkSpring_9 dX7_checkSpring_12 dX7_checkSpring_13 dX7_checkSpring_16 dX7_checkSpring_19 (by decide) (by decide) (by decide) (by decide) (by decide) (by decide) ?_
    exact ⟨rfl, Or.inl ⟨rfl, by omega⟩⟩
  · skip
    refine x_iload_n C dX7_checkSpring_4 0 rfl ?_
    refine x_iconst C dX7_checkSpring_5 3 (by decide) ?_
    refine x_icmp_lt (tgt := 20) C dX7_checkSpring_6 (by decide) (by omega) (by omega) (fun c2 => ?_) (fun c2 => ?_)
    · skip
      refine x_vret C G dX7_checkSpring_20 ?_ (by decide) (by decide)
      exact ⟨rfl, rfl, by omega⟩
    · skip
      refine x_throwSw C GT (cls := "java/lang/IndexOutOfBoundsException") (text := "no such spring kind") (names := ["java/lang/RuntimeException", "java/lang/Exception"]) (by decide +kernel) (by decide +kernel) kX7_checkSpring_0 kX7_checkSpring_1 (by decide +kernel) kX7_checkSpring_2 (by decide +kernel) (by decide +kernel) dX7_checkSpring_9 dX7_checkSpring_12 dX7_checkSpring_13 dX7_checkSpring_16 dX7_checkSpring_19 (by decide) (by decide) (by decide) (by decide) (by decide) (by decide) ?_
      exact ⟨rfl, Or.inl ⟨rfl, by omega⟩⟩

theorem kX7_checkCell_0 : Cond.classLink "LedgeLevels" 267 "java/lang/IndexOutOfBoundsException" ∈ wsX7_checkCell := by decide +kernel
theorem kX7_checkCell_1 : Cond.initialized "java/lang/IndexOutOfBoundsException" ∈ wsX7_checkCell := by decide +kernel
theorem kX7_checkCell_2 : ∀ w ∈ (vx_atS "LedgeLevels" 271 "java/lang/IndexOutOfBoundsException" ["java/lang/RuntimeException", "java/lang/Exception"]).filter goodWord, w ∈ wsX7_checkCell := by decide +kernel
set_option maxRecDepth 100000 in
set_option maxHeartbeats 1000000 in
theorem c_X7_checkCell {l : Launch} {D : va_G} {A : Nat → Prop} {h : vh} {ad : AD} {c : CS} {L W : Nat} {z : Int}  (hR : RepC D ad c L W h) (hi_z : -2147483648 ≤ z ∧ z ≤ 2147483647) : TX l D A yX7_checkCell wsX7_checkCell { frames := 6, cells := 1, slots := 6, locals := 90 } [vI z] h (fun rv h' => rv = none ∧ h' = h ∧ ((0 ≤ z ∧ z < 96))) (XP (¬ (0 ≤ z ∧ z < 96)) False False h) := by
  refine TX.of (cc := cX7_checkCell) (maxL := 1) (ret := none) [(0, vI z)] (by decide +kernel) rfl rfl (Nat.le_of_ble_eq_true rfl) ?_
  intro κ C hkl G GT
  subst hkl
  have C : CX κ "LedgeLevels" "checkCell" cX7_checkCell wsX7_checkCell { frames := 6, cells := 1, slots := 6, locals := 90 } D A 1 := C
  have hiz : nq (D.1 20) (D.1 21) := cx_iz C
  refine x_iload_n C dX7_checkCell_0 0 rfl ?_
  refine x_callS C (n := 1) (As := [vI z]) (rest := []) (c_X7_isCell (by omega)) gX7_checkCell_X7_isCell (by decide +kernel) rfl rfl rfl (Nat.le_of_ble_eq_true rfl) ⟨by decide, by decide⟩ ⟨(by decide), (by decide)⟩ dX7_checkCell_1 (fun rv1 h2 hp3 => ?_)
  obtain ⟨rfl, e4⟩ := hp3
  obtain rfl := e4.symm
  have hbr := bI_01 (0 ≤ z ∧ z < 96)
  refine x_if_ne (tgt := 18) C dX7_checkCell_4 (by decide) (by omega) (fun c5 => ?_) (fun c5 => ?_)
  · skip
    refine x_vret C G dX7_checkCell_18 ?_ (by decide) (by decide)
    exact ⟨rfl, rfl, bI_ne.mp (by assumption)⟩
  · skip
    refine x_throwSw C GT (cls := "java/lang/IndexOutOfBoundsException") (text := "no such cell") (names := ["java/lang/RuntimeException", "java/lang/Exception"]) (by decide +kernel) (by decide +kernel) kX7_checkCell_0 kX7_checkCell_1 (by decide +kernel) kX7_checkCell_2 (by decide +kernel) (by decide +kernel) dX7_checkCell_7 dX7_checkCell_10 dX7_checkCell_11 dX7_checkCell_14 dX7_checkCell_17 (by decide) (by decide) (by decide) (by decide) (by decide) (by decide) ?_
    exact ⟨rfl, Or.inl ⟨rfl, fun z9 => absurd (bI_t z9) (by omega)⟩⟩

theorem kX7_checkNotWithdrawn_0 : Cond.fieldLinkNest "LedgeLevels" 156 "LedgeLevels$Work" "best" "I" "LedgeLevels" ∈ nwAll := by decide +kernel
theorem kX7_checkNotWithdrawn_1 : ∀ w ∈ wsX60, w ∈ wsX7_checkNotWithdrawn := by decide +kernel
theorem kX7_checkNotWithdrawn_2 : Cond.classLink "LedgeLevels" 88 "java/lang/IllegalStateException" ∈ wsX7_checkNotWithdrawn := by decide +kernel
theorem kX7_checkNotWithdrawn_3 : Cond.initialized "java/lang/IllegalStateException" ∈ wsX7_checkNotWithdrawn := by decide +kernel
theorem kX7_checkNotWithdrawn_4 : ∀ w ∈ (vx_atS "LedgeLevels" 92 "java/lang/IllegalStateException" ["java/lang/RuntimeException", "java/lang/Exception"]).filter goodWord, w ∈ wsX7_checkNotWithdrawn := by decide +kernel
set_option maxRecDepth 100000 in
set_option maxHeartbeats 1000000 in
theorem c_X7_checkNotWithdrawn {l : Launch} {D : va_G} {A : Nat → Prop} {h : vh} {ad : AD} {c : CS} {L W : Nat} {w : Nat}  (hR : RepC D ad c L W h) (hC : Cok c L W) (hw : w < W) : TX l D A yX7_checkNotWithdrawn wsX7_checkNotWithdrawn { frames := 6, cells := 1, slots := 6, locals := 90 } [.ref (ad 18 w)] h (fun rv h' => rv = none ∧ h' = h ∧ (0 ≤ c 18 w 6)) (XP False False (c 18 w 6 < 0) h) := by
  refine TX.of (cc := cX7_checkNotWithdrawn) (maxL := 1) (ret := none) [(0, .ref (ad 18 w))] (by decide +kernel) rfl rfl (Nat.le_of_ble_eq_true rfl) ?_
  intro κ C hkl G GT
  subst hkl
  have C : CX κ "LedgeLevels" "checkNotWithdrawn" cX7_checkNotWithdrawn wsX7_checkNotWithdrawn { frames := 6, cells := 1, slots := 6, locals := 90 } D A 1 := C
  have hiz : nq (D.1 20) (D.1 21) := cx_iz C
  obtain ⟨hO1, q2, q3, q4, q5⟩ := id hC
  obtain ⟨o1, o2, o3, o4, o5, o6, o7⟩ := id hO1
  obtain ⟨hg, ⟨e0, e1, e2, e3, e4, e5, e6⟩⟩ := q4 w hw
  refine x_aload_n C dX7_checkNotWithdrawn_0 0 rfl ?_
  have f1 : h (ad 18 w) = some (eO 6 [vI (c 18 w 0), vI (c 18 w 1), va_rf (prf ad (c 18 w 2)), .ref (ad 19 w), vI (c 18 w 4), .ref (ad 22 w), vI (c 18 w 6), vI (c 18 w 7)]) := hR.1 18 w (lvW (by decide) (by omega))
  refine x_getN (host := "LedgeLevels") C (v := vI (c 18 w 6)) f1 (T := TX6) rfl kX7_checkNotWithdrawn_1 6 (by decide) kX7_checkNotWithdrawn_0 rfl dX7_checkNotWithdrawn_1 ?_
  refine x_if_ge (tgt := 18) C dX7_checkNotWithdrawn_4 (by decide) (by omega) (fun c2 => ?_) (fun c2 => ?_)
  · skip
    refine x_vret C G dX7_checkNotWithdrawn_18 ?_ (by decide) (by decide)
    exact ⟨rfl, rfl, by omega⟩
  · skip
    refine x_throwSw C GT (cls := "java/lang/IllegalStateException") (text := "the work is withdrawn") (names := ["java/lang/RuntimeException", "java/lang/Exception"]) (by decide +kernel) (by decide +kernel) kX7_checkNotWithdrawn_2 kX7_checkNotWithdrawn_3 (by decide +kernel) kX7_checkNotWithdrawn_4 (by decide +kernel) (by decide +kernel) dX7_checkNotWithdrawn_7 dX7_checkNotWithdrawn_10 dX7_checkNotWithdrawn_11 dX7_checkNotWithdrawn_14 dX7_checkNotWithdrawn_17 (by decide) (by decide) (by decide) (by decide) (by decide) (by decide) ?_
    exact ⟨rfl, Or.inr (Or.inr ⟨rfl, by omega⟩)⟩

theorem kX7_start_0 : Cond.fieldLinkNest "LedgeLevels" 106 "LedgeLevels$Level" "start" "I" "LedgeLevels" ∈ nwAll := by decide +kernel
theorem kX7_start_1 : ∀ w ∈ wsX30, w ∈ wsX7_start := by decide +kernel
set_option maxRecDepth 100000 in
set_option maxHeartbeats 1000000 in
theorem c_X7_start {l : Launch} {D : va_G} {A : Nat → Prop} {h : vh} {ad : AD} {c : CS} {L W : Nat} {u : Int}  (hR : RepC D ad c L W h) (hC : Cok c L W) (hi_u : -2147483648 ≤ u ∧ u ≤ 2147483647) : TX l D A yX7_start wsX7_start { frames := 7, cells := 1, slots := 6, locals := 112 } [.ref (ad 0 0), vI u] h (fun rv h' => rv = some (vI (c 10 u.toNat 4)) ∧ h' = h ∧ ((0 ≤ u ∧ u < (L : Int)))) (XP (¬ (0 ≤ u ∧ u < (L : Int))) False False h) := by
  refine TX.of (cc := cX7_start) (maxL := 2) (ret := (some .int)) [(0, .ref (ad 0 0)), (1, vI u)] (by decide +kernel) rfl rfl (Nat.le_of_ble_eq_true rfl) ?_
  intro κ C hkl G GT
  subst hkl
  have C : CX κ "LedgeLevels" "start" cX7_start wsX7_start { frames := 7, cells := 1, slots := 6, locals := 112 } D A 2 := C
  have hiz : nq (D.1 20) (D.1 21) := cx_iz C
  obtain ⟨hO1, q2, q3, q4, q5⟩ := id hC
  obtain ⟨o1, o2, o3, o4, o5, o6, o7⟩ := id hO1
  refine x_aload_n C dX7_start_0 0 rfl ?_
  refine x_iload_n C dX7_start_1 1 rfl ?_
  have f1 : h (ad 0 0) = some (eO 7 [.ref (ad 1 0), .ref (ad 2 0), .ref (ad 3 0), .ref (ad 4 0), .ref (ad 5 0), vI (c 0 0 5), vI (c 0 0 6)]) := hR.1 0 0 (lv0 (by decide))
  refine x_callVt C (n := 1) (qc := (RX7, TX7, 7)) (As := [vI u]) (rest := []) (c_X7_levelOf (hR) (by assumption) (by omega)) gX7_start_X7_levelOf (by decide +kernel) f1 rfl rfl rfl rfl (Nat.le_of_ble_eq_true rfl) ⟨by decide, by decide⟩ ⟨(by decide), (by decide)⟩ dX7_start_2 GT (by decide) (by decide) (fun E h9 hx9 => XP.imp hx9 (fun z9 => by first | exact z9.elim | omega) (fun z9 => by first | exact z9.elim | omega) (fun z9 => by first | exact z9.elim | omega)) (fun rv2 h3 hp4 => ?_)
  obtain ⟨rfl, e5, hu_2⟩ := hp4
  obtain rfl := e5.symm
  have f6 : h (ad 10 u.toNat) = some (eO 3 [vI (c 10 u.toNat 0), va_rf (prf ad (c 10 u.toNat 1)), .ref (ad 11 u.toNat), .ref (ad 14 u.toNat), vI (c 10 u.toNat 4), vI (c 10 u.toNat 5)]) := hR.1 10 u.toNat (lvL (by decide) (by omega))
  refine x_getN (host := "LedgeLevels") C (v := vI (c 10 u.toNat 4)) f6 (T := TX3) rfl kX7_start_1 4 (by decide) kX7_start_0 rfl dX7_start_5 ?_
  refine x_iret C G dX7_start_8 ?_ (by decide) (by decide)
  exact ⟨rfl, rfl, by omega⟩

theorem kX7_proof_0 : Cond.fieldLinkNest "LedgeLevels" 109 "LedgeLevels$Level" "proof" "I" "LedgeLevels" ∈ nwAll := by decide +kernel
theorem kX7_proof_1 : ∀ w ∈ wsX30, w ∈ wsX7_proof := by decide +kernel
set_option maxRecDepth 100000 in
set_option maxHeartbeats 1000000 in
theorem c_X7_proof {l : Launch} {D : va_G} {A : Nat → Prop} {h : vh} {ad : AD} {c : CS} {L W : Nat} {u : Int}  (hR : RepC D ad c L W h) (hC : Cok c L W) (hi_u : -2147483648 ≤ u ∧ u ≤ 2147483647) : TX l D A yX7_proof wsX7_proof { frames := 7, cells := 1, slots := 6, locals := 112 } [.ref (ad 0 0), vI u] h (fun rv h' => rv = some (vI (c 10 u.toNat 5)) ∧ h' = h ∧ ((0 ≤ u ∧ u < (L : Int)))) (XP (¬ (0 ≤ u ∧ u < (L : Int))) False False h) := by
  refine TX.of (cc := cX7_proof) (maxL := 2) (ret := (some .int)) [(0, .ref (ad 0 0)), (1, vI u)] (by decide +kernel) rfl rfl (Nat.le_of_ble_eq_true rfl) ?_
  intro κ C hkl G GT
  subst hkl
  have C : CX κ "LedgeLevels" "proof" cX7_proof wsX7_proof { frames := 7, cells := 1, slots := 6, locals := 112 } D A 2 := C
  have hiz : nq (D.1 20) (D.1 21) := cx_iz C
  obtain ⟨hO1, q2, q3, q4, q5⟩ := id hC
  obtain ⟨o1, o2, o3, o4, o5, o6, o7⟩ := id hO1
  refine x_aload_n C dX7_proof_0 0 rfl ?_
  refine x_iload_n C dX7_proof_1 1 rfl ?_
  have f1 : h (ad 0 0) = some (eO 7 [.ref (ad 1 0), .ref (ad 2 0), .ref (ad 3 0), .ref (ad 4 0), .ref (ad 5 0), vI (c 0 0 5), vI (c 0 0 6)]) := hR.1 0 0 (lv0 (by decide))
  refine x_callVt C (n := 1) (qc := (RX7, TX7, 7)) (As := [vI u]) (rest := []) (c_X7_levelOf (hR) (by assumption) (by omega)) gX7_proof_X7_levelOf (by decide +kernel) f1 rfl rfl rfl rfl (Nat.le_of_ble_eq_true rfl) ⟨by decide, by decide⟩ ⟨(by decide), (by decide)⟩ dX7_proof_2 GT (by decide) (by decide) (fun E h9 hx9 => XP.imp hx9 (fun z9 => by first | exact z9.elim | omega) (fun z9 => by first | exact z9.elim | omega) (fun z9 => by first | exact z9.elim | omega)) (fun rv2 h3 hp4 => ?_)
  obtain ⟨rfl, e5, hu_2⟩ := hp4
  obtain rfl := e5.symm
  have f6 : h (ad 10 u.toNat) = some (eO 3 [vI (c 10 u.toNat 0), va_rf (prf ad (c 10 u.toNat 1)), .ref (ad 11 u.toNat), .ref (ad 14 u.toNat), vI (c 10 u.toNat 4), vI (c 10 u.toNat 5)]) := hR.1 10 u.toNat (lvL (by decide) (by omega))
  refine x_getN (host := "LedgeLevels") C (v := vI (c 10 u.toNat 5)) f6 (T := TX3) rfl kX7_proof_1 5 (by decide) kX7_proof_0 rfl dX7_proof_5 ?_
  refine x_iret C G dX7_proof_8 ?_ (by decide) (by decide)
  exact ⟨rfl, rfl, by omega⟩

theorem kX7_author_0 : Cond.fieldLinkNest "LedgeLevels" 182 "LedgeLevels$Work" "author" "I" "LedgeLevels" ∈ nwAll := by decide +kernel
theorem kX7_author_1 : ∀ w ∈ wsX60, w ∈ wsX7_author := by decide +kernel
set_option maxRecDepth 100000 in
set_option maxHeartbeats 1000000 in
theorem c_X7_author {l : Launch} {D : va_G} {A : Nat → Prop} {h : vh} {ad : AD} {c : CS} {L W : Nat} {w : Int}  (hR : RepC D ad c L W h) (hC : Cok c L W) (hi_w : -2147483648 ≤ w ∧ w ≤ 2147483647) : TX l D A yX7_author wsX7_author { frames := 7, cells := 1, slots := 6, locals := 112 } [.ref (ad 0 0), vI w] h (fun rv h' => rv = some (vI (c 18 w.toNat 1)) ∧ h' = h ∧ ((0 ≤ w ∧ w < (W : Int)))) (XP (¬ (0 ≤ w ∧ w < (W : Int))) False False h) := by
  refine TX.of (cc := cX7_author) (maxL := 2) (ret := (some .int)) [(0, .ref (ad 0 0)), (1, vI w)] (by decide +kernel) rfl rfl (Nat.le_of_ble_eq_true rfl) ?_
  intro κ C hkl G GT
  subst hkl
  have C : CX κ "LedgeLevels" "author" cX7_author wsX7_author { frames := 7, cells := 1, slots := 6, locals := 112 } D A 2 := C
  have hiz : nq (D.1 20) (D.1 21) := cx_iz C
  obtain ⟨hO1, q2, q3, q4, q5⟩ := id hC
  obtain ⟨o1, o2, o3, o4, o5, o6, o7⟩ := id hO1
  refine x_aload_n C dX7_author_0 0 rfl ?_
  refine x_iload_n C dX7_author_1 1 rfl ?_
  have f1 : h (ad 0 0) = some (eO 7 [.ref (ad 1 0), .ref (ad 2 0), .ref (ad 3 0), .ref (ad 4 0), .ref (ad 5 0), vI (c 0 0 5), vI (c 0 0 6)]) := hR.1 0 0 (lv0 (by decide))
  refine x_callVt C (n := 1) (qc := (RX7, TX7, 7)) (As := [vI w]) (rest := []) (c_X7_workOf (hR) (by assumption) (by omega)) gX7_author_X7_workOf (by decide +kernel) f1 rfl rfl rfl rfl (Nat.le_of_ble_eq_true rfl) ⟨by decide, by decide⟩ ⟨(by decide), (by decide)⟩ dX7_author_2 GT (by decide) (by decide) (fun E h9 hx9 => XP.imp hx9 (fun z9 => by first | exact z9.elim | omega) (fun z9 => by first | exact z9.elim | omega) (fun z9 => by first | exact z9.elim | omega)) (fun rv2 h3 hp4 => ?_)
  obtain ⟨rfl, e5, hw_2⟩ := hp4
  obtain rfl := e5.symm
  have f6 : h (ad 18 w.toNat) = some (eO 6 [vI (c 18 w.toNat 0), vI (c 18 w.toNat 1), va_rf (prf ad (c 18 w.toNat 2)), .ref (ad 19 w.toNat), vI (c 18 w.toNat 4), .ref (ad 22 w.toNat), vI (c 18 w.toNat 6), vI (c 18 w.toNat 7)]) := hR.1 18 w.toNat (lvW (by decide) (by omega))
  refine x_getN (host := "LedgeLevels") C (v := vI (c 18 w.toNat 1)) f6 (T := TX6) rfl kX7_author_1 1 (by decide) kX7_author_0 rfl dX7_author_5 ?_
  refine x_iret C G dX7_author_8 ?_ (by decide) (by decide)
  exact ⟨rfl, rfl, by omega⟩

theorem kX7_best_0 : Cond.fieldLinkNest "LedgeLevels" 156 "LedgeLevels$Work" "best" "I" "LedgeLevels" ∈ nwAll := by decide +kernel
theorem kX7_best_1 : ∀ w ∈ wsX60, w ∈ wsX7_best := by decide +kernel
set_option maxRecDepth 100000 in
set_option maxHeartbeats 1000000 in
theorem c_X7_best {l : Launch} {D : va_G} {A : Nat → Prop} {h : vh} {ad : AD} {c : CS} {L W : Nat} {w : Int}  (hR : RepC D ad c L W h) (hC : Cok c L W) (hi_w : -2147483648 ≤ w ∧ w ≤ 2147483647) : TX l D A yX7_best wsX7_best { frames := 7, cells := 1, slots := 6, locals := 112 } [.ref (ad 0 0), vI w] h (fun rv h' => rv = some (vI (c 18 w.toNat 6)) ∧ h' = h ∧ ((0 ≤ w ∧ w < (W : Int)))) (XP (¬ (0 ≤ w ∧ w < (W : Int))) False False h) := by
  refine TX.of (cc := cX7_best) (maxL := 2) (ret := (some .int)) [(0, .ref (ad 0 0)), (1, vI w)] (by decide +kernel) rfl rfl (Nat.le_of_ble_eq_true rfl) ?_
  intro κ C hkl G GT
  subst hkl
  have C : CX κ "LedgeLevels" "best" cX7_best wsX7_best { frames := 7, cells := 1, slots := 6, locals := 112 } D A 2 := C
  have hiz : nq (D.1 20) (D.1 21) := cx_iz C
  obtain ⟨hO1, q2, q3, q4, q5⟩ := id hC
  obtain ⟨o1, o2, o3, o4, o5, o6, o7⟩ := id hO1
  refine x_aload_n C dX7_best_0 0 rfl ?_
  refine x_iload_n C dX7_best_1 1 rfl ?_
  have f1 : h (ad 0 0) = some (eO 7 [.ref (ad 1 0), .ref (ad 2 0), .ref (ad 3 0), .ref (ad 4 0), .ref (ad 5 0), vI (c 0 0 5), vI (c 0 0 6)]) := hR.1 0 0 (lv0 (by decide))
  refine x_callVt C (n := 1) (qc := (RX7, TX7, 7)) (As := [vI w]) (rest := []) (c_X7_workOf (hR) (by assumption) (by omega)) gX7_best_X7_workOf (by decide +kernel) f1 rfl rfl rfl rfl (Nat.le_of_ble_eq_true rfl) ⟨by decide, by decide⟩ ⟨(by decide), (by decide)⟩ dX7_best_2 GT (by decide) (by decide) (fun E h9 hx9 => XP.imp hx9 (fun z9 => by first | exact z9.elim | omega) (fun z9 => by first | exact z9.elim | omega) (fun z9 => by first | exact z9.elim | omega)) (fun rv2 h3 hp4 => ?_)
  obtain ⟨rfl, e5, hw_2⟩ := hp4
  obtain rfl := e5.symm
  have f6 : h (ad 18 w.toNat) = some (eO 6 [vI (c 18 w.toNat 0), vI (c 18 w.toNat 1), va_rf (prf ad (c 18 w.toNat 2)), .ref (ad 19 w.toNat), vI (c 18 w.toNat 4), .ref (ad 22 w.toNat), vI (c 18 w.toNat 6), vI (c 18 w.toNat 7)]) := hR.1 18 w.toNat (lvW (by decide) (by omega))
  refine x_getN (host := "LedgeLevels") C (v := vI (c 18 w.toNat 6)) f6 (T := TX6) rfl kX7_best_1 6 (by decide) kX7_best_0 rfl dX7_best_5 ?_
  refine x_iret C G dX7_best_8 ?_ (by decide) (by decide)
  exact ⟨rfl, rfl, by omega⟩

theorem kX7_record_0 : Cond.fieldLinkNest "LedgeLevels" 244 "LedgeLevels$Work" "record" "I" "LedgeLevels" ∈ nwAll := by decide +kernel
theorem kX7_record_1 : ∀ w ∈ wsX60, w ∈ wsX7_record := by decide +kernel
set_option maxRecDepth 100000 in
set_option maxHeartbeats 1000000 in
theorem c_X7_record {l : Launch} {D : va_G} {A : Nat → Prop} {h : vh} {ad : AD} {c : CS} {L W : Nat} {w : Int}  (hR : RepC D ad c L W h) (hC : Cok c L W) (hi_w : -2147483648 ≤ w ∧ w ≤ 2147483647) : TX l D A yX7_record wsX7_record { frames := 7, cells := 1, slots := 6, locals := 112 } [.ref (ad 0 0), vI w] h (fun rv h' => rv = some (vI (c 18 w.toNat 7)) ∧ h' = h ∧ ((0 ≤ w ∧ w < (W : Int)))) (XP (¬ (0 ≤ w ∧ w < (W : Int))) False False h) := by
  refine TX.of (cc := cX7_record) (maxL := 2) (ret := (some .int)) [(0, .ref (ad 0 0)), (1, vI w)] (by decide +kernel) rfl rfl (Nat.le_of_ble_eq_true rfl) ?_
  intro κ C hkl G GT
  subst hkl
  have C : CX κ "LedgeLevels" "record" cX7_record wsX7_record { frames := 7, cells := 1, slots := 6, locals := 112 } D A 2 := C
  have hiz : nq (D.1 20) (D.1 21) := cx_iz C
  obtain ⟨hO1, q2, q3, q4, q5⟩ := id hC
  obtain ⟨o1, o2, o3, o4, o5, o6, o7⟩ := id hO1
  refine x_aload_n C dX7_record_0 0 rfl ?_
  refine x_iload_n C dX7_record_1 1 rfl ?_
  have f1 : h (ad 0 0) = some (eO 7 [.ref (ad 1 0), .ref (ad 2 0), .ref (ad 3 0), .ref (ad 4 0), .ref (ad 5 0), vI (c 0 0 5), vI (c 0 0 6)]) := hR.1 0 0 (lv0 (by decide))
  refine x_callVt C (n := 1) (qc := (RX7, TX7, 7)) (As := [vI w]) (rest := []) (c_X7_workOf (hR) (by assumption) (by omega)) gX7_record_X7_workOf (by decide +kernel) f1 rfl rfl rfl rfl (Nat.le_of_ble_eq_true rfl) ⟨by decide, by decide⟩ ⟨(by decide), (by decide)⟩ dX7_record_2 GT (by decide) (by decide) (fun E h9 hx9 => XP.imp hx9 (fun z9 => by first | exact z9.elim | omega) (fun z9 => by first | exact z9.elim | omega) (fun z9 => by first | exact z9.elim | omega)) (fun rv2 h3 hp4 => ?_)
  obtain ⟨rfl, e5, hw_2⟩ := hp4
  obtain rfl := e5.symm
  have f6 : h (ad 18 w.toNat) = some (eO 6 [vI (c 18 w.toNat 0), vI (c 18 w.toNat 1), va_rf (prf ad (c 18 w.toNat 2)), .ref (ad 19 w.toNat), vI (c 18 w.toNat 4), .ref (ad 22 w.toNat), vI (c 18 w.toNat 6), vI (c 18 w.toNat 7)]) := hR.1 18 w.toNat (lvW (by decide) (by omega))
  refine x_getN (host := "LedgeLevels") C (v := vI (c 18 w.toNat 7)) f6 (T := TX6) rfl kX7_record_1 7 (by decide) kX7_record_0 rfl dX7_record_5 ?_
  refine x_iret C G dX7_record_8 ?_ (by decide) (by decide)
  exact ⟨rfl, rfl, by omega⟩

theorem kX7_runState_0 : Cond.fieldLinkNest "LedgeLevels" 202 "LedgeLevels$Run" "state" "I" "LedgeLevels" ∈ nwAll := by decide +kernel
theorem kX7_runState_1 : ∀ w ∈ wsX40, w ∈ wsX7_runState := by decide +kernel
set_option maxRecDepth 100000 in
set_option maxHeartbeats 1000000 in
theorem c_X7_runState {l : Launch} {D : va_G} {A : Nat → Prop} {h : vh} {ad : AD} {c : CS} {L W : Nat} {p : Int}  (hR : RepC D ad c L W h) (hC : Cok c L W) (hi_p : -2147483648 ≤ p ∧ p ≤ 2147483647) : TX l D A yX7_runState wsX7_runState { frames := 7, cells := 1, slots := 6, locals := 112 } [.ref (ad 0 0), vI p] h (fun rv h' => rv = some (vI (c 23 p.toNat 2)) ∧ h' = h ∧ ((0 ≤ p ∧ p < 6))) (XP (¬ (0 ≤ p ∧ p < 6)) False False h) := by
  refine TX.of (cc := cX7_runState) (maxL := 2) (ret := (some .int)) [(0, .ref (ad 0 0)), (1, vI p)] (by decide +kernel) rfl rfl (Nat.le_of_ble_eq_true rfl) ?_
  intro κ C hkl G GT
  subst hkl
  have C : CX κ "LedgeLevels" "runState" cX7_runState wsX7_runState { frames := 7, cells := 1, slots := 6, locals := 112 } D A 2 := C
  have hiz : nq (D.1 20) (D.1 21) := cx_iz C
  obtain ⟨hO1, q2, q3, q4, q5⟩ := id hC
  obtain ⟨o1, o2, o3, o4, o5, o6, o7⟩ := id hO1
  refine x_aload_n C dX7_runState_0 0 rfl ?_
  refine x_iload_n C dX7_runState_1 1 rfl ?_
  have f1 : h (ad 0 0) = some (eO 7 [.ref (ad 1 0), .ref (ad 2 0), .ref (ad 3 0), .ref (ad 4 0), .ref (ad 5 0), vI (c 0 0 5), vI (c 0 0 6)]) := hR.1 0 0 (lv0 (by decide))
  refine x_callVt C (n := 1) (qc := (RX7, TX7, 7)) (As := [vI p]) (rest := []) (c_X7_runOf (hR) (by assumption) (by omega)) gX7_runState_X7_runOf (by decide +kernel) f1 rfl rfl rfl rfl (Nat.le_of_ble_eq_true rfl) ⟨by decide, by decide⟩ ⟨(by decide), (by decide)⟩ dX7_runState_2 GT (by decide) (by decide) (fun E h9 hx9 => XP.imp hx9 (fun z9 => by first | exact z9.elim | omega) (fun z9 => by first | exact z9.elim | omega) (fun z9 => by first | exact z9.elim | omega)) (fun rv2 h3 hp4 => ?_)
  obtain ⟨rfl, e5, hp_2⟩ := hp4
  obtain rfl := e5.symm
  have f6 : h (ad 23 p.toNat) = some (eO 4 [.ref (ad 24 p.toNat), va_rf (prf ad (c 23 p.toNat 1)), vI (c 23 p.toNat 2), vI (c 23 p.toNat 3)]) := hR.1 23 p.toNat (lvR (by decide) (by omega))
  refine x_getN (host := "LedgeLevels") C (v := vI (c 23 p.toNat 2)) f6 (T := TX4) rfl kX7_runState_1 2 (by decide) kX7_runState_0 rfl dX7_runState_5 ?_
  refine x_iret C G dX7_runState_8 ?_ (by decide) (by decide)
  exact ⟨rfl, rfl, by omega⟩

theorem kX7_stepsOf_0 : Cond.fieldLinkNest "LedgeLevels" 207 "LedgeLevels$Run" "steps" "I" "LedgeLevels" ∈ nwAll := by decide +kernel
theorem kX7_stepsOf_1 : ∀ w ∈ wsX40, w ∈ wsX7_stepsOf := by decide +kernel
set_option maxRecDepth 100000 in
set_option maxHeartbeats 1000000 in
theorem c_X7_stepsOf {l : Launch} {D : va_G} {A : Nat → Prop} {h : vh} {ad : AD} {c : CS} {L W : Nat} {p : Int}  (hR : RepC D ad c L W h) (hC : Cok c L W) (hi_p : -2147483648 ≤ p ∧ p ≤ 2147483647) : TX l D A yX7_stepsOf wsX7_stepsOf { frames := 7, cells := 1, slots := 6, locals := 112 } [.ref (ad 0 0), vI p] h (fun rv h' => rv = some (vI (c 23 p.toNat 3)) ∧ h' = h ∧ ((0 ≤ p ∧ p < 6))) (XP (¬ (0 ≤ p ∧ p < 6)) False False h) := by
  refine TX.of (cc := cX7_stepsOf) (maxL := 2) (ret := (some .int)) [(0, .ref (ad 0 0)), (1, vI p)] (by decide +kernel) rfl rfl (Nat.le_of_ble_eq_true rfl) ?_
  intro κ C hkl G GT
  subst hkl
  have C : CX κ "LedgeLevels" "stepsOf" cX7_stepsOf wsX7_stepsOf { frames := 7, cells := 1, slots := 6, locals := 112 } D A 2 := C
  have hiz : nq (D.1 20) (D.1 21) := cx_iz C
  obtain ⟨hO1, q2, q3, q4, q5⟩ := id hC
  obtain ⟨o1, o2, o3, o4, o5, o6, o7⟩ := id hO1
  refine x_aload_n C dX7_stepsOf_0 0 rfl ?_
  refine x_iload_n C dX7_stepsOf_1 1 rfl ?_
  have f1 : h (ad 0 0) = some (eO 7 [.ref (ad 1 0), .ref (ad 2 0), .ref (ad 3 0), .ref (ad 4 0), .ref (ad 5 0), vI (c 0 0 5), vI (c 0 0 6)]) := hR.1 0 0 (lv0 (by decide))
  refine x_callVt C (n := 1) (qc := (RX7, TX7, 7)) (As := [vI p]) (rest := []) (c_X7_runOf (hR) (by assumption) (by omega)) gX7_stepsOf_X7_runOf (by decide +kernel) f1 rfl rfl rfl rfl (Nat.le_of_ble_eq_true rfl) ⟨by decide, by decide⟩ ⟨(by decide), (by decide)⟩ dX7_stepsOf_2 GT (by decide) (by decide) (fun E h9 hx9 => XP.imp hx9 (fun z9 => by first | exact z9.elim | omega) (fun z9 => by first | exact z9.elim | omega) (fun z9 => by first | exact z9.elim | omega)) (fun rv2 h3 hp4 => ?_)
  obtain ⟨rfl, e5, hp_2⟩ := hp4
  obtain rfl := e5.symm
  have f6 : h (ad 23 p.toNat) = some (eO 4 [.ref (ad 24 p.toNat), va_rf (prf ad (c 23 p.toNat 1)), vI (c 23 p.toNat 2), vI (c 23 p.toNat 3)]) := hR.1 23 p.toNat (lvR (by decide) (by omega))
  refine x_getN (host := "LedgeLevels") C (v := vI (c 23 p.toNat 3)) f6 (T := TX4) rfl kX7_stepsOf_1 3 (by decide) kX7_stepsOf_0 rfl dX7_stepsOf_5 ?_
  refine x_iret C G dX7_stepsOf_8 ?_ (by decide) (by decide)
  exact ⟨rfl, rfl, by omega⟩

theorem kX7_speed_0 : Cond.fieldLinkNest "LedgeLevels" 247 "LedgeLevels$Run" "body" "LLedgeLevels$Body;" "LedgeLevels" ∈ nwAll := by decide +kernel
theorem kX7_speed_1 : ∀ w ∈ wsX40, w ∈ wsX7_speed := by decide +kernel
theorem kX7_speed_2 : Cond.fieldLinkNest "LedgeLevels" 256 "LedgeLevels$Body" "speed" "I" "LedgeLevels" ∈ nwAll := by decide +kernel
theorem kX7_speed_3 : ∀ w ∈ wsX00, w ∈ wsX7_speed := by decide +kernel
set_option maxRecDepth 100000 in
set_option maxHeartbeats 1000000 in
theorem c_X7_speed {l : Launch} {D : va_G} {A : Nat → Prop} {h : vh} {ad : AD} {c : CS} {L W : Nat} {p : Int}  (hR : RepC D ad c L W h) (hC : Cok c L W) (hi_p : -2147483648 ≤ p ∧ p ≤ 2147483647) : TX l D A yX7_speed wsX7_speed { frames := 7, cells := 1, slots := 6, locals := 112 } [.ref (ad 0 0), vI p] h (fun rv h' => rv = some (vI (c 24 p.toNat 2)) ∧ h' = h ∧ ((0 ≤ p ∧ p < 6))) (XP (¬ (0 ≤ p ∧ p < 6)) False False h) := by
  refine TX.of (cc := cX7_speed) (maxL := 2) (ret := (some .int)) [(0, .ref (ad 0 0)), (1, vI p)] (by decide +kernel) rfl rfl (Nat.le_of_ble_eq_true rfl) ?_
  intro κ C hkl G GT
  subst hkl
  have C : CX κ "LedgeLevels" "speed" cX7_speed wsX7_speed { frames := 7, cells := 1, slots := 6, locals := 112 } D A 2 := C
  have hiz : nq (D.1 20) (D.1 21) := cx_iz C
  obtain ⟨hO1, q2, q3, q4, q5⟩ := id hC
  obtain ⟨o1, o2, o3, o4, o5, o6, o7⟩ := id hO1
  refine x_aload_n C dX7_speed_0 0 rfl ?_
  refine x_iload_n C dX7_speed_1 1 rfl ?_
  have f1 : h (ad 0 0) = some (eO 7 [.ref (ad 1 0), .ref (ad 2 0), .ref (ad 3 0), .ref (ad 4 0), .ref (ad 5 0), vI (c 0 0 5), vI (c 0 0 6)]) := hR.1 0 0 (lv0 (by decide))
  refine x_callVt C (n := 1) (qc := (RX7, TX7, 7)) (As := [vI p]) (rest := []) (c_X7_runOf (hR) (by assumption) (by omega)) gX7_speed_X7_runOf (by decide +kernel) f1 rfl rfl rfl rfl (Nat.le_of_ble_eq_true rfl) ⟨by decide, by decide⟩ ⟨(by decide), (by decide)⟩ dX7_speed_2 GT (by decide) (by decide) (fun E h9 hx9 => XP.imp hx9 (fun z9 => by first | exact z9.elim | omega) (fun z9 => by first | exact z9.elim | omega) (fun z9 => by first | exact z9.elim | omega)) (fun rv2 h3 hp4 => ?_)
  obtain ⟨rfl, e5, hp_2⟩ := hp4
  obtain rfl := e5.symm
  have f6 : h (ad 23 p.toNat) = some (eO 4 [.ref (ad 24 p.toNat), va_rf (prf ad (c 23 p.toNat 1)), vI (c 23 p.toNat 2), vI (c 23 p.toNat 3)]) := hR.1 23 p.toNat (lvR (by decide) (by omega))
  refine x_getN (host := "LedgeLevels") C (v := .ref (ad 24 p.toNat)) f6 (T := TX4) rfl kX7_speed_1 0 (by decide) kX7_speed_0 rfl dX7_speed_5 ?_
  have f7 : h (ad 24 p.toNat) = some (eO 0 [.ref (ad 1 0), vI (c 24 p.toNat 1), vI (c 24 p.toNat 2), vI (((c 24 p.toNat 3).toNat : Nat) : Int), vI (c 24 p.toNat 4)]) := hR.1 24 p.toNat (lvR (by decide) (by omega))
  refine x_getN (host := "LedgeLevels") C (v := vI (c 24 p.toNat 2)) f7 (T := TX0) rfl kX7_speed_3 2 (by decide) kX7_speed_2 rfl dX7_speed_8 ?_
  refine x_iret C G dX7_speed_11 ?_ (by decide) (by decide)
  exact ⟨rfl, rfl, by omega⟩

theorem kX7_edits_0 : Cond.fieldLinkNest "LedgeLevels" 93 "LedgeLevels$Level" "history" "LLedgeLevels$History;" "LedgeLevels" ∈ nwAll := by decide +kernel
theorem kX7_edits_1 : ∀ w ∈ wsX30, w ∈ wsX7_edits := by decide +kernel
theorem kX7_edits_2 : Cond.fieldLinkNest "LedgeLevels" 126 "LedgeLevels$History" "undone" "I" "LedgeLevels" ∈ nwAll := by decide +kernel
theorem kX7_edits_3 : ∀ w ∈ wsX20, w ∈ wsX7_edits := by decide +kernel
theorem kX7_edits_4 : Cond.fieldLinkNest "LedgeLevels" 112 "LedgeLevels$History" "done" "I" "LedgeLevels" ∈ nwAll := by decide +kernel
set_option maxRecDepth 100000 in
set_option maxHeartbeats 1000000 in
theorem c_X7_edits {l : Launch} {D : va_G} {A : Nat → Prop} {h : vh} {ad : AD} {c : CS} {L W : Nat} {u b : Int}  (hR : RepC D ad c L W h) (hC : Cok c L W) (hi_u : -2147483648 ≤ u ∧ u ≤ 2147483647) (hb : 0 ≤ b ∧ b ≤ 1) : TX l D A yX7_edits wsX7_edits { frames := 7, cells := 1, slots := 6, locals := 112 } [.ref (ad 0 0), vI u, vI b] h (fun rv h' => rv = some (vI ((if b = 0 then (((c 14 u.toNat 4).toNat : Nat) : Int) else (((c 14 u.toNat 3).toNat : Nat) : Int)))) ∧ h' = h ∧ ((0 ≤ u ∧ u < (L : Int)))) (XP (¬ (0 ≤ u ∧ u < (L : Int))) False False h) := by
  refine TX.of (cc := cX7_edits) (maxL := 4) (ret := (some .int)) [(0, .ref (ad 0 0)), (1, vI u), (2, vI b)] (by decide +kernel) rfl rfl (Nat.le_of_ble_eq_true rfl) ?_
  intro κ C hkl G GT
  subst hkl
  have C : CX κ "LedgeLevels" "edits" cX7_edits wsX7_edits { frames := 7, cells := 1, slots := 6, locals := 112 } D A 4 := C
  have hiz : nq (D.1 20) (D.1 21) := cx_iz C
  obtain ⟨hO1, q2, q3, q4, q5⟩ := id hC
  obtain ⟨o1, o2, o3, o4, o5, o6, o7⟩ := id hO1
  refine x_aload_n C dX7_edits_0 0 rfl ?_
  refine x_iload_n C dX7_edits_1 1 rfl ?_
  have f1 : h (ad 0 0) = some (eO 7 [.ref (ad 1 0), .ref (ad 2 0), .ref (ad 3 0), .ref (ad 4 0), .ref (ad 5 0), vI (c 0 0 5), vI (c 0 0 6)]) := hR.1 0 0 (lv0 (by decide))
  refine x_callVt C (n := 1) (qc := (RX7, TX7, 7)) (As := [vI u]) (rest := []) (c_X7_levelOf (hR) (by assumption) (by omega)) gX7_edits_X7_levelOf (by decide +kernel) f1 rfl rfl rfl rfl (Nat.le_of_ble_eq_true rfl) ⟨by decide, by decide⟩ ⟨(by decide), (by decide)⟩ dX7_edits_2 GT (by decide) (by decide) (fun E h9 hx9 => XP.imp hx9 (fun z9 => by first | exact z9.elim | omega) (fun z9 => by first | exact z9.elim | omega) (fun z9 => by first | exact z9.elim | omega)) (fun rv2 h3 hp4 => ?_)
  obtain ⟨rfl, e5, hu_2⟩ := hp4
  obtain rfl := e5.symm
  obtain ⟨hg, hl, ⟨k1, k2⟩⟩ := q3 u.toNat (by omega)
  have f6 : h (ad 10 u.toNat) = some (eO 3 [vI (c 10 u.toNat 0), va_rf (prf ad (c 10 u.toNat 1)), .ref (ad 11 u.toNat), .ref (ad 14 u.toNat), vI (c 10 u.toNat 4), vI (c 10 u.toNat 5)]) := hR.1 10 u.toNat (lvL (by decide) (by omega))
  refine x_getN (host := "LedgeLevels") C (v := .ref (ad 14 u.toNat)) f6 (T := TX3) rfl kX7_edits_1 3 (by decide) kX7_edits_0 rfl dX7_edits_5 ?_
  refine x_astore_n C (ls' := [(0, .ref (ad 0 0)), (1, vI u), (2, vI b), (3, .ref (ad 14 u.toNat))]) dX7_edits_8 (by decide) rfl ?_
  refine x_iload_n C dX7_edits_9 2 rfl ?_
  refine x_if_eq (tgt := 20) C dX7_edits_10 (by decide) (by omega) (fun c7 => ?_) (fun c7 => ?_)
  · skip
    refine x_aload_n C dX7_edits_20 3 rfl ?_
    have f8 : h (ad 14 u.toNat) = some (eO 2 [.ref (ad 15 u.toNat), .ref (ad 16 u.toNat), .ref (ad 17 u.toNat), vI (((c 14 u.toNat 3).toNat : Nat) : Int), vI (((c 14 u.toNat 4).toNat : Nat) : Int)]) := hR.1 14 u.toNat (lvL (by decide) (by omega))
    refine x_getN (host := "LedgeLevels") C (v := vI (((c 14 u.toNat 4).toNat : Nat) : Int)) f8 (T := TX2) rfl kX7_edits_3 4 (by decide) kX7_edits_2 rfl dX7_edits_21 ?_
    refine x_iret C G dX7_edits_24 ?_ (by decide) (by decide)
    refine ⟨?_, rfl, by omega⟩
    first
      | rw [if_pos (by assumption)]
      | rw [if_neg (by assumption)]
  · skip
    refine x_aload_n C dX7_edits_13 3 rfl ?_
    have f9 : h (ad 14 u.toNat) = some (eO 2 [.ref (ad 15 u.toNat), .ref (ad 16 u.toNat), .ref (ad 17 u.toNat), vI (((c 14 u.toNat 3).toNat : Nat) : Int), vI (((c 14 u.toNat 4).toNat : Nat) : Int)]) := hR.1 14 u.toNat (lvL (by decide) (by omega))
    refine x_getN (host := "LedgeLevels") C (v := vI (((c 14 u.toNat 3).toNat : Nat) : Int)) f9 (T := TX2) rfl kX7_edits_3 3 (by decide) kX7_edits_4 rfl dX7_edits_14 ?_
    refine x_goto (tgt := 24) C dX7_edits_17 (by decide) ?_
    refine x_iret C G dX7_edits_24 ?_ (by decide) (by decide)
    refine ⟨?_, rfl, by omega⟩
    first
      | rw [if_pos (by assumption)]
      | rw [if_neg (by assumption)]

theorem kX7_at_0 : Cond.fieldLinkNest "LedgeLevels" 56 "LedgeLevels$Level" "grid" "LLedgeLevels$Grid;" "LedgeLevels" ∈ nwAll := by decide +kernel
theorem kX7_at_1 : ∀ w ∈ wsX30, w ∈ wsX7_at := by decide +kernel
set_option maxRecDepth 100000 in
set_option maxHeartbeats 1000000 in
theorem c_X7_at {l : Launch} {D : va_G} {A : Nat → Prop} {h : vh} {ad : AD} {c : CS} {L W : Nat} {u z : Int}  (hR : RepC D ad c L W h) (hC : Cok c L W) (hi_u : -2147483648 ≤ u ∧ u ≤ 2147483647) (hi_z : -2147483648 ≤ z ∧ z ≤ 2147483647) : TX l D A yX7_at wsX7_at { frames := 7, cells := 2, slots := 12, locals := 112 } [.ref (ad 0 0), vI u, vI z] h (fun rv h' => rv = some (vI (c 12 u.toNat z.toNat)) ∧ h' = h ∧ ((0 ≤ u ∧ u < (L : Int)) ∧ (0 ≤ z ∧ z < 96))) (XP (¬ (0 ≤ u ∧ u < (L : Int)) ∨ ¬ (0 ≤ z ∧ z < 96)) False False h) := by
  refine TX.of (cc := cX7_at) (maxL := 4) (ret := (some .int)) [(0, .ref (ad 0 0)), (1, vI u), (2, vI z)] (by decide +kernel) rfl rfl (Nat.le_of_ble_eq_true rfl) ?_
  intro κ C hkl G GT
  subst hkl
  have C : CX κ "LedgeLevels" "at" cX7_at wsX7_at { frames := 7, cells := 2, slots := 12, locals := 112 } D A 4 := C
  have hiz : nq (D.1 20) (D.1 21) := cx_iz C
  obtain ⟨hO1, q2, q3, q4, q5⟩ := id hC
  obtain ⟨o1, o2, o3, o4, o5, o6, o7⟩ := id hO1
  refine x_aload_n C dX7_at_0 0 rfl ?_
  refine x_iload_n C dX7_at_1 1 rfl ?_
  have f1 : h (ad 0 0) = some (eO 7 [.ref (ad 1 0), .ref (ad 2 0), .ref (ad 3 0), .ref (ad 4 0), .ref (ad 5 0), vI (c 0 0 5), vI (c 0 0 6)]) := hR.1 0 0 (lv0 (by decide))
  refine x_callVt C (n := 1) (qc := (RX7, TX7, 7)) (As := [vI u]) (rest := []) (c_X7_levelOf (hR) (by assumption) (by omega)) gX7_at_X7_levelOf (by decide +kernel) f1 rfl rfl rfl rfl (Nat.le_of_ble_eq_true rfl) ⟨by decide, by decide⟩ ⟨(by decide), (by decide)⟩ dX7_at_2 GT (by decide) (by decide) (fun E h9 hx9 => XP.imp hx9 (fun z9 => by first | exact z9.elim | omega) (fun z9 => by first | exact z9.elim | omega) (fun z9 => by first | exact z9.elim | omega)) (fun rv2 h3 hp4 => ?_)
  obtain ⟨rfl, e5, hu_2⟩ := hp4
  obtain rfl := e5.symm
  obtain ⟨⟨g1, g2, g3⟩, hh⟩ := q3 u.toNat (by omega)
  refine x_astore_n C (ls' := [(0, .ref (ad 0 0)), (1, vI u), (2, vI z), (3, .ref (ad 10 u.toNat))]) dX7_at_5 (by decide) rfl ?_
  refine x_iload_n C dX7_at_6 2 rfl ?_
  refine x_callSt C (n := 1) (As := [vI z]) (rest := []) (c_X7_checkCell (hR) (by omega)) gX7_at_X7_checkCell (by decide +kernel) rfl rfl rfl (Nat.le_of_ble_eq_true rfl) ⟨by decide, by decide⟩ ⟨(by decide), (by decide)⟩ dX7_at_7 GT (by decide) (by decide) (fun E h9 hx9 => XP.imp hx9 (fun z9 => by first | exact z9.elim | omega) (fun z9 => by first | exact z9.elim | omega) (fun z9 => by first | exact z9.elim | omega)) (fun rv6 h7 hp8 => ?_)
  obtain ⟨rfl, e9, hz_7⟩ := hp8
  obtain rfl := e9.symm
  refine x_aload_n C dX7_at_10 3 rfl ?_
  have f10 : h (ad 10 u.toNat) = some (eO 3 [vI (c 10 u.toNat 0), va_rf (prf ad (c 10 u.toNat 1)), .ref (ad 11 u.toNat), .ref (ad 14 u.toNat), vI (c 10 u.toNat 4), vI (c 10 u.toNat 5)]) := hR.1 10 u.toNat (lvL (by decide) (by omega))
  refine x_getN (host := "LedgeLevels") C (v := .ref (ad 11 u.toNat)) f10 (T := TX3) rfl kX7_at_1 2 (by decide) kX7_at_0 rfl dX7_at_11 ?_
  refine x_iload_n C dX7_at_14 2 rfl ?_
  have f11 : h (ad 11 u.toNat) = some (eO 1 [.ref (ad 12 u.toNat), .ref (ad 13 u.toNat), vI (((c 11 u.toNat 2).toNat : Nat) : Int)]) := hR.1 11 u.toNat (lvL (by decide) (by omega))
  have f12 : h (ad 12 u.toNat) = some (eI D 96 (c 12 u.toNat)) := hR.1 12 u.toNat (lvL (by decide) (by omega))
  refine x_callV C (n := 1) (qc := (RX1, TX1, 3)) (As := [vI z]) (rest := []) (c_X1_kindAt f11 f12 (by omega)) gX7_at_X1_kindAt (by decide +kernel) f11 rfl rfl rfl rfl (Nat.le_of_ble_eq_true rfl) ⟨by decide, by decide⟩ ⟨(by decide), (by decide)⟩ dX7_at_15 (fun rv13 h14 hp15 => ?_)
  obtain ⟨rfl, e16⟩ := hp15
  obtain rfl := e16.symm
  refine x_topv (show kAt (c 12 u.toNat) z = c 12 u.toNat z.toNat from by unfold kAt; rw [if_pos (by omega)]) ?_
  refine x_iret C G dX7_at_18 ?_ (by decide) (by decide)
  exact ⟨rfl, rfl, by omega⟩

theorem kX7_body_0 : Cond.fieldLinkNest "LedgeLevels" 202 "LedgeLevels$Run" "state" "I" "LedgeLevels" ∈ nwAll := by decide +kernel
theorem kX7_body_1 : ∀ w ∈ wsX40, w ∈ wsX7_body := by decide +kernel
theorem kX7_body_2 : Cond.fieldLinkNest "LedgeLevels" 247 "LedgeLevels$Run" "body" "LLedgeLevels$Body;" "LedgeLevels" ∈ nwAll := by decide +kernel
theorem kX7_body_3 : Cond.fieldLinkNest "LedgeLevels" 251 "LedgeLevels$Body" "cell" "I" "LedgeLevels" ∈ nwAll := by decide +kernel
theorem kX7_body_4 : ∀ w ∈ wsX00, w ∈ wsX7_body := by decide +kernel
set_option maxRecDepth 100000 in
set_option maxHeartbeats 1000000 in
theorem c_X7_body {l : Launch} {D : va_G} {A : Nat → Prop} {h : vh} {ad : AD} {c : CS} {L W : Nat} {p : Int}  (hR : RepC D ad c L W h) (hC : Cok c L W) (hi_p : -2147483648 ≤ p ∧ p ≤ 2147483647) : TX l D A yX7_body wsX7_body { frames := 7, cells := 1, slots := 6, locals := 112 } [.ref (ad 0 0), vI p] h (fun rv h' => rv = some (vI (if c 23 p.toNat 2 = 0 then -1 else c 24 p.toNat 1)) ∧ h' = h ∧ ((0 ≤ p ∧ p < 6))) (XP (¬ (0 ≤ p ∧ p < 6)) False False h) := by
  refine TX.of (cc := cX7_body) (maxL := 3) (ret := (some .int)) [(0, .ref (ad 0 0)), (1, vI p)] (by decide +kernel) rfl rfl (Nat.le_of_ble_eq_true rfl) ?_
  intro κ C hkl G GT
  subst hkl
  have C : CX κ "LedgeLevels" "body" cX7_body wsX7_body { frames := 7, cells := 1, slots := 6, locals := 112 } D A 3 := C
  have hiz : nq (D.1 20) (D.1 21) := cx_iz C
  obtain ⟨hO1, q2, q3, q4, q5⟩ := id hC
  obtain ⟨o1, o2, o3, o4, o5, o6, o7⟩ := id hO1
  refine x_aload_n C dX7_body_0 0 rfl ?_
  refine x_iload_n C dX7_body_1 1 rfl ?_
  have f1 : h (ad 0 0) = some (eO 7 [.ref (ad 1 0), .ref (ad 2 0), .ref (ad 3 0), .ref (ad 4 0), .ref (ad 5 0), vI (c 0 0 5), vI (c 0 0 6)]) := hR.1 0 0 (lv0 (by decide))
  refine x_callVt C (n := 1) (qc := (RX7, TX7, 7)) (As := [vI p]) (rest := []) (c_X7_runOf (hR) (by assumption) (by omega)) gX7_body_X7_runOf (by decide +kernel) f1 rfl rfl rfl rfl (Nat.le_of_ble_eq_true rfl) ⟨by decide, by decide⟩ ⟨(by decide), (by decide)⟩ dX7_body_2 GT (by decide) (by decide) (fun E h9 hx9 => XP.imp hx9 (fun z9 => by first | exact z9.elim | omega) (fun z9 => by first | exact z9.elim | omega) (fun z9 => by first | exact z9.elim | omega)) (fun rv2 h3 hp4 => ?_)
  obtain ⟨rfl, e5, hp_2⟩ := hp4
  obtain rfl := e5.symm
  obtain ⟨r1, r2, r3, r4, r5, r6, r7, r8⟩ := q5 p.toNat (by omega)
  refine x_astore_n C (ls' := [(0, .ref (ad 0 0)), (1, vI p), (2, .ref (ad 23 p.toNat))]) dX7_body_5 (by decide) rfl ?_
  refine x_aload_n C dX7_body_6 2 rfl ?_
  have f6 : h (ad 23 p.toNat) = some (eO 4 [.ref (ad 24 p.toNat), va_rf (prf ad (c 23 p.toNat 1)), vI (c 23 p.toNat 2), vI (c 23 p.toNat 3)]) := hR.1 23 p.toNat (lvR (by decide) (by omega))
  refine x_getN (host := "LedgeLevels") C (v := vI (c 23 p.toNat 2)) f6 (T := TX4) rfl kX7_body_1 2 (by decide) kX7_body_0 rfl dX7_body_7 ?_
  refine x_if_ne (tgt := 17) C dX7_body_10 (by decide) (by omega) (fun c7 => ?_) (fun c7 => ?_)
  · skip
    refine x_aload_n C dX7_body_17 2 rfl ?_
    refine x_getN (host := "LedgeLevels") C (v := .ref (ad 24 p.toNat)) f6 (T := TX4) rfl kX7_body_1 0 (by decide) kX7_body_2 rfl dX7_body_18 ?_
    have f8 : h (ad 24 p.toNat) = some (eO 0 [.ref (ad 1 0), vI (c 24 p.toNat 1), vI (c 24 p.toNat 2), vI (((c 24 p.toNat 3).toNat : Nat) : Int), vI (c 24 p.toNat 4)]) := hR.1 24 p.toNat (lvR (by decide) (by omega))
    refine x_getN (host := "LedgeLevels") C (v := vI (c 24 p.toNat 1)) f8 (T := TX0) rfl kX7_body_4 1 (by decide) kX7_body_3 rfl dX7_body_21 ?_
    refine x_iret C G dX7_body_24 ?_ (by decide) (by decide)
    refine ⟨?_, rfl, by omega⟩
    first
      | rw [if_pos (by assumption)]
      | rw [if_neg (by assumption)]
  · skip
    refine x_iconst C dX7_body_13 (-1) (by decide) ?_
    refine x_goto (tgt := 24) C dX7_body_14 (by decide) ?_
    refine x_iret C G dX7_body_24 ?_ (by decide) (by decide)
    refine ⟨?_, rfl, by omega⟩
    first
      | rw [if_pos (by assumption)]
      | rw [if_neg (by assumption)]

theorem kX7_keys_0 : Cond.fieldLinkNest "LedgeLevels" 247 "LedgeLevels$Run" "body" "LLedgeLevels$Body;" "LedgeLevels" ∈ nwAll := by decide +kernel
theorem kX7_keys_1 : ∀ w ∈ wsX40, w ∈ wsX7_keys := by decide +kernel
theorem kX7_keys_2 : Cond.fieldLinkNest "LedgeLevels" 259 "LedgeLevels$Body" "taken" "I" "LedgeLevels" ∈ nwAll := by decide +kernel
theorem kX7_keys_3 : ∀ w ∈ wsX00, w ∈ wsX7_keys := by decide +kernel
set_option maxRecDepth 100000 in
set_option maxHeartbeats 1000000 in
theorem c_X7_keys {l : Launch} {D : va_G} {A : Nat → Prop} {h : vh} {ad : AD} {c : CS} {L W : Nat} {p : Int}  (hR : RepC D ad c L W h) (hC : Cok c L W) (hi_p : -2147483648 ≤ p ∧ p ≤ 2147483647) : TX l D A yX7_keys wsX7_keys { frames := 7, cells := 1, slots := 6, locals := 112 } [.ref (ad 0 0), vI p] h (fun rv h' => rv = some (vI ((pc3 (c 24 p.toNat 3).toNat : Nat) : Int)) ∧ h' = h ∧ ((0 ≤ p ∧ p < 6))) (XP (¬ (0 ≤ p ∧ p < 6)) False False h) := by
  refine TX.of (cc := cX7_keys) (maxL := 2) (ret := (some .int)) [(0, .ref (ad 0 0)), (1, vI p)] (by decide +kernel) rfl rfl (Nat.le_of_ble_eq_true rfl) ?_
  intro κ C hkl G GT
  subst hkl
  have C : CX κ "LedgeLevels" "keys" cX7_keys wsX7_keys { frames := 7, cells := 1, slots := 6, locals := 112 } D A 2 := C
  have hiz : nq (D.1 20) (D.1 21) := cx_iz C
  obtain ⟨hO1, q2, q3, q4, q5⟩ := id hC
  obtain ⟨o1, o2, o3, o4, o5, o6, o7⟩ := id hO1
  refine x_aload_n C dX7_keys_0 0 rfl ?_
  refine x_iload_n C dX7_keys_1 1 rfl ?_
  have f1 : h (ad 0 0) = some (eO 7 [.ref (ad 1 0), .ref (ad 2 0), .ref (ad 3 0), .ref (ad 4 0), .ref (ad 5 0), vI (c 0 0 5), vI (c 0 0 6)]) := hR.1 0 0 (lv0 (by decide))
  refine x_callVt C (n := 1) (qc := (RX7, TX7, 7)) (As := [vI p]) (rest := []) (c_X7_runOf (hR) (by assumption) (by omega)) gX7_keys_X7_runOf (by decide +kernel) f1 rfl rfl rfl rfl (Nat.le_of_ble_eq_true rfl) ⟨by decide, by decide⟩ ⟨(by decide), (by decide)⟩ dX7_keys_2 GT (by decide) (by decide) (fun E h9 hx9 => XP.imp hx9 (fun z9 => by first | exact z9.elim | omega) (fun z9 => by first | exact z9.elim | omega) (fun z9 => by first | exact z9.elim | omega)) (fun rv2 h3 hp4 => ?_)
  obtain ⟨rfl, e5, hp_2⟩ := hp4
  obtain rfl := e5.symm
  obtain ⟨r1, r2, r3, r4, r5, r6, r7, r8⟩ := q5 p.toNat (by omega)
  have f6 : h (ad 23 p.toNat) = some (eO 4 [.ref (ad 24 p.toNat), va_rf (prf ad (c 23 p.toNat 1)), vI (c 23 p.toNat 2), vI (c 23 p.toNat 3)]) := hR.1 23 p.toNat (lvR (by decide) (by omega))
  refine x_getN (host := "LedgeLevels") C (v := .ref (ad 24 p.toNat)) f6 (T := TX4) rfl kX7_keys_1 0 (by decide) kX7_keys_0 rfl dX7_keys_5 ?_
  have f7 : h (ad 24 p.toNat) = some (eO 0 [.ref (ad 1 0), vI (c 24 p.toNat 1), vI (c 24 p.toNat 2), vI (((c 24 p.toNat 3).toNat : Nat) : Int), vI (c 24 p.toNat 4)]) := hR.1 24 p.toNat (lvR (by decide) (by omega))
  refine x_getN (host := "LedgeLevels") C (v := vI (((c 24 p.toNat 3).toNat : Nat) : Int)) f7 (T := TX0) rfl kX7_keys_3 3 (by decide) kX7_keys_2 rfl dX7_keys_8 ?_
  refine x_callSJ C (n := 1) (As := [vI (((c 24 p.toNat 3).toNat : Nat) : Int)]) (rest := []) (c_J6_bitCount (by omega)) gX7_keys_J6_bitCount_0f7a4 (by decide +kernel) rfl rfl rfl (Nat.le_of_ble_eq_true rfl) ⟨by decide, by decide⟩ ⟨(by decide), (by decide)⟩ dX7_keys_11 (fun rv8 h9 hp10 => ?_)
  obtain ⟨rfl, e11⟩ := hp10
  obtain rfl := e11.symm
  refine x_iret C G dX7_keys_14 ?_ (by decide) (by decide)
  exact ⟨rfl, rfl, by omega⟩

theorem kX7_parent_0 : Cond.fieldLinkNest "LedgeLevels" 227 "LedgeLevels$Work" "parent" "LLedgeLevels$Work;" "LedgeLevels" ∈ nwAll := by decide +kernel
theorem kX7_parent_1 : ∀ w ∈ wsX60, w ∈ wsX7_parent := by decide +kernel
theorem kX7_parent_2 : Cond.fieldLinkNest "LedgeLevels" 231 "LedgeLevels$Work" "number" "I" "LedgeLevels" ∈ nwAll := by decide +kernel
set_option maxRecDepth 100000 in
set_option maxHeartbeats 1000000 in
theorem c_X7_parent {l : Launch} {D : va_G} {A : Nat → Prop} {h : vh} {ad : AD} {c : CS} {L W : Nat} {w : Int}  (hR : RepC D ad c L W h) (hC : Cok c L W) (hi_w : -2147483648 ≤ w ∧ w ≤ 2147483647) : TX l D A yX7_parent wsX7_parent { frames := 7, cells := 1, slots := 6, locals := 112 } [.ref (ad 0 0), vI w] h (fun rv h' => rv = some (vI (c 18 w.toNat 2 - 1)) ∧ h' = h ∧ ((0 ≤ w ∧ w < (W : Int)))) (XP (¬ (0 ≤ w ∧ w < (W : Int))) False False h) := by
  refine TX.of (cc := cX7_parent) (maxL := 3) (ret := (some .int)) [(0, .ref (ad 0 0)), (1, vI w)] (by decide +kernel) rfl rfl (Nat.le_of_ble_eq_true rfl) ?_
  intro κ C hkl G GT
  subst hkl
  have C : CX κ "LedgeLevels" "parent" cX7_parent wsX7_parent { frames := 7, cells := 1, slots := 6, locals := 112 } D A 3 := C
  have hiz : nq (D.1 20) (D.1 21) := cx_iz C
  obtain ⟨hO1, q2, q3, q4, q5⟩ := id hC
  obtain ⟨o1, o2, o3, o4, o5, o6, o7⟩ := id hO1
  refine x_aload_n C dX7_parent_0 0 rfl ?_
  refine x_iload_n C dX7_parent_1 1 rfl ?_
  have f1 : h (ad 0 0) = some (eO 7 [.ref (ad 1 0), .ref (ad 2 0), .ref (ad 3 0), .ref (ad 4 0), .ref (ad 5 0), vI (c 0 0 5), vI (c 0 0 6)]) := hR.1 0 0 (lv0 (by decide))
  refine x_callVt C (n := 1) (qc := (RX7, TX7, 7)) (As := [vI w]) (rest := []) (c_X7_workOf (hR) (by assumption) (by omega)) gX7_parent_X7_workOf (by decide +kernel) f1 rfl rfl rfl rfl (Nat.le_of_ble_eq_true rfl) ⟨by decide, by decide⟩ ⟨(by decide), (by decide)⟩ dX7_parent_2 GT (by decide) (by decide) (fun E h9 hx9 => XP.imp hx9 (fun z9 => by first | exact z9.elim | omega) (fun z9 => by first | exact z9.elim | omega) (fun z9 => by first | exact z9.elim | omega)) (fun rv2 h3 hp4 => ?_)
  obtain ⟨rfl, e5, hw_2⟩ := hp4
  obtain rfl := e5.symm
  obtain ⟨hg, ⟨e0, e1, e2, e3, e4, e5, e6⟩⟩ := q4 w.toNat (by omega)
  have f6 : h (ad 18 w.toNat) = some (eO 6 [vI (c 18 w.toNat 0), vI (c 18 w.toNat 1), va_rf (prf ad (c 18 w.toNat 2)), .ref (ad 19 w.toNat), vI (c 18 w.toNat 4), .ref (ad 22 w.toNat), vI (c 18 w.toNat 6), vI (c 18 w.toNat 7)]) := hR.1 18 w.toNat (lvW (by decide) (by omega))
  refine x_getN (host := "LedgeLevels") C (v := va_rf (prf ad (c 18 w.toNat 2))) f6 (T := TX6) rfl kX7_parent_1 2 (by decide) kX7_parent_0 rfl dX7_parent_5 ?_
  rcases prf_or (ad := ad) (show 0 ≤ c 18 w.toNat 2 from by omega) with ⟨hz, hq⟩ | ⟨y, hz, hq⟩
  · skip
    refine x_rf_n hq ?_
    refine x_astore_nN C (ls' := [(0, .ref (ad 0 0)), (1, vI w), (2, .null)]) dX7_parent_8 (by decide) rfl ?_
    refine x_aload_nN C dX7_parent_9 2 rfl ?_
    refine x_ifnonnullN C dX7_parent_10 ?_
    refine x_iconst C dX7_parent_13 (-1) (by decide) ?_
    refine x_goto (tgt := 21) C dX7_parent_14 (by decide) ?_
    refine x_iret C G dX7_parent_21 ?_ (by decide) (by decide)
    refine ⟨?_, rfl, by omega⟩
    first
      | (rw [hz]; done)
      | (rw [hz]; rfl)
      | rw [(q4 y (by omega)).2.1, hz, Int.add_sub_cancel]
  · skip
    refine x_rf_s hq ?_
    refine x_astore_n C (ls' := [(0, .ref (ad 0 0)), (1, vI w), (2, .ref (ad 18 y))]) dX7_parent_8 (by decide) rfl ?_
    refine x_aload_n C dX7_parent_9 2 rfl ?_
    refine x_ifnonnull (tgt := 17) C dX7_parent_10 (by decide) ?_
    refine x_aload_n C dX7_parent_17 2 rfl ?_
    have f7 : h (ad 18 y) = some (eO 6 [vI (c 18 y 0), vI (c 18 y 1), va_rf (prf ad (c 18 y 2)), .ref (ad 19 y), vI (c 18 y 4), .ref (ad 22 y), vI (c 18 y 6), vI (c 18 y 7)]) := hR.1 18 y (lvW (by decide) (by omega))
    refine x_getN (host := "LedgeLevels") C (v := vI (c 18 y 0)) f7 (T := TX6) rfl kX7_parent_1 0 (by decide) kX7_parent_2 rfl dX7_parent_18 ?_
    refine x_iret C G dX7_parent_21 ?_ (by decide) (by decide)
    refine ⟨?_, rfl, by omega⟩
    first
      | (rw [hz]; done)
      | (rw [hz]; rfl)
      | rw [(q4 y (by omega)).2.1, hz, Int.add_sub_cancel]

theorem kX7_strength_0 : Cond.fieldLink "LedgeLevels" 7 "LedgeLevels" "strengths" "[I" ∈ wsX7_strength := by decide +kernel
theorem kX7_strength_1 : ∀ w ∈ wsX70, w ∈ wsX7_strength := by decide +kernel
set_option maxRecDepth 100000 in
set_option maxHeartbeats 1000000 in
theorem c_X7_strength {l : Launch} {D : va_G} {A : Nat → Prop} {h : vh} {ad : AD} {c : CS} {L W : Nat} {s : Int}  (hR : RepC D ad c L W h) (hC : Cok c L W) (hi_s : -2147483648 ≤ s ∧ s ≤ 2147483647) : TX l D A yX7_strength wsX7_strength { frames := 7, cells := 1, slots := 6, locals := 110 } [.ref (ad 0 0), vI s] h (fun rv h' => rv = some (vI (c 1 0 s.toNat)) ∧ h' = h ∧ (0 ≤ s ∧ s < 3)) (XP (¬ (0 ≤ s ∧ s < 3)) False False h) := by
  refine TX.of (cc := cX7_strength) (maxL := 2) (ret := (some .int)) [(0, .ref (ad 0 0)), (1, vI s)] (by decide +kernel) rfl rfl (Nat.le_of_ble_eq_true rfl) ?_
  intro κ C hkl G GT
  subst hkl
  have C : CX κ "LedgeLevels" "strength" cX7_strength wsX7_strength { frames := 7, cells := 1, slots := 6, locals := 110 } D A 2 := C
  have hiz : nq (D.1 20) (D.1 21) := cx_iz C
  obtain ⟨hO1, q2, q3, q4, q5⟩ := id hC
  obtain ⟨o1, o2, o3, o4, o5, o6, o7⟩ := id hO1
  refine x_iload_n C dX7_strength_0 1 rfl ?_
  refine x_callSt C (n := 1) (As := [vI s]) (rest := []) (c_X7_checkSpring (hR) (by omega)) gX7_strength_X7_checkSpring (by decide +kernel) rfl rfl rfl (Nat.le_of_ble_eq_true rfl) ⟨by decide, by decide⟩ ⟨(by decide), (by decide)⟩ dX7_strength_1 GT (by decide) (by decide) (fun E h9 hx9 => XP.imp hx9 (fun z9 => by first | exact z9.elim | omega) (fun z9 => by first | exact z9.elim | omega) (fun z9 => by first | exact z9.elim | omega)) (fun rv1 h2 hp3 => ?_)
  obtain ⟨rfl, e4, hs_1⟩ := hp3
  obtain rfl := e4.symm
  refine x_aload_n C dX7_strength_4 0 rfl ?_
  have f5 : h (ad 0 0) = some (eO 7 [.ref (ad 1 0), .ref (ad 2 0), .ref (ad 3 0), .ref (ad 4 0), .ref (ad 5 0), vI (c 0 0 5), vI (c 0 0 6)]) := hR.1 0 0 (lv0 (by decide))
  refine x_get C (v := .ref (ad 1 0)) f5 (T := TX7) rfl kX7_strength_1 0 (by decide) kX7_strength_0 rfl dX7_strength_5 ?_
  refine x_iload_n C dX7_strength_8 1 rfl ?_
  have f6 : h (ad 1 0) = some (eI D 3 (c 1 0)) := hR.1 1 0 (lv0 (by decide))
  refine x_iald C f6 ⟨by omega, by omega⟩ (by decide) dX7_strength_9 ?_
  refine x_iret C G dX7_strength_10 ?_ (by decide) (by decide)
  exact ⟨rfl, rfl, by omega⟩

theorem kX7_levels_0 : Cond.fieldLink "LedgeLevels" 40 "LedgeLevels" "levelCount" "I" ∈ wsX7_levels := by decide +kernel
theorem kX7_levels_1 : ∀ w ∈ wsX70, w ∈ wsX7_levels := by decide +kernel
set_option maxRecDepth 100000 in
set_option maxHeartbeats 1000000 in
theorem c_X7_levels {l : Launch} {D : va_G} {A : Nat → Prop} {h : vh} {ad : AD} {c : CS} {L W : Nat}  (hR : RepC D ad c L W h) : MX l D A yX7_levels wsX7_levels { frames := 0, cells := 0, slots := 0, locals := 0 } [.ref (ad 0 0)] h (fun rv h' => rv = some (vI (c 0 0 5)) ∧ h' = h) := by
  refine MX.of (cc := cX7_levels) (maxL := 1) (ret := (some .int)) [(0, .ref (ad 0 0))] (by decide +kernel) rfl rfl (Nat.le_of_ble_eq_true rfl) ?_
  intro κ C hkl G
  subst hkl
  have C : CX κ "LedgeLevels" "levels" cX7_levels wsX7_levels { frames := 0, cells := 0, slots := 0, locals := 0 } D A 1 := C
  have hiz : nq (D.1 20) (D.1 21) := cx_iz C
  refine x_aload_n C dX7_levels_0 0 rfl ?_
  have f1 : h (ad 0 0) = some (eO 7 [.ref (ad 1 0), .ref (ad 2 0), .ref (ad 3 0), .ref (ad 4 0), .ref (ad 5 0), vI (c 0 0 5), vI (c 0 0 6)]) := hR.1 0 0 (lv0 (by decide))
  refine x_get C (v := vI (c 0 0 5)) f1 (T := TX7) rfl kX7_levels_1 5 (by decide) kX7_levels_0 rfl dX7_levels_1 ?_
  refine x_iret C G dX7_levels_4 ?_ (by decide) (by decide)
  exact ⟨rfl, rfl⟩

theorem kX7_works_0 : Cond.fieldLink "LedgeLevels" 44 "LedgeLevels" "workCount" "I" ∈ wsX7_works := by decide +kernel
theorem kX7_works_1 : ∀ w ∈ wsX70, w ∈ wsX7_works := by decide +kernel
set_option maxRecDepth 100000 in
set_option maxHeartbeats 1000000 in
theorem c_X7_works {l : Launch} {D : va_G} {A : Nat → Prop} {h : vh} {ad : AD} {c : CS} {L W : Nat}  (hR : RepC D ad c L W h) : MX l D A yX7_works wsX7_works { frames := 0, cells := 0, slots := 0, locals := 0 } [.ref (ad 0 0)] h (fun rv h' => rv = some (vI (c 0 0 6)) ∧ h' = h) := by
  refine MX.of (cc := cX7_works) (maxL := 1) (ret := (some .int)) [(0, .ref (ad 0 0))] (by decide +kernel) rfl rfl (Nat.le_of_ble_eq_true rfl) ?_
  intro κ C hkl G
  subst hkl
  have C : CX κ "LedgeLevels" "works" cX7_works wsX7_works { frames := 0, cells := 0, slots := 0, locals := 0 } D A 1 := C
  have hiz : nq (D.1 20) (D.1 21) := cx_iz C
  refine x_aload_n C dX7_works_0 0 rfl ?_
  have f1 : h (ad 0 0) = some (eO 7 [.ref (ad 1 0), .ref (ad 2 0), .ref (ad 3 0), .ref (ad 4 0), .ref (ad 5 0), vI (c 0 0 5), vI (c 0 0 6)]) := hR.1 0 0 (lv0 (by decide))
  refine x_get C (v := vI (c 0 0 6)) f1 (T := TX7) rfl kX7_works_1 6 (by decide) kX7_works_0 rfl dX7_works_1 ?_
  refine x_iret C G dX7_works_4 ?_ (by decide) (by decide)
  exact ⟨rfl, rfl⟩

set_option maxRecDepth 100000 in
set_option maxHeartbeats 1000000 in
theorem c_X7_stars {l : Launch} {D : va_G} {A : Nat → Prop} {h : vh} {ad : AD} {c : CS} {L W : Nat} {w : Int}  (hR : RepC D ad c L W h) (hC : Cok c L W) (hi_w : -2147483648 ≤ w ∧ w ≤ 2147483647) : TX l D A yX7_stars wsX7_stars { frames := 7, cells := 1, slots := 6, locals := 112 } [.ref (ad 0 0), vI w] h (fun rv h' => rv = some (vI (sumN (c 22 w.toNat) 6)) ∧ h' = h ∧ ((0 ≤ w ∧ w < (W : Int)))) (XP (¬ (0 ≤ w ∧ w < (W : Int))) False False h) := by
  refine TX.of (cc := cX7_stars) (maxL := 2) (ret := (some .int)) [(0, .ref (ad 0 0)), (1, vI w)] (by decide +kernel) rfl rfl (Nat.le_of_ble_eq_true rfl) ?_
  intro κ C hkl G GT
  subst hkl
  have C : CX κ "LedgeLevels" "stars" cX7_stars wsX7_stars { frames := 7, cells := 1, slots := 6, locals := 112 } D A 2 := C
  have hiz : nq (D.1 20) (D.1 21) := cx_iz C
  obtain ⟨hO1, q2, q3, q4, q5⟩ := id hC
  obtain ⟨o1, o2, o3, o4, o5, o6, o7⟩ := id hO1
  refine x_aload_n C dX7_stars_0 0 rfl ?_
  refine x_iload_n C dX7_stars_1 1 rfl ?_
  have f1 : h (ad 0 0) = some (eO 7 [.ref (ad 1 0), .ref (ad 2 0), .ref (ad 3 0), .ref (ad 4 0), .ref (ad 5 0), vI (c 0 0 5), vI (c 0 0 6)]) := hR.1 0 0 (lv0 (by decide))
  refine x_callVt C (n := 1) (qc := (RX7, TX7, 7)) (As := [vI w]) (rest := []) (c_X7_workOf (hR) (by assumption) (by omega)) gX7_stars_X7_workOf (by decide +kernel) f1 rfl rfl rfl rfl (Nat.le_of_ble_eq_true rfl) ⟨by decide, by decide⟩ ⟨(by decide), (by decide)⟩ dX7_stars_2 GT (by decide) (by decide) (fun E h9 hx9 => XP.imp hx9 (fun z9 => by first | exact z9.elim | omega) (fun z9 => by first | exact z9.elim | omega) (fun z9 => by first | exact z9.elim | omega)) (fun rv2 h3 hp4 => ?_)
  obtain ⟨rfl, e5, hw_2⟩ := hp4
  obtain rfl := e5.symm
  have f6 : h (ad 18 w.toNat) = some (eO 6 [vI (c 18 w.toNat 0), vI (c 18 w.toNat 1), va_rf (prf ad (c 18 w.toNat 2)), .ref (ad 19 w.toNat), vI (c 18 w.toNat 4), .ref (ad 22 w.toNat), vI (c 18 w.toNat 6), vI (c 18 w.toNat 7)]) := hR.1 18 w.toNat (lvW (by decide) (by omega))
  have f7 : h (ad 22 w.toNat) = some (eI D 6 (c 22 w.toNat)) := hR.1 22 w.toNat (lvW (by decide) (by omega))
  refine x_callV C (n := 0) (qc := (RX6, TX6, 8)) (As := []) (rest := []) (c_X6_starSum f6 f7 ((q4 w.toNat (by omega)).2.2.2.2.2.2.2)) gX7_stars_X6_starSum (by decide +kernel) f6 rfl rfl rfl rfl (Nat.le_of_ble_eq_true rfl) ⟨by decide, by decide⟩ ⟨(by decide), (by decide)⟩ dX7_stars_5 (fun rv8 h9 hp10 => ?_)
  obtain ⟨rfl, e11⟩ := hp10
  obtain rfl := e11.symm
  refine x_iret C G dX7_stars_8 ?_ (by decide) (by decide)
  exact ⟨rfl, rfl, by omega⟩

theorem sumN_b {b : Nat → Int} {m : Int} (h : ∀ j, 0 ≤ b j ∧ b j ≤ m) : ∀ n : Nat, 0 ≤ sumN b n ∧ sumN b n ≤ m * n
  | 0 => ⟨Int.le_refl _, by show (0 : Int) ≤ m * ((0 : Nat) : Int); rw [Int.natCast_zero, Int.mul_zero]; exact Int.le_refl _⟩
  | n + 1 => by
    have h1 := sumN_b h n; have h2 := h n
    have e : m * ((n + 1 : Nat) : Int) = m * (n : Int) + m := by rw [Int.natCast_add, Int.mul_add]; simp
    unfold sumN; rw [e]; omega
/-- does a work come from another one; from one by a person -/
noncomputable def lnB (c : CS) (v : Nat) (k : Nat) : Int := bI (Anc (fun i => c 18 i 2) (fun i => i = v) ((k : Int) + 1))
noncomputable def crB (c : CS) (p : Int) (k : Nat) : Int := if bI (Anc (fun i => c 18 i 2) (fun i => c 18 i 1 = p) ((k : Int) + 1)) = 0 then 0 else sumN (c 22 k) 6
theorem crB_t {c : CS} {p : Int} {k : Nat} (h : bI (Anc (fun i => c 18 i 2) (fun i => c 18 i 1 = p) ((k : Int) + 1)) = 0) : sumN (crB c p) k = sumN (crB c p) (k + 1) := by
  have e : crB c p k = 0 := if_pos h
  show _ = sumN (crB c p) k + crB c p k
  rw [e]; omega
theorem crB_f {c : CS} {p : Int} {k : Nat} (h : ¬ bI (Anc (fun i => c 18 i 2) (fun i => c 18 i 1 = p) ((k : Int) + 1)) = 0) : sumN (crB c p) k + sumN (c 22 k) 6 = sumN (crB c p) (k + 1) := by
  have e : crB c p k = sumN (c 22 k) 6 := if_neg h
  show _ = sumN (crB c p) k + crB c p k
  rw [e]

theorem kX7_line_0 : Cond.fieldLink "LedgeLevels" 44 "LedgeLevels" "workCount" "I" ∈ wsX7_line := by decide +kernel
theorem kX7_line_1 : ∀ w ∈ wsX70, w ∈ wsX7_line := by decide +kernel
set_option maxRecDepth 100000 in
set_option maxHeartbeats 1000000 in
theorem c_X7_line {l : Launch} {D : va_G} {A : Nat → Prop} {h : vh} {ad : AD} {c : CS} {L W : Nat} {w : Int}  (hR : RepC D ad c L W h) (hC : Cok c L W) (hi_w : -2147483648 ≤ w ∧ w ≤ 2147483647) : TX l D A yX7_line wsX7_line { frames := 7, cells := 22, slots := 132, locals := 112 } [.ref (ad 0 0), vI w] h (fun rv h' => rv = some (vI (sumN (lnB c w.toNat) W)) ∧ h' = h ∧ ((0 ≤ w ∧ w < (W : Int)))) (XP (¬ (0 ≤ w ∧ w < (W : Int))) False False h) := by
  refine TX.of (cc := cX7_line) (maxL := 5) (ret := (some .int)) [(0, .ref (ad 0 0)), (1, vI w)] (by decide +kernel) rfl rfl (Nat.le_of_ble_eq_true rfl) ?_
  intro κ C hkl G GT
  subst hkl
  have C : CX κ "LedgeLevels" "line" cX7_line wsX7_line { frames := 7, cells := 22, slots := 132, locals := 112 } D A 5 := C
  have hiz : nq (D.1 20) (D.1 21) := cx_iz C
  obtain ⟨hO1, q2, q3, q4, q5⟩ := id hC
  obtain ⟨o1, o2, o3, o4, o5, o6, o7⟩ := id hO1
  have hP9 : ∀ i, i < W → 0 ≤ c 18 i 2 ∧ c 18 i 2 ≤ i := fun i hi => (q4 i hi).2.2.2.1
  refine x_aload_n C dX7_line_0 0 rfl ?_
  refine x_iload_n C dX7_line_1 1 rfl ?_
  have f1 : h (ad 0 0) = some (eO 7 [.ref (ad 1 0), .ref (ad 2 0), .ref (ad 3 0), .ref (ad 4 0), .ref (ad 5 0), vI (c 0 0 5), vI (c 0 0 6)]) := hR.1 0 0 (lv0 (by decide))
  refine x_callVt C (n := 1) (qc := (RX7, TX7, 7)) (As := [vI w]) (rest := []) (c_X7_workOf (hR) (by assumption) (by omega)) gX7_line_X7_workOf (by decide +kernel) f1 rfl rfl rfl rfl (Nat.le_of_ble_eq_true rfl) ⟨by decide, by decide⟩ ⟨(by decide), (by decide)⟩ dX7_line_2 GT (by decide) (by decide) (fun E h9 hx9 => XP.imp hx9 (fun z9 => by first | exact z9.elim | omega) (fun z9 => by first | exact z9.elim | omega) (fun z9 => by first | exact z9.elim | omega)) (fun rv2 h3 hp4 => ?_)
  obtain ⟨rfl, e5, hw_2⟩ := hp4
  obtain rfl := e5.symm
  refine x_astore_n C (ls' := [(0, .ref (ad 0 0)), (1, vI w), (2, .ref (ad 18 w.toNat))]) dX7_line_5 (by decide) rfl ?_
  refine x_iconst C dX7_line_6 0 (by decide) ?_
  refine x_istore_n C (ls' := [(0, .ref (ad 0 0)), (1, vI w), (2, .ref (ad 18 w.toNat)), (3, vI 0)]) dX7_line_7 (by decide) rfl ?_
  refine x_iconst C dX7_line_8 0 (by decide) ?_
  refine x_istore C (ls' := [(0, .ref (ad 0 0)), (1, vI w), (2, .ref (ad 18 w.toNat)), (3, vI 0), (4, vI 0)]) dX7_line_9 (by decide) rfl ?_
  have LP : ∀ (N : Nat) (k : Nat)   (hk : k ≤ W) (hm : W - k < N), X κ (1 + k) (6 + 6 * k) h [(0, .ref (ad 0 0)), (1, vI w), (2, .ref (ad 18 w.toNat)), (3, vI (sumN (lnB c w.toNat) k)), (4, vI ((k : Nat) : Int))] 11 [] := by
    intro N
    induction N with
    | zero => intro k hk hm; exfalso; omega
    | succ N ihLP =>
      intro k hk hm
      have hs9 := sumN_b (b := lnB c w.toNat) (m := 1) (fun j => by have := bI_01 (Anc (fun i => c 18 i 2) (fun i => i = w.toNat) ((j : Int) + 1)); unfold lnB; omega) k
      refine x_iload C dX7_line_11 4 rfl ?_
      refine x_aload_n C dX7_line_13 0 rfl ?_
      refine x_get C (v := vI (c 0 0 6)) f1 (T := TX7) rfl kX7_line_1 6 (by decide) kX7_line_0 rfl dX7_line_14 ?_
      refine x_icmp_ge (tgt := 42) C dX7_line_17 (by decide) (by omega) (by omega) (fun c7 => ?_) (fun c7 => ?_)
      · skip
        refine x_iload_n C dX7_line_42 3 rfl ?_
        refine x_iret C G dX7_line_43 ?_ (by first | omega | (dsimp only; omega)) (by first | omega | (dsimp only; omega))
        obtain rfl : k = W := by omega
        exact ⟨rfl, rfl, by omega⟩
      · skip
        refine x_aload_n C dX7_line_20 0 rfl ?_
        refine x_iload C dX7_line_21 4 rfl ?_
        refine x_callVt C (n := 1) (qc := (RX7, TX7, 7)) (As := [vI ((k : Nat) : Int)]) (rest := []) (c_X7_workOf (hR) (by assumption) (by omega)) gX7_line_X7_workOf (by decide +kernel) f1 rfl rfl rfl rfl (Nat.le_of_ble_eq_true rfl) ⟨by decide, by decide⟩ ⟨(by first | omega | (dsimp only; omega)), (by first | omega | (dsimp only; omega))⟩ dX7_line_23 GT (by first | omega | (dsimp only; omega)) (by first | omega | (dsimp only; omega)) (fun E h9 hx9 => XP.imp hx9 (fun z9 => by first | exact z9.elim | omega) (fun z9 => by first | exact z9.elim | omega) (fun z9 => by first | exact z9.elim | omega)) (fun rv8 h9 hp10 => ?_)
        obtain ⟨rfl, e11, hw_23⟩ := hp10
        obtain rfl := e11.symm
        refine x_aload_n C dX7_line_26 2 rfl ?_
        have f12 : h (ad 18 k) = some (eO 6 [vI (c 18 k 0), vI (c 18 k 1), va_rf (prf ad (c 18 k 2)), .ref (ad 19 k), vI (c 18 k 4), .ref (ad 22 k), vI (c 18 k 6), vI (c 18 k 7)]) := hR.1 18 k (lvW (by decide) (by omega))
        refine x_callV C (n := 1) (qc := (RX6, TX6, 8)) (As := [.ref (ad 18 w.toNat)]) (rest := []) (c_X6_comesFrom (hR) (by omega) (hP9) (by omega)) gX7_line_X6_comesFrom (by decide +kernel) f12 rfl rfl rfl rfl (Nat.le_of_ble_eq_true rfl) ⟨by decide, by decide⟩ ⟨(by first | omega | (dsimp only; omega)), (by first | omega | (dsimp only; omega))⟩ dX7_line_27 (fun rv13 h14 hp15 => ?_)
        obtain ⟨rfl, e16⟩ := hp15
        obtain rfl := e16.symm
        have hbr := bI_01 (Anc (fun i => c 18 i 2) (fun i => i = w.toNat) ((k : Int) + 1))
        refine x_if_eq (tgt := 36) C dX7_line_30 (by decide) (by omega) (fun c17 => ?_) (fun c17 => ?_)
        · skip
          refine x_iinc C (x := ((k : Nat) : Int)) (ls' := [(0, .ref (ad 0 0)), (1, vI w), (2, .ref (ad 18 w.toNat)), (3, vI (sumN (lnB c w.toNat) k)), (4, vI ((((k : Nat) : Int)) + 1))]) dX7_line_36 4 rfl (by decide) rfl ?_
          refine x_goto (tgt := 11) C dX7_line_39 (by decide) ?_
          have hst : sumN (lnB c w.toNat) k = sumN (lnB c w.toNat) (k + 1) := by show _ = sumN (lnB c w.toNat) k + lnB c w.toNat k; unfold lnB; omega
          rw [hst]
          refine x_widen (m1 := 1 + (k + 1)) (m2 := 6 + 6 * (k + 1)) (by first | omega | (dsimp only; omega)) (by first | omega | (dsimp only; omega)) ?_
          exact ihLP (k + 1) (by omega) (by omega)
        · skip
          refine x_iinc C (x := sumN (lnB c w.toNat) k) (ls' := [(0, .ref (ad 0 0)), (1, vI w), (2, .ref (ad 18 w.toNat)), (3, vI ((sumN (lnB c w.toNat) k) + 1)), (4, vI ((k : Nat) : Int))]) dX7_line_33 3 rfl (by decide) rfl ?_
          refine x_iinc C (x := ((k : Nat) : Int)) (ls' := [(0, .ref (ad 0 0)), (1, vI w), (2, .ref (ad 18 w.toNat)), (3, vI ((sumN (lnB c w.toNat) k) + 1)), (4, vI ((((k : Nat) : Int)) + 1))]) dX7_line_36 4 rfl (by decide) rfl ?_
          refine x_goto (tgt := 11) C dX7_line_39 (by decide) ?_
          have hst : (sumN (lnB c w.toNat) k) + 1 = sumN (lnB c w.toNat) (k + 1) := by show _ = sumN (lnB c w.toNat) k + lnB c w.toNat k; unfold lnB; omega
          rw [hst]
          refine x_widen (m1 := 1 + (k + 1)) (m2 := 6 + 6 * (k + 1)) (by first | omega | (dsimp only; omega)) (by first | omega | (dsimp only; omega)) ?_
          exact ihLP (k + 1) (by omega) (by omega)
  exact LP (W + 1) 0 (by omega) (by omega)

theorem kX7_credit_0 : Cond.fieldLink "LedgeLevels" 44 "LedgeLevels" "workCount" "I" ∈ wsX7_credit := by decide +kernel
theorem kX7_credit_1 : ∀ w ∈ wsX70, w ∈ wsX7_credit := by decide +kernel
set_option maxRecDepth 100000 in
set_option maxHeartbeats 1000000 in
theorem c_X7_credit {l : Launch} {D : va_G} {A : Nat → Prop} {h : vh} {ad : AD} {c : CS} {L W : Nat} {p : Int}  (hR : RepC D ad c L W h) (hC : Cok c L W) (hi_p : -2147483648 ≤ p ∧ p ≤ 2147483647) : TX l D A yX7_credit wsX7_credit { frames := 7, cells := 22, slots := 132, locals := 112 } [.ref (ad 0 0), vI p] h (fun rv h' => rv = some (vI (sumN (crB c p) W)) ∧ h' = h ∧ ((0 ≤ p ∧ p < 6))) (XP (¬ (0 ≤ p ∧ p < 6)) False False h) := by
  refine TX.of (cc := cX7_credit) (maxL := 5) (ret := (some .int)) [(0, .ref (ad 0 0)), (1, vI p)] (by decide +kernel) rfl rfl (Nat.le_of_ble_eq_true rfl) ?_
  intro κ C hkl G GT
  subst hkl
  have C : CX κ "LedgeLevels" "credit" cX7_credit wsX7_credit { frames := 7, cells := 22, slots := 132, locals := 112 } D A 5 := C
  have hiz : nq (D.1 20) (D.1 21) := cx_iz C
  obtain ⟨hO1, q2, q3, q4, q5⟩ := id hC
  obtain ⟨o1, o2, o3, o4, o5, o6, o7⟩ := id hO1
  have hP9 : ∀ i, i < W → 0 ≤ c 18 i 2 ∧ c 18 i 2 ≤ i := fun i hi => (q4 i hi).2.2.2.1
  have hA9 : ∀ i, i < W → 0 ≤ c 18 i 1 ∧ c 18 i 1 ≤ 5 := fun i hi => (q4 i hi).2.2.1
  have hsb : ∀ n : Nat, n ≤ W → 0 ≤ sumN (crB c p) n ∧ sumN (crB c p) n ≤ 30 * n := by
    intro n
    induction n with
    | zero => intro _; exact ⟨Int.le_refl _, Int.le_refl _⟩
    | succ n ih =>
      intro hn
      have h1 := ih (by omega)
      have h2 := sumN_r (q4 n (by omega)).2.2.2.2.2.2.2 6
      have h3 : sumN (crB c p) (n + 1) = sumN (crB c p) n + crB c p n := rfl
      have h4 : crB c p n = 0 ∨ crB c p n = sumN (c 22 n) 6 := by
        unfold crB; split
        · exact Or.inl rfl
        · exact Or.inr rfl
      omega
  refine x_iload_n C dX7_credit_0 1 rfl ?_
  refine x_callSt C (n := 1) (As := [vI p]) (rest := []) (c_X7_checkPerson (hR) (by omega)) gX7_credit_X7_checkPerson (by decide +kernel) rfl rfl rfl (Nat.le_of_ble_eq_true rfl) ⟨by decide, by decide⟩ ⟨(by decide), (by decide)⟩ dX7_credit_1 GT (by decide) (by decide) (fun E h9 hx9 => XP.imp hx9 (fun z9 => by first | exact z9.elim | omega) (fun z9 => by first | exact z9.elim | omega) (fun z9 => by first | exact z9.elim | omega)) (fun rv1 h2 hp3 => ?_)
  obtain ⟨rfl, e4, hp_1⟩ := hp3
  obtain rfl := e4.symm
  refine x_iconst C dX7_credit_4 0 (by decide) ?_
  refine x_istore_n C (ls' := [(0, .ref (ad 0 0)), (1, vI p), (2, vI 0)]) dX7_credit_5 (by decide) rfl ?_
  refine x_iconst C dX7_credit_6 0 (by decide) ?_
  refine x_istore_n C (ls' := [(0, .ref (ad 0 0)), (1, vI p), (2, vI 0), (3, vI 0)]) dX7_credit_7 (by decide) rfl ?_
  have LP : ∀ (N : Nat) (k : Nat)   (hk : k ≤ W) (hm : W - k < N), X κ (1 + k) (6 + 6 * k) h [(0, .ref (ad 0 0)), (1, vI p), (2, vI (sumN (crB c p) k)), (3, vI ((k : Nat) : Int))] 8 [] := by
    intro N
    induction N with
    | zero => intro k hk hm; exfalso; omega
    | succ N ihLP =>
      intro k hk hm
      have hs9 := hsb k hk
      refine x_iload_n C dX7_credit_8 3 rfl ?_
      refine x_aload_n C dX7_credit_9 0 rfl ?_
      have f6 : h (ad 0 0) = some (eO 7 [.ref (ad 1 0), .ref (ad 2 0), .ref (ad 3 0), .ref (ad 4 0), .ref (ad 5 0), vI (c 0 0 5), vI (c 0 0 6)]) := hR.1 0 0 (lv0 (by decide))
      refine x_get C (v := vI (c 0 0 6)) f6 (T := TX7) rfl kX7_credit_1 6 (by decide) kX7_credit_0 rfl dX7_credit_10 ?_
      refine x_icmp_ge (tgt := 46) C dX7_credit_13 (by decide) (by omega) (by omega) (fun c7 => ?_) (fun c7 => ?_)
      · skip
        refine x_iload_n C dX7_credit_46 2 rfl ?_
        refine x_iret C G dX7_credit_47 ?_ (by first | omega | (dsimp only; omega)) (by first | omega | (dsimp only; omega))
        obtain rfl : k = W := by omega
        exact ⟨rfl, rfl, by omega⟩
      · skip
        refine x_aload_n C dX7_credit_16 0 rfl ?_
        refine x_iload_n C dX7_credit_17 3 rfl ?_
        refine x_callVt C (n := 1) (qc := (RX7, TX7, 7)) (As := [vI ((k : Nat) : Int)]) (rest := []) (c_X7_workOf (hR) (by assumption) (by omega)) gX7_credit_X7_workOf (by decide +kernel) f6 rfl rfl rfl rfl (Nat.le_of_ble_eq_true rfl) ⟨by decide, by decide⟩ ⟨(by first | omega | (dsimp only; omega)), (by first | omega | (dsimp only; omega))⟩ dX7_credit_18 GT (by first | omega | (dsimp only; omega)) (by first | omega | (dsimp only; omega)) (fun E h9 hx9 => XP.imp hx9 (fun z9 => by first | exact z9.elim | omega) (fun z9 => by first | exact z9.elim | omega) (fun z9 => by first | exact z9.elim | omega)) (fun rv8 h9 hp10 => ?_)
        obtain ⟨rfl, e11, hw_18⟩ := hp10
        obtain rfl := e11.symm
        refine x_astore C (ls' := [(0, .ref (ad 0 0)), (1, vI p), (2, vI (sumN (crB c p) k)), (3, vI ((k : Nat) : Int)), (4, .ref (ad 18 k))]) dX7_credit_21 (by decide) rfl ?_
        refine x_aload C dX7_credit_23 4 rfl ?_
        refine x_iload_n C dX7_credit_25 1 rfl ?_
        have f12 : h (ad 18 k) = some (eO 6 [vI (c 18 k 0), vI (c 18 k 1), va_rf (prf ad (c 18 k 2)), .ref (ad 19 k), vI (c 18 k 4), .ref (ad 22 k), vI (c 18 k 6), vI (c 18 k 7)]) := hR.1 18 k (lvW (by decide) (by omega))
        refine x_callV C (n := 1) (qc := (RX6, TX6, 8)) (As := [vI p]) (rest := []) (c_X6_comesFromWorkBy (hR) (by omega) (hP9) (by omega) (hA9)) gX7_credit_X6_comesFromWorkBy (by decide +kernel) f12 rfl rfl rfl rfl (Nat.le_of_ble_eq_true rfl) ⟨by decide, by decide⟩ ⟨(by first | omega | (dsimp only; omega)), (by first | omega | (dsimp only; omega))⟩ dX7_credit_26 (fun rv13 h14 hp15 => ?_)
        obtain ⟨rfl, e16⟩ := hp15
        obtain rfl := e16.symm
        have hbr := bI_01 (Anc (fun i => c 18 i 2) (fun i => c 18 i 1 = p) ((k : Int) + 1))
        refine x_if_eq (tgt := 40) C dX7_credit_29 (by decide) (by omega) (fun c17 => ?_) (fun c17 => ?_)
        · skip
          refine x_iinc C (x := ((k : Nat) : Int)) (ls' := [(0, .ref (ad 0 0)), (1, vI p), (2, vI (sumN (crB c p) k)), (3, vI ((((k : Nat) : Int)) + 1)), (4, .ref (ad 18 k))]) dX7_credit_40 3 rfl (by decide) rfl ?_
          refine x_goto (tgt := 8) C dX7_credit_43 (by decide) ?_
          have hst : sumN (crB c p) k = sumN (crB c p) (k + 1) := by first | exact crB_t (by assumption) | exact crB_f (by assumption)
          rw [hst]
          refine x_sub [0, 1, 2, 3] (ls' := [(0, .ref (ad 0 0)), (1, vI p), (2, vI (sumN (crB c p) (k + 1))), (3, vI ((((k : Nat) : Int)) + 1))]) rfl ?_
          refine x_widen (m1 := 1 + (k + 1)) (m2 := 6 + 6 * (k + 1)) (by first | omega | (dsimp only; omega)) (by first | omega | (dsimp only; omega)) ?_
          exact ihLP (k + 1) (by omega) (by omega)
        · skip
          refine x_iload_n C dX7_credit_32 2 rfl ?_
          refine x_aload C dX7_credit_33 4 rfl ?_
          have f18 : h (ad 22 k) = some (eI D 6 (c 22 k)) := hR.1 22 k (lvW (by decide) (by omega))
          refine x_callV C (n := 0) (qc := (RX6, TX6, 8)) (As := []) (rest := [vI (sumN (crB c p) k)]) (c_X6_starSum f12 f18 ((q4 k (by omega)).2.2.2.2.2.2.2)) gX7_credit_X6_starSum (by decide +kernel) f12 rfl rfl rfl rfl (Nat.le_of_ble_eq_true rfl) ⟨by decide, by decide⟩ ⟨(by first | omega | (dsimp only; omega)), (by first | omega | (dsimp only; omega))⟩ dX7_credit_35 (fun rv19 h20 hp21 => ?_)
          obtain ⟨rfl, e22⟩ := hp21
          obtain rfl := e22.symm
          refine x_iadd C dX7_credit_38 ?_
          refine x_istore_n C (ls' := [(0, .ref (ad 0 0)), (1, vI p), (2, vI ((sumN (crB c p) k) + (sumN (c 22 k) 6))), (3, vI ((k : Nat) : Int)), (4, .ref (ad 18 k))]) dX7_credit_39 (by decide) rfl ?_
          refine x_iinc C (x := ((k : Nat) : Int)) (ls' := [(0, .ref (ad 0 0)), (1, vI p), (2, vI ((sumN (crB c p) k) + (sumN (c 22 k) 6))), (3, vI ((((k : Nat) : Int)) + 1)), (4, .ref (ad 18 k))]) dX7_credit_40 3 rfl (by decide) rfl ?_
          refine x_goto (tgt := 8) C dX7_credit_43 (by decide) ?_
          have hst : (sumN (crB c p) k) + (sumN (c 22 k) 6) = sumN (crB c p) (k + 1) := by first | exact crB_t (by assumption) | exact crB_f (by assumption)
          rw [hst]
          refine x_sub [0, 1, 2, 3] (ls' := [(0, .ref (ad 0 0)), (1, vI p), (2, vI (sumN (crB c p) (k + 1))), (3, vI ((((k : Nat) : Int)) + 1))]) rfl ?_
          refine x_widen (m1 := 1 + (k + 1)) (m2 := 6 + 6 * (k + 1)) (by first | omega | (dsimp only; omega)) (by first | omega | (dsimp only; omega)) ?_
          exact ihLP (k + 1) (by omega) (by omega)
  exact LP (W + 1) 0 (by omega) (by omega)


/-- a helper's end: the class's answer lies in the row of longs, or the number of the exception is told -/
def HPo (D : va_G) (ao : Nat) (fo : Nat → Int64) (POST : Option Value → vh → Prop) (XPOST : String → vh → Prop) (cs : List String) : Option Value → vh → Prop := fun rv h' => (∃ (v : Int) (h1 : vh), POST (some (vI v)) h1 ∧ rv = some (vI 0) ∧ h' = hu h1 ao (eJ D 1 (vp_updL fo 0 (iI v).toInt64))) ∨ ∃ (E : String) (j : Nat), XPOST E h' ∧ cs[j]? = some E ∧ rv = some (vI ((j + 1 : Nat) : Int))

theorem kL_begin_13 : Cond.classLink "LedgeLevelsLaw" 13 "java/lang/IndexOutOfBoundsException" ∈ wsL_begin := by decide +kernel
theorem kL_begin_15 : Cond.classLink "LedgeLevelsLaw" 15 "java/lang/IllegalStateException" ∈ wsL_begin := by decide +kernel
theorem tkL_begin_0 : Tk "LedgeLevelsLaw" wsL_begin [(0, 9, 12, 13), (0, 9, 15, 15)] 4 "java/lang/IndexOutOfBoundsException" 12 := ⟨[], (⟨0, 9, 12, 13⟩ : ExceptionTableEntry), [(⟨0, 9, 15, 15⟩ : ExceptionTableEntry)], "java/lang/IndexOutOfBoundsException", rfl, (fun z hz => by cases hz), by decide, by decide, kL_begin_13, by decide +kernel, rfl⟩
theorem tkL_begin_1 : Tk "LedgeLevelsLaw" wsL_begin [(0, 9, 12, 13), (0, 9, 15, 15)] 4 "java/lang/IllegalStateException" 15 := ⟨[(⟨0, 9, 12, 13⟩ : ExceptionTableEntry)], (⟨0, 9, 15, 15⟩ : ExceptionTableEntry), [], "java/lang/IllegalStateException", rfl, (fun z hz => by
    rcases List.mem_singleton.mp hz with rfl
    exact ⟨by decide, "java/lang/IndexOutOfBoundsException", kL_begin_13, fun _ hh => hh.2.1⟩), by decide, by decide, kL_begin_15, by decide +kernel, rfl⟩
set_option maxRecDepth 100000 in
theorem c_L_begin {l : Launch} {D : va_G} {A : Nat → Prop} {h : vh} {b ao : Nat} {p0 : Int} {fs : List Value} {fo : Nat → Int64} {POST : Option Value → vh → Prop} {XPOST : String → vh → Prop} (hM : TX l D A yX7_begin wsX7_begin { frames := 7, cells := 9, slots := 239, locals := 113 } [.ref b, vI p0] h POST XPOST) (hb : h b = some (eO 7 fs)) (hP : ∀ rv h1, POST rv h1 → ∃ v, rv = some (vI v) ∧ h1 ao = some (eJ D 1 fo)) (hX : ∀ E h1, XPOST E h1 → E = "java/lang/IndexOutOfBoundsException" ∨ E = "java/lang/IllegalStateException") : HX l D A yL_begin wsL_begin { frames := 8, cells := 9, slots := 239, locals := 136 } [.ref b, vI p0, .ref ao] h (HPo D ao fo POST XPOST ["java/lang/IndexOutOfBoundsException", "java/lang/IllegalStateException"]) := by
  refine HX.of (cc := cL_begin) (maxL := 4) (ret := (some .int)) (hh := [(0, 9, 12, 13), (0, 9, 15, 15)]) [(0, .ref b), (1, vI p0), (2, .ref ao)] (by decide +kernel) rfl rfl (Nat.le_of_ble_eq_true rfl) ?_
  intro κ C hkl G ch kn
  subst hkl
  have C : CX κ "LedgeLevelsLaw" "begin" cL_begin wsL_begin { frames := 8, cells := 9, slots := 239, locals := 136 } D A 4 := C
  refine x_aload_n C dL_begin_0 2 rfl ?_
  refine x_iconst C dL_begin_1 0 (by decide) ?_
  refine x_aload_n C dL_begin_2 0 rfl ?_
  refine x_iload_n C dL_begin_3 1 rfl ?_
  refine x_callVh C (n := 1) (qc := (RX7, TX7, 7)) (As := [vI p0]) (rest := [vI 0, .ref ao]) hM gL_begin_X7_begin (by decide +kernel) hb rfl rfl rfl rfl (Nat.le_of_ble_eq_true rfl) ⟨by decide, by decide⟩ ⟨(by decide), (by decide)⟩ dL_begin_4 ch kn (fun E h1 q hx => ?_) (fun rv h1 hp => ?_)
  · rcases hX E h1 hx with rfl | rfl
    · refine ⟨12, tkL_begin_0, ?_⟩
      refine x_astore_n C (ls' := [(0, .ref b), (1, vI p0), (2, .ref ao)] ++ [(3, .ref q)]) dL_begin_12 (by decide) rfl ?_
      refine x_iconst C dL_begin_13 1 (by decide) ?_
      exact x_iret C G dL_begin_14 (Or.inr ⟨_, 0, hx, rfl, rfl⟩) (by decide) (by decide)
    · refine ⟨15, tkL_begin_1, ?_⟩
      refine x_astore_n C (ls' := [(0, .ref b), (1, vI p0), (2, .ref ao)] ++ [(3, .ref q)]) dL_begin_15 (by decide) rfl ?_
      refine x_iconst C dL_begin_16 2 (by decide) ?_
      exact x_iret C G dL_begin_17 (Or.inr ⟨_, 1, hx, rfl, rfl⟩) (by decide) (by decide)
  · obtain ⟨v, rfl, ho⟩ := hP rv h1 hp
    refine x_i2l C dL_begin_7 ?_
    refine x_last C ho ⟨by decide, by decide⟩ (by decide) dL_begin_8 ?_
    refine x_goto (tgt := 18) C dL_begin_9 (by decide) ?_
    refine x_iconst C dL_begin_18 0 (by decide) ?_
    exact x_iret C G dL_begin_19 (Or.inl ⟨v, h1, hp, rfl, rfl⟩) (by decide) (by decide)

theorem kL_set_13 : Cond.classLink "LedgeLevelsLaw" 13 "java/lang/IndexOutOfBoundsException" ∈ wsL_set := by decide +kernel
theorem kL_set_21 : Cond.classLink "LedgeLevelsLaw" 21 "java/lang/IllegalArgumentException" ∈ wsL_set := by decide +kernel
theorem kL_set_15 : Cond.classLink "LedgeLevelsLaw" 15 "java/lang/IllegalStateException" ∈ wsL_set := by decide +kernel
theorem tkL_set_0 : Tk "LedgeLevelsLaw" wsL_set [(0, 12, 15, 13), (0, 12, 19, 21), (0, 12, 23, 15)] 7 "java/lang/IndexOutOfBoundsException" 15 := ⟨[], (⟨0, 12, 15, 13⟩ : ExceptionTableEntry), [(⟨0, 12, 19, 21⟩ : ExceptionTableEntry), (⟨0, 12, 23, 15⟩ : ExceptionTableEntry)], "java/lang/IndexOutOfBoundsException", rfl, (fun z hz => by cases hz), by decide, by decide, kL_set_13, by decide +kernel, rfl⟩
theorem tkL_set_1 : Tk "LedgeLevelsLaw" wsL_set [(0, 12, 15, 13), (0, 12, 19, 21), (0, 12, 23, 15)] 7 "java/lang/IllegalArgumentException" 19 := ⟨[(⟨0, 12, 15, 13⟩ : ExceptionTableEntry)], (⟨0, 12, 19, 21⟩ : ExceptionTableEntry), [(⟨0, 12, 23, 15⟩ : ExceptionTableEntry)], "java/lang/IllegalArgumentException", rfl, (fun z hz => by
    rcases List.mem_singleton.mp hz with rfl
    exact ⟨by decide, "java/lang/IndexOutOfBoundsException", kL_set_13, fun _ hh => hh.1⟩), by decide, by decide, kL_set_21, by decide +kernel, rfl⟩
theorem tkL_set_2 : Tk "LedgeLevelsLaw" wsL_set [(0, 12, 15, 13), (0, 12, 19, 21), (0, 12, 23, 15)] 7 "java/lang/IllegalStateException" 23 := ⟨[(⟨0, 12, 15, 13⟩ : ExceptionTableEntry), (⟨0, 12, 19, 21⟩ : ExceptionTableEntry)], (⟨0, 12, 23, 15⟩ : ExceptionTableEntry), [], "java/lang/IllegalStateException", rfl, (fun z hz => by
    rcases (List.mem_cons.mp hz).imp id List.mem_singleton.mp with rfl | rfl
    · exact ⟨by decide, "java/lang/IndexOutOfBoundsException", kL_set_13, fun _ hh => hh.2.1⟩
    · exact ⟨by decide, "java/lang/IllegalArgumentException", kL_set_21, fun _ hh => hh.2.2⟩), by decide, by decide, kL_set_15, by decide +kernel, rfl⟩
set_option maxRecDepth 100000 in
theorem c_L_set {l : Launch} {D : va_G} {A : Nat → Prop} {h : vh} {b ao : Nat} {p0 p1 p2 : Int} {fs : List Value} {fo : Nat → Int64} {POST : Option Value → vh → Prop} {XPOST : String → vh → Prop} (hM : TX l D A yX7_set wsX7_set { frames := 7, cells := 3, slots := 18, locals := 112 } [.ref b, vI p0, vI p1, vI p2] h POST XPOST) (hb : h b = some (eO 7 fs)) (hP : ∀ rv h1, POST rv h1 → ∃ v, rv = some (vI v) ∧ h1 ao = some (eJ D 1 fo)) (hX : ∀ E h1, XPOST E h1 → E = "java/lang/IndexOutOfBoundsException" ∨ E = "java/lang/IllegalArgumentException" ∨ E = "java/lang/IllegalStateException") : HX l D A yL_set wsL_set { frames := 8, cells := 3, slots := 18, locals := 137 } [.ref b, vI p0, vI p1, vI p2, .ref ao] h (HPo D ao fo POST XPOST ["java/lang/IndexOutOfBoundsException", "java/lang/IllegalArgumentException", "java/lang/IllegalStateException"]) := by
  refine HX.of (cc := cL_set) (maxL := 6) (ret := (some .int)) (hh := [(0, 12, 15, 13), (0, 12, 19, 21), (0, 12, 23, 15)]) [(0, .ref b), (1, vI p0), (2, vI p1), (3, vI p2), (4, .ref ao)] (by decide +kernel) rfl rfl (Nat.le_of_ble_eq_true rfl) ?_
  intro κ C hkl G ch kn
  subst hkl
  have C : CX κ "LedgeLevelsLaw" "set" cL_set wsL_set { frames := 8, cells := 3, slots := 18, locals := 137 } D A 6 := C
  refine x_aload C dL_set_0 4 rfl ?_
  refine x_iconst C dL_set_2 0 (by decide) ?_
  refine x_aload_n C dL_set_3 0 rfl ?_
  refine x_iload_n C dL_set_4 1 rfl ?_
  refine x_iload_n C dL_set_5 2 rfl ?_
  refine x_iload_n C dL_set_6 3 rfl ?_
  refine x_callVh C (n := 3) (qc := (RX7, TX7, 7)) (As := [vI p0, vI p1, vI p2]) (rest := [vI 0, .ref ao]) hM gL_set_X7_set (by decide +kernel) hb rfl rfl rfl rfl (Nat.le_of_ble_eq_true rfl) ⟨by decide, by decide⟩ ⟨(by decide), (by decide)⟩ dL_set_7 ch kn (fun E h1 q hx => ?_) (fun rv h1 hp => ?_)
  · rcases hX E h1 hx with rfl | rfl | rfl
    · refine ⟨15, tkL_set_0, ?_⟩
      refine x_astore C (ls' := [(0, .ref b), (1, vI p0), (2, vI p1), (3, vI p2), (4, .ref ao)] ++ [(5, .ref q)]) dL_set_15 (by decide) rfl ?_
      refine x_iconst C dL_set_17 1 (by decide) ?_
      exact x_iret C G dL_set_18 (Or.inr ⟨_, 0, hx, rfl, rfl⟩) (by decide) (by decide)
    · refine ⟨19, tkL_set_1, ?_⟩
      refine x_astore C (ls' := [(0, .ref b), (1, vI p0), (2, vI p1), (3, vI p2), (4, .ref ao)] ++ [(5, .ref q)]) dL_set_19 (by decide) rfl ?_
      refine x_iconst C dL_set_21 2 (by decide) ?_
      exact x_iret C G dL_set_22 (Or.inr ⟨_, 1, hx, rfl, rfl⟩) (by decide) (by decide)
    · refine ⟨23, tkL_set_2, ?_⟩
      refine x_astore C (ls' := [(0, .ref b), (1, vI p0), (2, vI p1), (3, vI p2), (4, .ref ao)] ++ [(5, .ref q)]) dL_set_23 (by decide) rfl ?_
      refine x_iconst C dL_set_25 3 (by decide) ?_
      exact x_iret C G dL_set_26 (Or.inr ⟨_, 2, hx, rfl, rfl⟩) (by decide) (by decide)
  · obtain ⟨v, rfl, ho⟩ := hP rv h1 hp
    refine x_i2l C dL_set_10 ?_
    refine x_last C ho ⟨by decide, by decide⟩ (by decide) dL_set_11 ?_
    refine x_goto (tgt := 27) C dL_set_12 (by decide) ?_
    refine x_iconst C dL_set_27 0 (by decide) ?_
    exact x_iret C G dL_set_28 (Or.inl ⟨v, h1, hp, rfl, rfl⟩) (by decide) (by decide)

theorem kL_setStart_13 : Cond.classLink "LedgeLevelsLaw" 13 "java/lang/IndexOutOfBoundsException" ∈ wsL_setStart := by decide +kernel
theorem tkL_setStart_0 : Tk "LedgeLevelsLaw" wsL_setStart [(0, 10, 13, 13)] 5 "java/lang/IndexOutOfBoundsException" 13 := ⟨[], (⟨0, 10, 13, 13⟩ : ExceptionTableEntry), [], "java/lang/IndexOutOfBoundsException", rfl, (fun z hz => by cases hz), by decide, by decide, kL_setStart_13, by decide +kernel, rfl⟩
set_option maxRecDepth 100000 in
theorem c_L_setStart {l : Launch} {D : va_G} {A : Nat → Prop} {h : vh} {b ao : Nat} {p0 p1 : Int} {fs : List Value} {fo : Nat → Int64} {POST : Option Value → vh → Prop} {XPOST : String → vh → Prop} (hM : TX l D A yX7_setStart wsX7_setStart { frames := 7, cells := 2, slots := 12, locals := 112 } [.ref b, vI p0, vI p1] h POST XPOST) (hb : h b = some (eO 7 fs)) (hP : ∀ rv h1, POST rv h1 → ∃ v, rv = some (vI v) ∧ h1 ao = some (eJ D 1 fo)) (hX : ∀ E h1, XPOST E h1 → E = "java/lang/IndexOutOfBoundsException") : HX l D A yL_setStart wsL_setStart { frames := 8, cells := 2, slots := 12, locals := 136 } [.ref b, vI p0, vI p1, .ref ao] h (HPo D ao fo POST XPOST ["java/lang/IndexOutOfBoundsException"]) := by
  refine HX.of (cc := cL_setStart) (maxL := 5) (ret := (some .int)) (hh := [(0, 10, 13, 13)]) [(0, .ref b), (1, vI p0), (2, vI p1), (3, .ref ao)] (by decide +kernel) rfl rfl (Nat.le_of_ble_eq_true rfl) ?_
  intro κ C hkl G ch kn
  subst hkl
  have C : CX κ "LedgeLevelsLaw" "setStart" cL_setStart wsL_setStart { frames := 8, cells := 2, slots := 12, locals := 136 } D A 5 := C
  refine x_aload_n C dL_setStart_0 3 rfl ?_
  refine x_iconst C dL_setStart_1 0 (by decide) ?_
  refine x_aload_n C dL_setStart_2 0 rfl ?_
  refine x_iload_n C dL_setStart_3 1 rfl ?_
  refine x_iload_n C dL_setStart_4 2 rfl ?_
  refine x_callVh C (n := 2) (qc := (RX7, TX7, 7)) (As := [vI p0, vI p1]) (rest := [vI 0, .ref ao]) hM gL_setStart_X7_setStart (by decide +kernel) hb rfl rfl rfl rfl (Nat.le_of_ble_eq_true rfl) ⟨by decide, by decide⟩ ⟨(by decide), (by decide)⟩ dL_setStart_5 ch kn (fun E h1 q hx => ?_) (fun rv h1 hp => ?_)
  · obtain rfl := hX E h1 hx
    refine ⟨13, tkL_setStart_0, ?_⟩
    refine x_astore C (ls' := [(0, .ref b), (1, vI p0), (2, vI p1), (3, .ref ao)] ++ [(4, .ref q)]) dL_setStart_13 (by decide) rfl ?_
    refine x_iconst C dL_setStart_15 1 (by decide) ?_
    exact x_iret C G dL_setStart_16 (Or.inr ⟨_, 0, hx, rfl, rfl⟩) (by decide) (by decide)
  · obtain ⟨v, rfl, ho⟩ := hP rv h1 hp
    refine x_i2l C dL_setStart_8 ?_
    refine x_last C ho ⟨by decide, by decide⟩ (by decide) dL_setStart_9 ?_
    refine x_goto (tgt := 17) C dL_setStart_10 (by decide) ?_
    refine x_iconst C dL_setStart_17 0 (by decide) ?_
    exact x_iret C G dL_setStart_18 (Or.inl ⟨v, h1, hp, rfl, rfl⟩) (by decide) (by decide)

theorem kL_undo_13 : Cond.classLink "LedgeLevelsLaw" 13 "java/lang/IndexOutOfBoundsException" ∈ wsL_undo := by decide +kernel
theorem kL_undo_15 : Cond.classLink "LedgeLevelsLaw" 15 "java/lang/IllegalStateException" ∈ wsL_undo := by decide +kernel
theorem tkL_undo_0 : Tk "LedgeLevelsLaw" wsL_undo [(0, 9, 12, 13), (0, 9, 15, 15)] 4 "java/lang/IndexOutOfBoundsException" 12 := ⟨[], (⟨0, 9, 12, 13⟩ : ExceptionTableEntry), [(⟨0, 9, 15, 15⟩ : ExceptionTableEntry)], "java/lang/IndexOutOfBoundsException", rfl, (fun z hz => by cases hz), by decide, by decide, kL_undo_13, by decide +kernel, rfl⟩
theorem tkL_undo_1 : Tk "LedgeLevelsLaw" wsL_undo [(0, 9, 12, 13), (0, 9, 15, 15)] 4 "java/lang/IllegalStateException" 15 := ⟨[(⟨0, 9, 12, 13⟩ : ExceptionTableEntry)], (⟨0, 9, 15, 15⟩ : ExceptionTableEntry), [], "java/lang/IllegalStateException", rfl, (fun z hz => by
    rcases List.mem_singleton.mp hz with rfl
    exact ⟨by decide, "java/lang/IndexOutOfBoundsException", kL_undo_13, fun _ hh => hh.2.1⟩), by decide, by decide, kL_undo_15, by decide +kernel, rfl⟩
set_option maxRecDepth 100000 in
theorem c_L_undo {l : Launch} {D : va_G} {A : Nat → Prop} {h : vh} {b ao : Nat} {p0 : Int} {fs : List Value} {fo : Nat → Int64} {POST : Option Value → vh → Prop} {XPOST : String → vh → Prop} (hM : TX l D A yX7_undo wsX7_undo { frames := 7, cells := 2, slots := 12, locals := 112 } [.ref b, vI p0] h POST XPOST) (hb : h b = some (eO 7 fs)) (hP : ∀ rv h1, POST rv h1 → ∃ v, rv = some (vI v) ∧ h1 ao = some (eJ D 1 fo)) (hX : ∀ E h1, XPOST E h1 → E = "java/lang/IndexOutOfBoundsException" ∨ E = "java/lang/IllegalStateException") : HX l D A yL_undo wsL_undo { frames := 8, cells := 2, slots := 12, locals := 136 } [.ref b, vI p0, .ref ao] h (HPo D ao fo POST XPOST ["java/lang/IndexOutOfBoundsException", "java/lang/IllegalStateException"]) := by
  refine HX.of (cc := cL_undo) (maxL := 4) (ret := (some .int)) (hh := [(0, 9, 12, 13), (0, 9, 15, 15)]) [(0, .ref b), (1, vI p0), (2, .ref ao)] (by decide +kernel) rfl rfl (Nat.le_of_ble_eq_true rfl) ?_
  intro κ C hkl G ch kn
  subst hkl
  have C : CX κ "LedgeLevelsLaw" "undo" cL_undo wsL_undo { frames := 8, cells := 2, slots := 12, locals := 136 } D A 4 := C
  refine x_aload_n C dL_undo_0 2 rfl ?_
  refine x_iconst C dL_undo_1 0 (by decide) ?_
  refine x_aload_n C dL_undo_2 0 rfl ?_
  refine x_iload_n C dL_undo_3 1 rfl ?_
  refine x_callVh C (n := 1) (qc := (RX7, TX7, 7)) (As := [vI p0]) (rest := [vI 0, .ref ao]) hM gL_undo_X7_undo (by decide +kernel) hb rfl rfl rfl rfl (Nat.le_of_ble_eq_true rfl) ⟨by decide, by decide⟩ ⟨(by decide), (by decide)⟩ dL_undo_4 ch kn (fun E h1 q hx => ?_) (fun rv h1 hp => ?_)
  · rcases hX E h1 hx with rfl | rfl
    · refine ⟨12, tkL_undo_0, ?_⟩
      refine x_astore_n C (ls' := [(0, .ref b), (1, vI p0), (2, .ref ao)] ++ [(3, .ref q)]) dL_undo_12 (by decide) rfl ?_
      refine x_iconst C dL_undo_13 1 (by decide) ?_
      exact x_iret C G dL_undo_14 (Or.inr ⟨_, 0, hx, rfl, rfl⟩) (by decide) (by decide)
    · refine ⟨15, tkL_undo_1, ?_⟩
      refine x_astore_n C (ls' := [(0, .ref b), (1, vI p0), (2, .ref ao)] ++ [(3, .ref q)]) dL_undo_15 (by decide) rfl ?_
      refine x_iconst C dL_undo_16 2 (by decide) ?_
      exact x_iret C G dL_undo_17 (Or.inr ⟨_, 1, hx, rfl, rfl⟩) (by decide) (by decide)
  · obtain ⟨v, rfl, ho⟩ := hP rv h1 hp
    refine x_i2l C dL_undo_7 ?_
    refine x_last C ho ⟨by decide, by decide⟩ (by decide) dL_undo_8 ?_
    refine x_goto (tgt := 18) C dL_undo_9 (by decide) ?_
    refine x_iconst C dL_undo_18 0 (by decide) ?_
    exact x_iret C G dL_undo_19 (Or.inl ⟨v, h1, hp, rfl, rfl⟩) (by decide) (by decide)

theorem kL_redo_13 : Cond.classLink "LedgeLevelsLaw" 13 "java/lang/IndexOutOfBoundsException" ∈ wsL_redo := by decide +kernel
theorem kL_redo_15 : Cond.classLink "LedgeLevelsLaw" 15 "java/lang/IllegalStateException" ∈ wsL_redo := by decide +kernel
theorem tkL_redo_0 : Tk "LedgeLevelsLaw" wsL_redo [(0, 9, 12, 13), (0, 9, 15, 15)] 4 "java/lang/IndexOutOfBoundsException" 12 := ⟨[], (⟨0, 9, 12, 13⟩ : ExceptionTableEntry), [(⟨0, 9, 15, 15⟩ : ExceptionTableEntry)], "java/lang/IndexOutOfBoundsException", rfl, (fun z hz => by cases hz), by decide, by decide, kL_redo_13, by decide +kernel, rfl⟩
theorem tkL_redo_1 : Tk "LedgeLevelsLaw" wsL_redo [(0, 9, 12, 13), (0, 9, 15, 15)] 4 "java/lang/IllegalStateException" 15 := ⟨[(⟨0, 9, 12, 13⟩ : ExceptionTableEntry)], (⟨0, 9, 15, 15⟩ : ExceptionTableEntry), [], "java/lang/IllegalStateException", rfl, (fun z hz => by
    rcases List.mem_singleton.mp hz with rfl
    exact ⟨by decide, "java/lang/IndexOutOfBoundsException", kL_redo_13, fun _ hh => hh.2.1⟩), by decide, by decide, kL_redo_15, by decide +kernel, rfl⟩
set_option maxRecDepth 100000 in
theorem c_L_redo {l : Launch} {D : va_G} {A : Nat → Prop} {h : vh} {b ao : Nat} {p0 : Int} {fs : List Value} {fo : Nat → Int64} {POST : Option Value → vh → Prop} {XPOST : String → vh → Prop} (hM : TX l D A yX7_redo wsX7_redo { frames := 7, cells := 2, slots := 12, locals := 112 } [.ref b, vI p0] h POST XPOST) (hb : h b = some (eO 7 fs)) (hP : ∀ rv h1, POST rv h1 → ∃ v, rv = some (vI v) ∧ h1 ao = some (eJ D 1 fo)) (hX : ∀ E h1, XPOST E h1 → E = "java/lang/IndexOutOfBoundsException" ∨ E = "java/lang/IllegalStateException") : HX l D A yL_redo wsL_redo { frames := 8, cells := 2, slots := 12, locals := 136 } [.ref b, vI p0, .ref ao] h (HPo D ao fo POST XPOST ["java/lang/IndexOutOfBoundsException", "java/lang/IllegalStateException"]) := by
  refine HX.of (cc := cL_redo) (maxL := 4) (ret := (some .int)) (hh := [(0, 9, 12, 13), (0, 9, 15, 15)]) [(0, .ref b), (1, vI p0), (2, .ref ao)] (by decide +kernel) rfl rfl (Nat.le_of_ble_eq_true rfl) ?_
  intro κ C hkl G ch kn
  subst hkl
  have C : CX κ "LedgeLevelsLaw" "redo" cL_redo wsL_redo { frames := 8, cells := 2, slots := 12, locals := 136 } D A 4 := C
  refine x_aload_n C dL_redo_0 2 rfl ?_
  refine x_iconst C dL_redo_1 0 (by decide) ?_
  refine x_aload_n C dL_redo_2 0 rfl ?_
  refine x_iload_n C dL_redo_3 1 rfl ?_
  refine x_callVh C (n := 1) (qc := (RX7, TX7, 7)) (As := [vI p0]) (rest := [vI 0, .ref ao]) hM gL_redo_X7_redo (by decide +kernel) hb rfl rfl rfl rfl (Nat.le_of_ble_eq_true rfl) ⟨by decide, by decide⟩ ⟨(by decide), (by decide)⟩ dL_redo_4 ch kn (fun E h1 q hx => ?_) (fun rv h1 hp => ?_)
  · rcases hX E h1 hx with rfl | rfl
    · refine ⟨12, tkL_redo_0, ?_⟩
      refine x_astore_n C (ls' := [(0, .ref b), (1, vI p0), (2, .ref ao)] ++ [(3, .ref q)]) dL_redo_12 (by decide) rfl ?_
      refine x_iconst C dL_redo_13 1 (by decide) ?_
      exact x_iret C G dL_redo_14 (Or.inr ⟨_, 0, hx, rfl, rfl⟩) (by decide) (by decide)
    · refine ⟨15, tkL_redo_1, ?_⟩
      refine x_astore_n C (ls' := [(0, .ref b), (1, vI p0), (2, .ref ao)] ++ [(3, .ref q)]) dL_redo_15 (by decide) rfl ?_
      refine x_iconst C dL_redo_16 2 (by decide) ?_
      exact x_iret C G dL_redo_17 (Or.inr ⟨_, 1, hx, rfl, rfl⟩) (by decide) (by decide)
  · obtain ⟨v, rfl, ho⟩ := hP rv h1 hp
    refine x_i2l C dL_redo_7 ?_
    refine x_last C ho ⟨by decide, by decide⟩ (by decide) dL_redo_8 ?_
    refine x_goto (tgt := 18) C dL_redo_9 (by decide) ?_
    refine x_iconst C dL_redo_18 0 (by decide) ?_
    exact x_iret C G dL_redo_19 (Or.inl ⟨v, h1, hp, rfl, rfl⟩) (by decide) (by decide)

theorem kL_setSpring_13 : Cond.classLink "LedgeLevelsLaw" 13 "java/lang/IndexOutOfBoundsException" ∈ wsL_setSpring := by decide +kernel
theorem kL_setSpring_21 : Cond.classLink "LedgeLevelsLaw" 21 "java/lang/IllegalArgumentException" ∈ wsL_setSpring := by decide +kernel
theorem tkL_setSpring_0 : Tk "LedgeLevelsLaw" wsL_setSpring [(0, 10, 13, 13), (0, 10, 17, 21)] 5 "java/lang/IndexOutOfBoundsException" 13 := ⟨[], (⟨0, 10, 13, 13⟩ : ExceptionTableEntry), [(⟨0, 10, 17, 21⟩ : ExceptionTableEntry)], "java/lang/IndexOutOfBoundsException", rfl, (fun z hz => by cases hz), by decide, by decide, kL_setSpring_13, by decide +kernel, rfl⟩
theorem tkL_setSpring_1 : Tk "LedgeLevelsLaw" wsL_setSpring [(0, 10, 13, 13), (0, 10, 17, 21)] 5 "java/lang/IllegalArgumentException" 17 := ⟨[(⟨0, 10, 13, 13⟩ : ExceptionTableEntry)], (⟨0, 10, 17, 21⟩ : ExceptionTableEntry), [], "java/lang/IllegalArgumentException", rfl, (fun z hz => by
    rcases List.mem_singleton.mp hz with rfl
    exact ⟨by decide, "java/lang/IndexOutOfBoundsException", kL_setSpring_13, fun _ hh => hh.1⟩), by decide, by decide, kL_setSpring_21, by decide +kernel, rfl⟩
set_option maxRecDepth 100000 in
theorem c_L_setSpring {l : Launch} {D : va_G} {A : Nat → Prop} {h : vh} {b ao : Nat} {p0 p1 : Int} {fs : List Value} {fo : Nat → Int64} {POST : Option Value → vh → Prop} {XPOST : String → vh → Prop} (hM : TX l D A yX7_setSpring wsX7_setSpring { frames := 8, cells := 460, slots := 2700, locals := 143 } [.ref b, vI p0, vI p1] h POST XPOST) (hb : h b = some (eO 7 fs)) (hP : ∀ rv h1, POST rv h1 → ∃ v, rv = some (vI v) ∧ h1 ao = some (eJ D 1 fo)) (hX : ∀ E h1, XPOST E h1 → E = "java/lang/IndexOutOfBoundsException" ∨ E = "java/lang/IllegalArgumentException") : HX l D A yL_setSpring wsL_setSpring { frames := 9, cells := 460, slots := 2700, locals := 167 } [.ref b, vI p0, vI p1, .ref ao] h (HPo D ao fo POST XPOST ["java/lang/IndexOutOfBoundsException", "java/lang/IllegalArgumentException"]) := by
  refine HX.of (cc := cL_setSpring) (maxL := 5) (ret := (some .int)) (hh := [(0, 10, 13, 13), (0, 10, 17, 21)]) [(0, .ref b), (1, vI p0), (2, vI p1), (3, .ref ao)] (by decide +kernel) rfl rfl (Nat.le_of_ble_eq_true rfl) ?_
  intro κ C hkl G ch kn
  subst hkl
  have C : CX κ "LedgeLevelsLaw" "setSpring" cL_setSpring wsL_setSpring { frames := 9, cells := 460, slots := 2700, locals := 167 } D A 5 := C
  refine x_aload_n C dL_setSpring_0 3 rfl ?_
  refine x_iconst C dL_setSpring_1 0 (by decide) ?_
  refine x_aload_n C dL_setSpring_2 0 rfl ?_
  refine x_iload_n C dL_setSpring_3 1 rfl ?_
  refine x_iload_n C dL_setSpring_4 2 rfl ?_
  refine x_callVh C (n := 2) (qc := (RX7, TX7, 7)) (As := [vI p0, vI p1]) (rest := [vI 0, .ref ao]) hM gL_setSpring_X7_setSpring (by decide +kernel) hb rfl rfl rfl rfl (Nat.le_of_ble_eq_true rfl) ⟨by decide, by decide⟩ ⟨(by decide), (by decide)⟩ dL_setSpring_5 ch kn (fun E h1 q hx => ?_) (fun rv h1 hp => ?_)
  · rcases hX E h1 hx with rfl | rfl
    · refine ⟨13, tkL_setSpring_0, ?_⟩
      refine x_astore C (ls' := [(0, .ref b), (1, vI p0), (2, vI p1), (3, .ref ao)] ++ [(4, .ref q)]) dL_setSpring_13 (by decide) rfl ?_
      refine x_iconst C dL_setSpring_15 1 (by decide) ?_
      exact x_iret C G dL_setSpring_16 (Or.inr ⟨_, 0, hx, rfl, rfl⟩) (by decide) (by decide)
    · refine ⟨17, tkL_setSpring_1, ?_⟩
      refine x_astore C (ls' := [(0, .ref b), (1, vI p0), (2, vI p1), (3, .ref ao)] ++ [(4, .ref q)]) dL_setSpring_17 (by decide) rfl ?_
      refine x_iconst C dL_setSpring_19 2 (by decide) ?_
      exact x_iret C G dL_setSpring_20 (Or.inr ⟨_, 1, hx, rfl, rfl⟩) (by decide) (by decide)
  · obtain ⟨v, rfl, ho⟩ := hP rv h1 hp
    refine x_i2l C dL_setSpring_8 ?_
    refine x_last C ho ⟨by decide, by decide⟩ (by decide) dL_setSpring_9 ?_
    refine x_goto (tgt := 21) C dL_setSpring_10 (by decide) ?_
    refine x_iconst C dL_setSpring_21 0 (by decide) ?_
    exact x_iret C G dL_setSpring_22 (Or.inl ⟨v, h1, hp, rfl, rfl⟩) (by decide) (by decide)

theorem kL_prove_13 : Cond.classLink "LedgeLevelsLaw" 13 "java/lang/IndexOutOfBoundsException" ∈ wsL_prove := by decide +kernel
theorem tkL_prove_0 : Tk "LedgeLevelsLaw" wsL_prove [(0, 9, 12, 13)] 4 "java/lang/IndexOutOfBoundsException" 12 := ⟨[], (⟨0, 9, 12, 13⟩ : ExceptionTableEntry), [], "java/lang/IndexOutOfBoundsException", rfl, (fun z hz => by cases hz), by decide, by decide, kL_prove_13, by decide +kernel, rfl⟩
set_option maxRecDepth 100000 in
theorem c_L_prove {l : Launch} {D : va_G} {A : Nat → Prop} {h : vh} {b ao : Nat} {p0 : Int} {fs : List Value} {fo : Nat → Int64} {POST : Option Value → vh → Prop} {XPOST : String → vh → Prop} (hM : TX l D A yX7_prove wsX7_prove { frames := 7, cells := 1, slots := 6, locals := 143 } [.ref b, vI p0] h POST XPOST) (hb : h b = some (eO 7 fs)) (hP : ∀ rv h1, POST rv h1 → ∃ v, rv = some (vI v) ∧ h1 ao = some (eJ D 1 fo)) (hX : ∀ E h1, XPOST E h1 → E = "java/lang/IndexOutOfBoundsException") : HX l D A yL_prove wsL_prove { frames := 8, cells := 1, slots := 6, locals := 165 } [.ref b, vI p0, .ref ao] h (HPo D ao fo POST XPOST ["java/lang/IndexOutOfBoundsException"]) := by
  refine HX.of (cc := cL_prove) (maxL := 4) (ret := (some .int)) (hh := [(0, 9, 12, 13)]) [(0, .ref b), (1, vI p0), (2, .ref ao)] (by decide +kernel) rfl rfl (Nat.le_of_ble_eq_true rfl) ?_
  intro κ C hkl G ch kn
  subst hkl
  have C : CX κ "LedgeLevelsLaw" "prove" cL_prove wsL_prove { frames := 8, cells := 1, slots := 6, locals := 165 } D A 4 := C
  refine x_aload_n C dL_prove_0 2 rfl ?_
  refine x_iconst C dL_prove_1 0 (by decide) ?_
  refine x_aload_n C dL_prove_2 0 rfl ?_
  refine x_iload_n C dL_prove_3 1 rfl ?_
  refine x_callVh C (n := 1) (qc := (RX7, TX7, 7)) (As := [vI p0]) (rest := [vI 0, .ref ao]) hM gL_prove_X7_prove (by decide +kernel) hb rfl rfl rfl rfl (Nat.le_of_ble_eq_true rfl) ⟨by decide, by decide⟩ ⟨(by decide), (by decide)⟩ dL_prove_4 ch kn (fun E h1 q hx => ?_) (fun rv h1 hp => ?_)
  · obtain rfl := hX E h1 hx
    refine ⟨12, tkL_prove_0, ?_⟩
    refine x_astore_n C (ls' := [(0, .ref b), (1, vI p0), (2, .ref ao)] ++ [(3, .ref q)]) dL_prove_12 (by decide) rfl ?_
    refine x_iconst C dL_prove_13 1 (by decide) ?_
    exact x_iret C G dL_prove_14 (Or.inr ⟨_, 0, hx, rfl, rfl⟩) (by decide) (by decide)
  · obtain ⟨v, rfl, ho⟩ := hP rv h1 hp
    refine x_i2l C dL_prove_7 ?_
    refine x_last C ho ⟨by decide, by decide⟩ (by decide) dL_prove_8 ?_
    refine x_goto (tgt := 15) C dL_prove_9 (by decide) ?_
    refine x_iconst C dL_prove_15 0 (by decide) ?_
    exact x_iret C G dL_prove_16 (Or.inl ⟨v, h1, hp, rfl, rfl⟩) (by decide) (by decide)

theorem kL_offer_13 : Cond.classLink "LedgeLevelsLaw" 13 "java/lang/IndexOutOfBoundsException" ∈ wsL_offer := by decide +kernel
theorem kL_offer_15 : Cond.classLink "LedgeLevelsLaw" 15 "java/lang/IllegalStateException" ∈ wsL_offer := by decide +kernel
theorem tkL_offer_0 : Tk "LedgeLevelsLaw" wsL_offer [(0, 9, 12, 13), (0, 9, 15, 15)] 4 "java/lang/IndexOutOfBoundsException" 12 := ⟨[], (⟨0, 9, 12, 13⟩ : ExceptionTableEntry), [(⟨0, 9, 15, 15⟩ : ExceptionTableEntry)], "java/lang/IndexOutOfBoundsException", rfl, (fun z hz => by cases hz), by decide, by decide, kL_offer_13, by decide +kernel, rfl⟩
theorem tkL_offer_1 : Tk "LedgeLevelsLaw" wsL_offer [(0, 9, 12, 13), (0, 9, 15, 15)] 4 "java/lang/IllegalStateException" 15 := ⟨[(⟨0, 9, 12, 13⟩ : ExceptionTableEntry)], (⟨0, 9, 15, 15⟩ : ExceptionTableEntry), [], "java/lang/IllegalStateException", rfl, (fun z hz => by
    rcases List.mem_singleton.mp hz with rfl
    exact ⟨by decide, "java/lang/IndexOutOfBoundsException", kL_offer_13, fun _ hh => hh.2.1⟩), by decide, by decide, kL_offer_15, by decide +kernel, rfl⟩
set_option maxRecDepth 100000 in
theorem c_L_offer {l : Launch} {D : va_G} {A : Nat → Prop} {h : vh} {b ao : Nat} {p0 : Int} {fs : List Value} {fo : Nat → Int64} {POST : Option Value → vh → Prop} {XPOST : String → vh → Prop} (hM : TX l D A yX7_offer wsX7_offer { frames := 7, cells := 6, slots := 122, locals := 112 } [.ref b, vI p0] h POST XPOST) (hb : h b = some (eO 7 fs)) (hP : ∀ rv h1, POST rv h1 → ∃ v, rv = some (vI v) ∧ h1 ao = some (eJ D 1 fo)) (hX : ∀ E h1, XPOST E h1 → E = "java/lang/IndexOutOfBoundsException" ∨ E = "java/lang/IllegalStateException") : HX l D A yL_offer wsL_offer { frames := 8, cells := 6, slots := 122, locals := 134 } [.ref b, vI p0, .ref ao] h (HPo D ao fo POST XPOST ["java/lang/IndexOutOfBoundsException", "java/lang/IllegalStateException"]) := by
  refine HX.of (cc := cL_offer) (maxL := 4) (ret := (some .int)) (hh := [(0, 9, 12, 13), (0, 9, 15, 15)]) [(0, .ref b), (1, vI p0), (2, .ref ao)] (by decide +kernel) rfl rfl (Nat.le_of_ble_eq_true rfl) ?_
  intro κ C hkl G ch kn
  subst hkl
  have C : CX κ "LedgeLevelsLaw" "offer" cL_offer wsL_offer { frames := 8, cells := 6, slots := 122, locals := 134 } D A 4 := C
  refine x_aload_n C dL_offer_0 2 rfl ?_
  refine x_iconst C dL_offer_1 0 (by decide) ?_
  refine x_aload_n C dL_offer_2 0 rfl ?_
  refine x_iload_n C dL_offer_3 1 rfl ?_
  refine x_callVh C (n := 1) (qc := (RX7, TX7, 7)) (As := [vI p0]) (rest := [vI 0, .ref ao]) hM gL_offer_X7_offer (by decide +kernel) hb rfl rfl rfl rfl (Nat.le_of_ble_eq_true rfl) ⟨by decide, by decide⟩ ⟨(by decide), (by decide)⟩ dL_offer_4 ch kn (fun E h1 q hx => ?_) (fun rv h1 hp => ?_)
  · rcases hX E h1 hx with rfl | rfl
    · refine ⟨12, tkL_offer_0, ?_⟩
      refine x_astore_n C (ls' := [(0, .ref b), (1, vI p0), (2, .ref ao)] ++ [(3, .ref q)]) dL_offer_12 (by decide) rfl ?_
      refine x_iconst C dL_offer_13 1 (by decide) ?_
      exact x_iret C G dL_offer_14 (Or.inr ⟨_, 0, hx, rfl, rfl⟩) (by decide) (by decide)
    · refine ⟨15, tkL_offer_1, ?_⟩
      refine x_astore_n C (ls' := [(0, .ref b), (1, vI p0), (2, .ref ao)] ++ [(3, .ref q)]) dL_offer_15 (by decide) rfl ?_
      refine x_iconst C dL_offer_16 2 (by decide) ?_
      exact x_iret C G dL_offer_17 (Or.inr ⟨_, 1, hx, rfl, rfl⟩) (by decide) (by decide)
  · obtain ⟨v, rfl, ho⟩ := hP rv h1 hp
    refine x_i2l C dL_offer_7 ?_
    refine x_last C ho ⟨by decide, by decide⟩ (by decide) dL_offer_8 ?_
    refine x_goto (tgt := 18) C dL_offer_9 (by decide) ?_
    refine x_iconst C dL_offer_18 0 (by decide) ?_
    exact x_iret C G dL_offer_19 (Or.inl ⟨v, h1, hp, rfl, rfl⟩) (by decide) (by decide)

theorem kL_copy_13 : Cond.classLink "LedgeLevelsLaw" 13 "java/lang/IndexOutOfBoundsException" ∈ wsL_copy := by decide +kernel
theorem kL_copy_15 : Cond.classLink "LedgeLevelsLaw" 15 "java/lang/IllegalStateException" ∈ wsL_copy := by decide +kernel
theorem tkL_copy_0 : Tk "LedgeLevelsLaw" wsL_copy [(0, 10, 13, 13), (0, 10, 17, 15)] 5 "java/lang/IndexOutOfBoundsException" 13 := ⟨[], (⟨0, 10, 13, 13⟩ : ExceptionTableEntry), [(⟨0, 10, 17, 15⟩ : ExceptionTableEntry)], "java/lang/IndexOutOfBoundsException", rfl, (fun z hz => by cases hz), by decide, by decide, kL_copy_13, by decide +kernel, rfl⟩
theorem tkL_copy_1 : Tk "LedgeLevelsLaw" wsL_copy [(0, 10, 13, 13), (0, 10, 17, 15)] 5 "java/lang/IllegalStateException" 17 := ⟨[(⟨0, 10, 13, 13⟩ : ExceptionTableEntry)], (⟨0, 10, 17, 15⟩ : ExceptionTableEntry), [], "java/lang/IllegalStateException", rfl, (fun z hz => by
    rcases List.mem_singleton.mp hz with rfl
    exact ⟨by decide, "java/lang/IndexOutOfBoundsException", kL_copy_13, fun _ hh => hh.2.1⟩), by decide, by decide, kL_copy_15, by decide +kernel, rfl⟩
set_option maxRecDepth 100000 in
theorem c_L_copy {l : Launch} {D : va_G} {A : Nat → Prop} {h : vh} {b ao : Nat} {p0 p1 : Int} {fs : List Value} {fo : Nat → Int64} {POST : Option Value → vh → Prop} {XPOST : String → vh → Prop} (hM : TX l D A yX7_copy wsX7_copy { frames := 7, cells := 11, slots := 251, locals := 113 } [.ref b, vI p0, vI p1] h POST XPOST) (hb : h b = some (eO 7 fs)) (hP : ∀ rv h1, POST rv h1 → ∃ v, rv = some (vI v) ∧ h1 ao = some (eJ D 1 fo)) (hX : ∀ E h1, XPOST E h1 → E = "java/lang/IndexOutOfBoundsException" ∨ E = "java/lang/IllegalStateException") : HX l D A yL_copy wsL_copy { frames := 8, cells := 11, slots := 251, locals := 137 } [.ref b, vI p0, vI p1, .ref ao] h (HPo D ao fo POST XPOST ["java/lang/IndexOutOfBoundsException", "java/lang/IllegalStateException"]) := by
  refine HX.of (cc := cL_copy) (maxL := 5) (ret := (some .int)) (hh := [(0, 10, 13, 13), (0, 10, 17, 15)]) [(0, .ref b), (1, vI p0), (2, vI p1), (3, .ref ao)] (by decide +kernel) rfl rfl (Nat.le_of_ble_eq_true rfl) ?_
  intro κ C hkl G ch kn
  subst hkl
  have C : CX κ "LedgeLevelsLaw" "copy" cL_copy wsL_copy { frames := 8, cells := 11, slots := 251, locals := 137 } D A 5 := C
  refine x_aload_n C dL_copy_0 3 rfl ?_
  refine x_iconst C dL_copy_1 0 (by decide) ?_
  refine x_aload_n C dL_copy_2 0 rfl ?_
  refine x_iload_n C dL_copy_3 1 rfl ?_
  refine x_iload_n C dL_copy_4 2 rfl ?_
  refine x_callVh C (n := 2) (qc := (RX7, TX7, 7)) (As := [vI p0, vI p1]) (rest := [vI 0, .ref ao]) hM gL_copy_X7_copy (by decide +kernel) hb rfl rfl rfl rfl (Nat.le_of_ble_eq_true rfl) ⟨by decide, by decide⟩ ⟨(by decide), (by decide)⟩ dL_copy_5 ch kn (fun E h1 q hx => ?_) (fun rv h1 hp => ?_)
  · rcases hX E h1 hx with rfl | rfl
    · refine ⟨13, tkL_copy_0, ?_⟩
      refine x_astore C (ls' := [(0, .ref b), (1, vI p0), (2, vI p1), (3, .ref ao)] ++ [(4, .ref q)]) dL_copy_13 (by decide) rfl ?_
      refine x_iconst C dL_copy_15 1 (by decide) ?_
      exact x_iret C G dL_copy_16 (Or.inr ⟨_, 0, hx, rfl, rfl⟩) (by decide) (by decide)
    · refine ⟨17, tkL_copy_1, ?_⟩
      refine x_astore C (ls' := [(0, .ref b), (1, vI p0), (2, vI p1), (3, .ref ao)] ++ [(4, .ref q)]) dL_copy_17 (by decide) rfl ?_
      refine x_iconst C dL_copy_19 2 (by decide) ?_
      exact x_iret C G dL_copy_20 (Or.inr ⟨_, 1, hx, rfl, rfl⟩) (by decide) (by decide)
  · obtain ⟨v, rfl, ho⟩ := hP rv h1 hp
    refine x_i2l C dL_copy_8 ?_
    refine x_last C ho ⟨by decide, by decide⟩ (by decide) dL_copy_9 ?_
    refine x_goto (tgt := 21) C dL_copy_10 (by decide) ?_
    refine x_iconst C dL_copy_21 0 (by decide) ?_
    exact x_iret C G dL_copy_22 (Or.inl ⟨v, h1, hp, rfl, rfl⟩) (by decide) (by decide)

theorem kL_star_13 : Cond.classLink "LedgeLevelsLaw" 13 "java/lang/IndexOutOfBoundsException" ∈ wsL_star := by decide +kernel
theorem kL_star_21 : Cond.classLink "LedgeLevelsLaw" 21 "java/lang/IllegalArgumentException" ∈ wsL_star := by decide +kernel
theorem kL_star_15 : Cond.classLink "LedgeLevelsLaw" 15 "java/lang/IllegalStateException" ∈ wsL_star := by decide +kernel
theorem tkL_star_0 : Tk "LedgeLevelsLaw" wsL_star [(0, 12, 15, 13), (0, 12, 19, 21), (0, 12, 23, 15)] 7 "java/lang/IndexOutOfBoundsException" 15 := ⟨[], (⟨0, 12, 15, 13⟩ : ExceptionTableEntry), [(⟨0, 12, 19, 21⟩ : ExceptionTableEntry), (⟨0, 12, 23, 15⟩ : ExceptionTableEntry)], "java/lang/IndexOutOfBoundsException", rfl, (fun z hz => by cases hz), by decide, by decide, kL_star_13, by decide +kernel, rfl⟩
theorem tkL_star_1 : Tk "LedgeLevelsLaw" wsL_star [(0, 12, 15, 13), (0, 12, 19, 21), (0, 12, 23, 15)] 7 "java/lang/IllegalArgumentException" 19 := ⟨[(⟨0, 12, 15, 13⟩ : ExceptionTableEntry)], (⟨0, 12, 19, 21⟩ : ExceptionTableEntry), [(⟨0, 12, 23, 15⟩ : ExceptionTableEntry)], "java/lang/IllegalArgumentException", rfl, (fun z hz => by
    rcases List.mem_singleton.mp hz with rfl
    exact ⟨by decide, "java/lang/IndexOutOfBoundsException", kL_star_13, fun _ hh => hh.1⟩), by decide, by decide, kL_star_21, by decide +kernel, rfl⟩
theorem tkL_star_2 : Tk "LedgeLevelsLaw" wsL_star [(0, 12, 15, 13), (0, 12, 19, 21), (0, 12, 23, 15)] 7 "java/lang/IllegalStateException" 23 := ⟨[(⟨0, 12, 15, 13⟩ : ExceptionTableEntry), (⟨0, 12, 19, 21⟩ : ExceptionTableEntry)], (⟨0, 12, 23, 15⟩ : ExceptionTableEntry), [], "java/lang/IllegalStateException", rfl, (fun z hz => by
    rcases (List.mem_cons.mp hz).imp id List.mem_singleton.mp with rfl | rfl
    · exact ⟨by decide, "java/lang/IndexOutOfBoundsException", kL_star_13, fun _ hh => hh.2.1⟩
    · exact ⟨by decide, "java/lang/IllegalArgumentException", kL_star_21, fun _ hh => hh.2.2⟩), by decide, by decide, kL_star_15, by decide +kernel, rfl⟩
set_option maxRecDepth 100000 in
theorem c_L_star {l : Launch} {D : va_G} {A : Nat → Prop} {h : vh} {b ao : Nat} {p0 p1 p2 : Int} {fs : List Value} {fo : Nat → Int64} {POST : Option Value → vh → Prop} {XPOST : String → vh → Prop} (hM : TX l D A yX7_star wsX7_star { frames := 7, cells := 4, slots := 24, locals := 112 } [.ref b, vI p0, vI p1, vI p2] h POST XPOST) (hb : h b = some (eO 7 fs)) (hP : ∀ rv h1, POST rv h1 → ∃ v, rv = some (vI v) ∧ h1 ao = some (eJ D 1 fo)) (hX : ∀ E h1, XPOST E h1 → E = "java/lang/IndexOutOfBoundsException" ∨ E = "java/lang/IllegalArgumentException" ∨ E = "java/lang/IllegalStateException") : HX l D A yL_star wsL_star { frames := 8, cells := 4, slots := 24, locals := 137 } [.ref b, vI p0, vI p1, vI p2, .ref ao] h (HPo D ao fo POST XPOST ["java/lang/IndexOutOfBoundsException", "java/lang/IllegalArgumentException", "java/lang/IllegalStateException"]) := by
  refine HX.of (cc := cL_star) (maxL := 6) (ret := (some .int)) (hh := [(0, 12, 15, 13), (0, 12, 19, 21), (0, 12, 23, 15)]) [(0, .ref b), (1, vI p0), (2, vI p1), (3, vI p2), (4, .ref ao)] (by decide +kernel) rfl rfl (Nat.le_of_ble_eq_true rfl) ?_
  intro κ C hkl G ch kn
  subst hkl
  have C : CX κ "LedgeLevelsLaw" "star" cL_star wsL_star { frames := 8, cells := 4, slots := 24, locals := 137 } D A 6 := C
  refine x_aload C dL_star_0 4 rfl ?_
  refine x_iconst C dL_star_2 0 (by decide) ?_
  refine x_aload_n C dL_star_3 0 rfl ?_
  refine x_iload_n C dL_star_4 1 rfl ?_
  refine x_iload_n C dL_star_5 2 rfl ?_
  refine x_iload_n C dL_star_6 3 rfl ?_
  refine x_callVh C (n := 3) (qc := (RX7, TX7, 7)) (As := [vI p0, vI p1, vI p2]) (rest := [vI 0, .ref ao]) hM gL_star_X7_star (by decide +kernel) hb rfl rfl rfl rfl (Nat.le_of_ble_eq_true rfl) ⟨by decide, by decide⟩ ⟨(by decide), (by decide)⟩ dL_star_7 ch kn (fun E h1 q hx => ?_) (fun rv h1 hp => ?_)
  · rcases hX E h1 hx with rfl | rfl | rfl
    · refine ⟨15, tkL_star_0, ?_⟩
      refine x_astore C (ls' := [(0, .ref b), (1, vI p0), (2, vI p1), (3, vI p2), (4, .ref ao)] ++ [(5, .ref q)]) dL_star_15 (by decide) rfl ?_
      refine x_iconst C dL_star_17 1 (by decide) ?_
      exact x_iret C G dL_star_18 (Or.inr ⟨_, 0, hx, rfl, rfl⟩) (by decide) (by decide)
    · refine ⟨19, tkL_star_1, ?_⟩
      refine x_astore C (ls' := [(0, .ref b), (1, vI p0), (2, vI p1), (3, vI p2), (4, .ref ao)] ++ [(5, .ref q)]) dL_star_19 (by decide) rfl ?_
      refine x_iconst C dL_star_21 2 (by decide) ?_
      exact x_iret C G dL_star_22 (Or.inr ⟨_, 1, hx, rfl, rfl⟩) (by decide) (by decide)
    · refine ⟨23, tkL_star_2, ?_⟩
      refine x_astore C (ls' := [(0, .ref b), (1, vI p0), (2, vI p1), (3, vI p2), (4, .ref ao)] ++ [(5, .ref q)]) dL_star_23 (by decide) rfl ?_
      refine x_iconst C dL_star_25 3 (by decide) ?_
      exact x_iret C G dL_star_26 (Or.inr ⟨_, 2, hx, rfl, rfl⟩) (by decide) (by decide)
  · obtain ⟨v, rfl, ho⟩ := hP rv h1 hp
    refine x_i2l C dL_star_10 ?_
    refine x_last C ho ⟨by decide, by decide⟩ (by decide) dL_star_11 ?_
    refine x_goto (tgt := 27) C dL_star_12 (by decide) ?_
    refine x_iconst C dL_star_27 0 (by decide) ?_
    exact x_iret C G dL_star_28 (Or.inl ⟨v, h1, hp, rfl, rfl⟩) (by decide) (by decide)

theorem kL_run_13 : Cond.classLink "LedgeLevelsLaw" 13 "java/lang/IndexOutOfBoundsException" ∈ wsL_run := by decide +kernel
theorem kL_run_15 : Cond.classLink "LedgeLevelsLaw" 15 "java/lang/IllegalStateException" ∈ wsL_run := by decide +kernel
theorem tkL_run_0 : Tk "LedgeLevelsLaw" wsL_run [(0, 10, 13, 13), (0, 10, 17, 15)] 5 "java/lang/IndexOutOfBoundsException" 13 := ⟨[], (⟨0, 10, 13, 13⟩ : ExceptionTableEntry), [(⟨0, 10, 17, 15⟩ : ExceptionTableEntry)], "java/lang/IndexOutOfBoundsException", rfl, (fun z hz => by cases hz), by decide, by decide, kL_run_13, by decide +kernel, rfl⟩
theorem tkL_run_1 : Tk "LedgeLevelsLaw" wsL_run [(0, 10, 13, 13), (0, 10, 17, 15)] 5 "java/lang/IllegalStateException" 17 := ⟨[(⟨0, 10, 13, 13⟩ : ExceptionTableEntry)], (⟨0, 10, 17, 15⟩ : ExceptionTableEntry), [], "java/lang/IllegalStateException", rfl, (fun z hz => by
    rcases List.mem_singleton.mp hz with rfl
    exact ⟨by decide, "java/lang/IndexOutOfBoundsException", kL_run_13, fun _ hh => hh.2.1⟩), by decide, by decide, kL_run_15, by decide +kernel, rfl⟩
set_option maxRecDepth 100000 in
theorem c_L_run {l : Launch} {D : va_G} {A : Nat → Prop} {h : vh} {b ao : Nat} {p0 p1 : Int} {fs : List Value} {fo : Nat → Int64} {POST : Option Value → vh → Prop} {XPOST : String → vh → Prop} (hM : TX l D A yX7_run wsX7_run { frames := 7, cells := 3, slots := 18, locals := 112 } [.ref b, vI p0, vI p1] h POST XPOST) (hb : h b = some (eO 7 fs)) (hP : ∀ rv h1, POST rv h1 → ∃ v, rv = some (vI v) ∧ h1 ao = some (eJ D 1 fo)) (hX : ∀ E h1, XPOST E h1 → E = "java/lang/IndexOutOfBoundsException" ∨ E = "java/lang/IllegalStateException") : HX l D A yL_run wsL_run { frames := 8, cells := 3, slots := 18, locals := 136 } [.ref b, vI p0, vI p1, .ref ao] h (HPo D ao fo POST XPOST ["java/lang/IndexOutOfBoundsException", "java/lang/IllegalStateException"]) := by
  refine HX.of (cc := cL_run) (maxL := 5) (ret := (some .int)) (hh := [(0, 10, 13, 13), (0, 10, 17, 15)]) [(0, .ref b), (1, vI p0), (2, vI p1), (3, .ref ao)] (by decide +kernel) rfl rfl (Nat.le_of_ble_eq_true rfl) ?_
  intro κ C hkl G ch kn
  subst hkl
  have C : CX κ "LedgeLevelsLaw" "run" cL_run wsL_run { frames := 8, cells := 3, slots := 18, locals := 136 } D A 5 := C
  refine x_aload_n C dL_run_0 3 rfl ?_
  refine x_iconst C dL_run_1 0 (by decide) ?_
  refine x_aload_n C dL_run_2 0 rfl ?_
  refine x_iload_n C dL_run_3 1 rfl ?_
  refine x_iload_n C dL_run_4 2 rfl ?_
  refine x_callVh C (n := 2) (qc := (RX7, TX7, 7)) (As := [vI p0, vI p1]) (rest := [vI 0, .ref ao]) hM gL_run_X7_run (by decide +kernel) hb rfl rfl rfl rfl (Nat.le_of_ble_eq_true rfl) ⟨by decide, by decide⟩ ⟨(by decide), (by decide)⟩ dL_run_5 ch kn (fun E h1 q hx => ?_) (fun rv h1 hp => ?_)
  · rcases hX E h1 hx with rfl | rfl
    · refine ⟨13, tkL_run_0, ?_⟩
      refine x_astore C (ls' := [(0, .ref b), (1, vI p0), (2, vI p1), (3, .ref ao)] ++ [(4, .ref q)]) dL_run_13 (by decide) rfl ?_
      refine x_iconst C dL_run_15 1 (by decide) ?_
      exact x_iret C G dL_run_16 (Or.inr ⟨_, 0, hx, rfl, rfl⟩) (by decide) (by decide)
    · refine ⟨17, tkL_run_1, ?_⟩
      refine x_astore C (ls' := [(0, .ref b), (1, vI p0), (2, vI p1), (3, .ref ao)] ++ [(4, .ref q)]) dL_run_17 (by decide) rfl ?_
      refine x_iconst C dL_run_19 2 (by decide) ?_
      exact x_iret C G dL_run_20 (Or.inr ⟨_, 1, hx, rfl, rfl⟩) (by decide) (by decide)
  · obtain ⟨v, rfl, ho⟩ := hP rv h1 hp
    refine x_i2l C dL_run_8 ?_
    refine x_last C ho ⟨by decide, by decide⟩ (by decide) dL_run_9 ?_
    refine x_goto (tgt := 21) C dL_run_10 (by decide) ?_
    refine x_iconst C dL_run_21 0 (by decide) ?_
    exact x_iret C G dL_run_22 (Or.inl ⟨v, h1, hp, rfl, rfl⟩) (by decide) (by decide)

theorem kL_step_13 : Cond.classLink "LedgeLevelsLaw" 13 "java/lang/IndexOutOfBoundsException" ∈ wsL_step := by decide +kernel
theorem kL_step_21 : Cond.classLink "LedgeLevelsLaw" 21 "java/lang/IllegalArgumentException" ∈ wsL_step := by decide +kernel
theorem kL_step_15 : Cond.classLink "LedgeLevelsLaw" 15 "java/lang/IllegalStateException" ∈ wsL_step := by decide +kernel
theorem tkL_step_0 : Tk "LedgeLevelsLaw" wsL_step [(0, 10, 13, 13), (0, 10, 17, 21), (0, 10, 21, 15)] 5 "java/lang/IndexOutOfBoundsException" 13 := ⟨[], (⟨0, 10, 13, 13⟩ : ExceptionTableEntry), [(⟨0, 10, 17, 21⟩ : ExceptionTableEntry), (⟨0, 10, 21, 15⟩ : ExceptionTableEntry)], "java/lang/IndexOutOfBoundsException", rfl, (fun z hz => by cases hz), by decide, by decide, kL_step_13, by decide +kernel, rfl⟩
theorem tkL_step_1 : Tk "LedgeLevelsLaw" wsL_step [(0, 10, 13, 13), (0, 10, 17, 21), (0, 10, 21, 15)] 5 "java/lang/IllegalArgumentException" 17 := ⟨[(⟨0, 10, 13, 13⟩ : ExceptionTableEntry)], (⟨0, 10, 17, 21⟩ : ExceptionTableEntry), [(⟨0, 10, 21, 15⟩ : ExceptionTableEntry)], "java/lang/IllegalArgumentException", rfl, (fun z hz => by
    rcases List.mem_singleton.mp hz with rfl
    exact ⟨by decide, "java/lang/IndexOutOfBoundsException", kL_step_13, fun _ hh => hh.1⟩), by decide, by decide, kL_step_21, by decide +kernel, rfl⟩
theorem tkL_step_2 : Tk "LedgeLevelsLaw" wsL_step [(0, 10, 13, 13), (0, 10, 17, 21), (0, 10, 21, 15)] 5 "java/lang/IllegalStateException" 21 := ⟨[(⟨0, 10, 13, 13⟩ : ExceptionTableEntry), (⟨0, 10, 17, 21⟩ : ExceptionTableEntry)], (⟨0, 10, 21, 15⟩ : ExceptionTableEntry), [], "java/lang/IllegalStateException", rfl, (fun z hz => by
    rcases (List.mem_cons.mp hz).imp id List.mem_singleton.mp with rfl | rfl
    · exact ⟨by decide, "java/lang/IndexOutOfBoundsException", kL_step_13, fun _ hh => hh.2.1⟩
    · exact ⟨by decide, "java/lang/IllegalArgumentException", kL_step_21, fun _ hh => hh.2.2⟩), by decide, by decide, kL_step_15, by decide +kernel, rfl⟩
set_option maxRecDepth 100000 in
theorem c_L_step {l : Launch} {D : va_G} {A : Nat → Prop} {h : vh} {b ao : Nat} {p0 p1 : Int} {fs : List Value} {fo : Nat → Int64} {POST : Option Value → vh → Prop} {XPOST : String → vh → Prop} (hM : TX l D A yX7_step wsX7_step { frames := 7, cells := 2, slots := 12, locals := 112 } [.ref b, vI p0, vI p1] h POST XPOST) (hb : h b = some (eO 7 fs)) (hP : ∀ rv h1, POST rv h1 → ∃ v, rv = some (vI v) ∧ h1 ao = some (eJ D 1 fo)) (hX : ∀ E h1, XPOST E h1 → E = "java/lang/IndexOutOfBoundsException" ∨ E = "java/lang/IllegalArgumentException" ∨ E = "java/lang/IllegalStateException") : HX l D A yL_step wsL_step { frames := 8, cells := 2, slots := 12, locals := 135 } [.ref b, vI p0, vI p1, .ref ao] h (HPo D ao fo POST XPOST ["java/lang/IndexOutOfBoundsException", "java/lang/IllegalArgumentException", "java/lang/IllegalStateException"]) := by
  refine HX.of (cc := cL_step) (maxL := 5) (ret := (some .int)) (hh := [(0, 10, 13, 13), (0, 10, 17, 21), (0, 10, 21, 15)]) [(0, .ref b), (1, vI p0), (2, vI p1), (3, .ref ao)] (by decide +kernel) rfl rfl (Nat.le_of_ble_eq_true rfl) ?_
  intro κ C hkl G ch kn
  subst hkl
  have C : CX κ "LedgeLevelsLaw" "step" cL_step wsL_step { frames := 8, cells := 2, slots := 12, locals := 135 } D A 5 := C
  refine x_aload_n C dL_step_0 3 rfl ?_
  refine x_iconst C dL_step_1 0 (by decide) ?_
  refine x_aload_n C dL_step_2 0 rfl ?_
  refine x_iload_n C dL_step_3 1 rfl ?_
  refine x_iload_n C dL_step_4 2 rfl ?_
  refine x_callVh C (n := 2) (qc := (RX7, TX7, 7)) (As := [vI p0, vI p1]) (rest := [vI 0, .ref ao]) hM gL_step_X7_step (by decide +kernel) hb rfl rfl rfl rfl (Nat.le_of_ble_eq_true rfl) ⟨by decide, by decide⟩ ⟨(by decide), (by decide)⟩ dL_step_5 ch kn (fun E h1 q hx => ?_) (fun rv h1 hp => ?_)
  · rcases hX E h1 hx with rfl | rfl | rfl
    · refine ⟨13, tkL_step_0, ?_⟩
      refine x_astore C (ls' := [(0, .ref b), (1, vI p0), (2, vI p1), (3, .ref ao)] ++ [(4, .ref q)]) dL_step_13 (by decide) rfl ?_
      refine x_iconst C dL_step_15 1 (by decide) ?_
      exact x_iret C G dL_step_16 (Or.inr ⟨_, 0, hx, rfl, rfl⟩) (by decide) (by decide)
    · refine ⟨17, tkL_step_1, ?_⟩
      refine x_astore C (ls' := [(0, .ref b), (1, vI p0), (2, vI p1), (3, .ref ao)] ++ [(4, .ref q)]) dL_step_17 (by decide) rfl ?_
      refine x_iconst C dL_step_19 2 (by decide) ?_
      exact x_iret C G dL_step_20 (Or.inr ⟨_, 1, hx, rfl, rfl⟩) (by decide) (by decide)
    · refine ⟨21, tkL_step_2, ?_⟩
      refine x_astore C (ls' := [(0, .ref b), (1, vI p0), (2, vI p1), (3, .ref ao)] ++ [(4, .ref q)]) dL_step_21 (by decide) rfl ?_
      refine x_iconst C dL_step_23 3 (by decide) ?_
      exact x_iret C G dL_step_24 (Or.inr ⟨_, 2, hx, rfl, rfl⟩) (by decide) (by decide)
  · obtain ⟨v, rfl, ho⟩ := hP rv h1 hp
    refine x_i2l C dL_step_8 ?_
    refine x_last C ho ⟨by decide, by decide⟩ (by decide) dL_step_9 ?_
    refine x_goto (tgt := 25) C dL_step_10 (by decide) ?_
    refine x_iconst C dL_step_25 0 (by decide) ?_
    exact x_iret C G dL_step_26 (Or.inl ⟨v, h1, hp, rfl, rfl⟩) (by decide) (by decide)

theorem kL_at_13 : Cond.classLink "LedgeLevelsLaw" 13 "java/lang/IndexOutOfBoundsException" ∈ wsL_at := by decide +kernel
theorem tkL_at_0 : Tk "LedgeLevelsLaw" wsL_at [(0, 10, 13, 13)] 5 "java/lang/IndexOutOfBoundsException" 13 := ⟨[], (⟨0, 10, 13, 13⟩ : ExceptionTableEntry), [], "java/lang/IndexOutOfBoundsException", rfl, (fun z hz => by cases hz), by decide, by decide, kL_at_13, by decide +kernel, rfl⟩
set_option maxRecDepth 100000 in
theorem c_L_at {l : Launch} {D : va_G} {A : Nat → Prop} {h : vh} {b ao : Nat} {p0 p1 : Int} {fs : List Value} {fo : Nat → Int64} {POST : Option Value → vh → Prop} {XPOST : String → vh → Prop} (hM : TX l D A yX7_at wsX7_at { frames := 7, cells := 2, slots := 12, locals := 112 } [.ref b, vI p0, vI p1] h POST XPOST) (hb : h b = some (eO 7 fs)) (hP : ∀ rv h1, POST rv h1 → ∃ v, rv = some (vI v) ∧ h1 ao = some (eJ D 1 fo)) (hX : ∀ E h1, XPOST E h1 → E = "java/lang/IndexOutOfBoundsException") : HX l D A yL_at wsL_at { frames := 8, cells := 2, slots := 12, locals := 135 } [.ref b, vI p0, vI p1, .ref ao] h (HPo D ao fo POST XPOST ["java/lang/IndexOutOfBoundsException"]) := by
  refine HX.of (cc := cL_at) (maxL := 5) (ret := (some .int)) (hh := [(0, 10, 13, 13)]) [(0, .ref b), (1, vI p0), (2, vI p1), (3, .ref ao)] (by decide +kernel) rfl rfl (Nat.le_of_ble_eq_true rfl) ?_
  intro κ C hkl G ch kn
  subst hkl
  have C : CX κ "LedgeLevelsLaw" "at" cL_at wsL_at { frames := 8, cells := 2, slots := 12, locals := 135 } D A 5 := C
  refine x_aload_n C dL_at_0 3 rfl ?_
  refine x_iconst C dL_at_1 0 (by decide) ?_
  refine x_aload_n C dL_at_2 0 rfl ?_
  refine x_iload_n C dL_at_3 1 rfl ?_
  refine x_iload_n C dL_at_4 2 rfl ?_
  refine x_callVh C (n := 2) (qc := (RX7, TX7, 7)) (As := [vI p0, vI p1]) (rest := [vI 0, .ref ao]) hM gL_at_X7_at (by decide +kernel) hb rfl rfl rfl rfl (Nat.le_of_ble_eq_true rfl) ⟨by decide, by decide⟩ ⟨(by decide), (by decide)⟩ dL_at_5 ch kn (fun E h1 q hx => ?_) (fun rv h1 hp => ?_)
  · obtain rfl := hX E h1 hx
    refine ⟨13, tkL_at_0, ?_⟩
    refine x_astore C (ls' := [(0, .ref b), (1, vI p0), (2, vI p1), (3, .ref ao)] ++ [(4, .ref q)]) dL_at_13 (by decide) rfl ?_
    refine x_iconst C dL_at_15 1 (by decide) ?_
    exact x_iret C G dL_at_16 (Or.inr ⟨_, 0, hx, rfl, rfl⟩) (by decide) (by decide)
  · obtain ⟨v, rfl, ho⟩ := hP rv h1 hp
    refine x_i2l C dL_at_8 ?_
    refine x_last C ho ⟨by decide, by decide⟩ (by decide) dL_at_9 ?_
    refine x_goto (tgt := 17) C dL_at_10 (by decide) ?_
    refine x_iconst C dL_at_17 0 (by decide) ?_
    exact x_iret C G dL_at_18 (Or.inl ⟨v, h1, hp, rfl, rfl⟩) (by decide) (by decide)

theorem kL_start_13 : Cond.classLink "LedgeLevelsLaw" 13 "java/lang/IndexOutOfBoundsException" ∈ wsL_start := by decide +kernel
theorem tkL_start_0 : Tk "LedgeLevelsLaw" wsL_start [(0, 9, 12, 13)] 4 "java/lang/IndexOutOfBoundsException" 12 := ⟨[], (⟨0, 9, 12, 13⟩ : ExceptionTableEntry), [], "java/lang/IndexOutOfBoundsException", rfl, (fun z hz => by cases hz), by decide, by decide, kL_start_13, by decide +kernel, rfl⟩
set_option maxRecDepth 100000 in
theorem c_L_start {l : Launch} {D : va_G} {A : Nat → Prop} {h : vh} {b ao : Nat} {p0 : Int} {fs : List Value} {fo : Nat → Int64} {POST : Option Value → vh → Prop} {XPOST : String → vh → Prop} (hM : TX l D A yX7_start wsX7_start { frames := 7, cells := 1, slots := 6, locals := 112 } [.ref b, vI p0] h POST XPOST) (hb : h b = some (eO 7 fs)) (hP : ∀ rv h1, POST rv h1 → ∃ v, rv = some (vI v) ∧ h1 ao = some (eJ D 1 fo)) (hX : ∀ E h1, XPOST E h1 → E = "java/lang/IndexOutOfBoundsException") : HX l D A yL_start wsL_start { frames := 8, cells := 1, slots := 6, locals := 133 } [.ref b, vI p0, .ref ao] h (HPo D ao fo POST XPOST ["java/lang/IndexOutOfBoundsException"]) := by
  refine HX.of (cc := cL_start) (maxL := 4) (ret := (some .int)) (hh := [(0, 9, 12, 13)]) [(0, .ref b), (1, vI p0), (2, .ref ao)] (by decide +kernel) rfl rfl (Nat.le_of_ble_eq_true rfl) ?_
  intro κ C hkl G ch kn
  subst hkl
  have C : CX κ "LedgeLevelsLaw" "start" cL_start wsL_start { frames := 8, cells := 1, slots := 6, locals := 133 } D A 4 := C
  refine x_aload_n C dL_start_0 2 rfl ?_
  refine x_iconst C dL_start_1 0 (by decide) ?_
  refine x_aload_n C dL_start_2 0 rfl ?_
  refine x_iload_n C dL_start_3 1 rfl ?_
  refine x_callVh C (n := 1) (qc := (RX7, TX7, 7)) (As := [vI p0]) (rest := [vI 0, .ref ao]) hM gL_start_X7_start (by decide +kernel) hb rfl rfl rfl rfl (Nat.le_of_ble_eq_true rfl) ⟨by decide, by decide⟩ ⟨(by decide), (by decide)⟩ dL_start_4 ch kn (fun E h1 q hx => ?_) (fun rv h1 hp => ?_)
  · obtain rfl := hX E h1 hx
    refine ⟨12, tkL_start_0, ?_⟩
    refine x_astore_n C (ls' := [(0, .ref b), (1, vI p0), (2, .ref ao)] ++ [(3, .ref q)]) dL_start_12 (by decide) rfl ?_
    refine x_iconst C dL_start_13 1 (by decide) ?_
    exact x_iret C G dL_start_14 (Or.inr ⟨_, 0, hx, rfl, rfl⟩) (by decide) (by decide)
  · obtain ⟨v, rfl, ho⟩ := hP rv h1 hp
    refine x_i2l C dL_start_7 ?_
    refine x_last C ho ⟨by decide, by decide⟩ (by decide) dL_start_8 ?_
    refine x_goto (tgt := 15) C dL_start_9 (by decide) ?_
    refine x_iconst C dL_start_15 0 (by decide) ?_
    exact x_iret C G dL_start_16 (Or.inl ⟨v, h1, hp, rfl, rfl⟩) (by decide) (by decide)

theorem kL_edits_13 : Cond.classLink "LedgeLevelsLaw" 13 "java/lang/IndexOutOfBoundsException" ∈ wsL_edits := by decide +kernel
theorem tkL_edits_0 : Tk "LedgeLevelsLaw" wsL_edits [(0, 10, 13, 13)] 5 "java/lang/IndexOutOfBoundsException" 13 := ⟨[], (⟨0, 10, 13, 13⟩ : ExceptionTableEntry), [], "java/lang/IndexOutOfBoundsException", rfl, (fun z hz => by cases hz), by decide, by decide, kL_edits_13, by decide +kernel, rfl⟩
set_option maxRecDepth 100000 in
theorem c_L_edits {l : Launch} {D : va_G} {A : Nat → Prop} {h : vh} {b ao : Nat} {p0 p1 : Int} {fs : List Value} {fo : Nat → Int64} {POST : Option Value → vh → Prop} {XPOST : String → vh → Prop} (hM : TX l D A yX7_edits wsX7_edits { frames := 7, cells := 1, slots := 6, locals := 112 } [.ref b, vI p0, vI p1] h POST XPOST) (hb : h b = some (eO 7 fs)) (hP : ∀ rv h1, POST rv h1 → ∃ v, rv = some (vI v) ∧ h1 ao = some (eJ D 1 fo)) (hX : ∀ E h1, XPOST E h1 → E = "java/lang/IndexOutOfBoundsException") : HX l D A yL_edits wsL_edits { frames := 8, cells := 1, slots := 6, locals := 135 } [.ref b, vI p0, vI p1, .ref ao] h (HPo D ao fo POST XPOST ["java/lang/IndexOutOfBoundsException"]) := by
  refine HX.of (cc := cL_edits) (maxL := 5) (ret := (some .int)) (hh := [(0, 10, 13, 13)]) [(0, .ref b), (1, vI p0), (2, vI p1), (3, .ref ao)] (by decide +kernel) rfl rfl (Nat.le_of_ble_eq_true rfl) ?_
  intro κ C hkl G ch kn
  subst hkl
  have C : CX κ "LedgeLevelsLaw" "edits" cL_edits wsL_edits { frames := 8, cells := 1, slots := 6, locals := 135 } D A 5 := C
  refine x_aload_n C dL_edits_0 3 rfl ?_
  refine x_iconst C dL_edits_1 0 (by decide) ?_
  refine x_aload_n C dL_edits_2 0 rfl ?_
  refine x_iload_n C dL_edits_3 1 rfl ?_
  refine x_iload_n C dL_edits_4 2 rfl ?_
  refine x_callVh C (n := 2) (qc := (RX7, TX7, 7)) (As := [vI p0, vI p1]) (rest := [vI 0, .ref ao]) hM gL_edits_X7_edits (by decide +kernel) hb rfl rfl rfl rfl (Nat.le_of_ble_eq_true rfl) ⟨by decide, by decide⟩ ⟨(by decide), (by decide)⟩ dL_edits_5 ch kn (fun E h1 q hx => ?_) (fun rv h1 hp => ?_)
  · obtain rfl := hX E h1 hx
    refine ⟨13, tkL_edits_0, ?_⟩
    refine x_astore C (ls' := [(0, .ref b), (1, vI p0), (2, vI p1), (3, .ref ao)] ++ [(4, .ref q)]) dL_edits_13 (by decide) rfl ?_
    refine x_iconst C dL_edits_15 1 (by decide) ?_
    exact x_iret C G dL_edits_16 (Or.inr ⟨_, 0, hx, rfl, rfl⟩) (by decide) (by decide)
  · obtain ⟨v, rfl, ho⟩ := hP rv h1 hp
    refine x_i2l C dL_edits_8 ?_
    refine x_last C ho ⟨by decide, by decide⟩ (by decide) dL_edits_9 ?_
    refine x_goto (tgt := 17) C dL_edits_10 (by decide) ?_
    refine x_iconst C dL_edits_17 0 (by decide) ?_
    exact x_iret C G dL_edits_18 (Or.inl ⟨v, h1, hp, rfl, rfl⟩) (by decide) (by decide)

theorem kL_proof_13 : Cond.classLink "LedgeLevelsLaw" 13 "java/lang/IndexOutOfBoundsException" ∈ wsL_proof := by decide +kernel
theorem tkL_proof_0 : Tk "LedgeLevelsLaw" wsL_proof [(0, 9, 12, 13)] 4 "java/lang/IndexOutOfBoundsException" 12 := ⟨[], (⟨0, 9, 12, 13⟩ : ExceptionTableEntry), [], "java/lang/IndexOutOfBoundsException", rfl, (fun z hz => by cases hz), by decide, by decide, kL_proof_13, by decide +kernel, rfl⟩
set_option maxRecDepth 100000 in
theorem c_L_proof {l : Launch} {D : va_G} {A : Nat → Prop} {h : vh} {b ao : Nat} {p0 : Int} {fs : List Value} {fo : Nat → Int64} {POST : Option Value → vh → Prop} {XPOST : String → vh → Prop} (hM : TX l D A yX7_proof wsX7_proof { frames := 7, cells := 1, slots := 6, locals := 112 } [.ref b, vI p0] h POST XPOST) (hb : h b = some (eO 7 fs)) (hP : ∀ rv h1, POST rv h1 → ∃ v, rv = some (vI v) ∧ h1 ao = some (eJ D 1 fo)) (hX : ∀ E h1, XPOST E h1 → E = "java/lang/IndexOutOfBoundsException") : HX l D A yL_proof wsL_proof { frames := 8, cells := 1, slots := 6, locals := 133 } [.ref b, vI p0, .ref ao] h (HPo D ao fo POST XPOST ["java/lang/IndexOutOfBoundsException"]) := by
  refine HX.of (cc := cL_proof) (maxL := 4) (ret := (some .int)) (hh := [(0, 9, 12, 13)]) [(0, .ref b), (1, vI p0), (2, .ref ao)] (by decide +kernel) rfl rfl (Nat.le_of_ble_eq_true rfl) ?_
  intro κ C hkl G ch kn
  subst hkl
  have C : CX κ "LedgeLevelsLaw" "proof" cL_proof wsL_proof { frames := 8, cells := 1, slots := 6, locals := 133 } D A 4 := C
  refine x_aload_n C dL_proof_0 2 rfl ?_
  refine x_iconst C dL_proof_1 0 (by decide) ?_
  refine x_aload_n C dL_proof_2 0 rfl ?_
  refine x_iload_n C dL_proof_3 1 rfl ?_
  refine x_callVh C (n := 1) (qc := (RX7, TX7, 7)) (As := [vI p0]) (rest := [vI 0, .ref ao]) hM gL_proof_X7_proof (by decide +kernel) hb rfl rfl rfl rfl (Nat.le_of_ble_eq_true rfl) ⟨by decide, by decide⟩ ⟨(by decide), (by decide)⟩ dL_proof_4 ch kn (fun E h1 q hx => ?_) (fun rv h1 hp => ?_)
  · obtain rfl := hX E h1 hx
    refine ⟨12, tkL_proof_0, ?_⟩
    refine x_astore_n C (ls' := [(0, .ref b), (1, vI p0), (2, .ref ao)] ++ [(3, .ref q)]) dL_proof_12 (by decide) rfl ?_
    refine x_iconst C dL_proof_13 1 (by decide) ?_
    exact x_iret C G dL_proof_14 (Or.inr ⟨_, 0, hx, rfl, rfl⟩) (by decide) (by decide)
  · obtain ⟨v, rfl, ho⟩ := hP rv h1 hp
    refine x_i2l C dL_proof_7 ?_
    refine x_last C ho ⟨by decide, by decide⟩ (by decide) dL_proof_8 ?_
    refine x_goto (tgt := 15) C dL_proof_9 (by decide) ?_
    refine x_iconst C dL_proof_15 0 (by decide) ?_
    exact x_iret C G dL_proof_16 (Or.inl ⟨v, h1, hp, rfl, rfl⟩) (by decide) (by decide)

theorem kL_shortest_13 : Cond.classLink "LedgeLevelsLaw" 13 "java/lang/IndexOutOfBoundsException" ∈ wsL_shortest := by decide +kernel
theorem kL_shortest_21 : Cond.classLink "LedgeLevelsLaw" 21 "java/lang/IllegalArgumentException" ∈ wsL_shortest := by decide +kernel
theorem tkL_shortest_0 : Tk "LedgeLevelsLaw" wsL_shortest [(0, 10, 13, 13), (0, 10, 17, 21)] 5 "java/lang/IndexOutOfBoundsException" 13 := ⟨[], (⟨0, 10, 13, 13⟩ : ExceptionTableEntry), [(⟨0, 10, 17, 21⟩ : ExceptionTableEntry)], "java/lang/IndexOutOfBoundsException", rfl, (fun z hz => by cases hz), by decide, by decide, kL_shortest_13, by decide +kernel, rfl⟩
theorem tkL_shortest_1 : Tk "LedgeLevelsLaw" wsL_shortest [(0, 10, 13, 13), (0, 10, 17, 21)] 5 "java/lang/IllegalArgumentException" 17 := ⟨[(⟨0, 10, 13, 13⟩ : ExceptionTableEntry)], (⟨0, 10, 17, 21⟩ : ExceptionTableEntry), [], "java/lang/IllegalArgumentException", rfl, (fun z hz => by
    rcases List.mem_singleton.mp hz with rfl
    exact ⟨by decide, "java/lang/IndexOutOfBoundsException", kL_shortest_13, fun _ hh => hh.1⟩), by decide, by decide, kL_shortest_21, by decide +kernel, rfl⟩
set_option maxRecDepth 100000 in
theorem c_L_shortest {l : Launch} {D : va_G} {A : Nat → Prop} {h : vh} {b ao : Nat} {p0 p1 : Int} {fs : List Value} {fo : Nat → Int64} {POST : Option Value → vh → Prop} {XPOST : String → vh → Prop} (hM : TX l D A yX7_shortest wsX7_shortest { frames := 7, cells := 2, slots := 12, locals := 142 } [.ref b, vI p0, vI p1] h POST XPOST) (hb : h b = some (eO 7 fs)) (hP : ∀ rv h1, POST rv h1 → ∃ v, rv = some (vI v) ∧ h1 ao = some (eJ D 1 fo)) (hX : ∀ E h1, XPOST E h1 → E = "java/lang/IndexOutOfBoundsException" ∨ E = "java/lang/IllegalArgumentException") : HX l D A yL_shortest wsL_shortest { frames := 8, cells := 2, slots := 12, locals := 165 } [.ref b, vI p0, vI p1, .ref ao] h (HPo D ao fo POST XPOST ["java/lang/IndexOutOfBoundsException", "java/lang/IllegalArgumentException"]) := by
  refine HX.of (cc := cL_shortest) (maxL := 5) (ret := (some .int)) (hh := [(0, 10, 13, 13), (0, 10, 17, 21)]) [(0, .ref b), (1, vI p0), (2, vI p1), (3, .ref ao)] (by decide +kernel) rfl rfl (Nat.le_of_ble_eq_true rfl) ?_
  intro κ C hkl G ch kn
  subst hkl
  have C : CX κ "LedgeLevelsLaw" "shortest" cL_shortest wsL_shortest { frames := 8, cells := 2, slots := 12, locals := 165 } D A 5 := C
  refine x_aload_n C dL_shortest_0 3 rfl ?_
  refine x_iconst C dL_shortest_1 0 (by decide) ?_
  refine x_aload_n C dL_shortest_2 0 rfl ?_
  refine x_iload_n C dL_shortest_3 1 rfl ?_
  refine x_iload_n C dL_shortest_4 2 rfl ?_
  refine x_callVh C (n := 2) (qc := (RX7, TX7, 7)) (As := [vI p0, vI p1]) (rest := [vI 0, .ref ao]) hM gL_shortest_X7_shortest (by decide +kernel) hb rfl rfl rfl rfl (Nat.le_of_ble_eq_true rfl) ⟨by decide, by decide⟩ ⟨(by decide), (by decide)⟩ dL_shortest_5 ch kn (fun E h1 q hx => ?_) (fun rv h1 hp => ?_)
  · rcases hX E h1 hx with rfl | rfl
    · refine ⟨13, tkL_shortest_0, ?_⟩
      refine x_astore C (ls' := [(0, .ref b), (1, vI p0), (2, vI p1), (3, .ref ao)] ++ [(4, .ref q)]) dL_shortest_13 (by decide) rfl ?_
      refine x_iconst C dL_shortest_15 1 (by decide) ?_
      exact x_iret C G dL_shortest_16 (Or.inr ⟨_, 0, hx, rfl, rfl⟩) (by decide) (by decide)
    · refine ⟨17, tkL_shortest_1, ?_⟩
      refine x_astore C (ls' := [(0, .ref b), (1, vI p0), (2, vI p1), (3, .ref ao)] ++ [(4, .ref q)]) dL_shortest_17 (by decide) rfl ?_
      refine x_iconst C dL_shortest_19 2 (by decide) ?_
      exact x_iret C G dL_shortest_20 (Or.inr ⟨_, 1, hx, rfl, rfl⟩) (by decide) (by decide)
  · obtain ⟨v, rfl, ho⟩ := hP rv h1 hp
    refine x_i2l C dL_shortest_8 ?_
    refine x_last C ho ⟨by decide, by decide⟩ (by decide) dL_shortest_9 ?_
    refine x_goto (tgt := 21) C dL_shortest_10 (by decide) ?_
    refine x_iconst C dL_shortest_21 0 (by decide) ?_
    exact x_iret C G dL_shortest_22 (Or.inl ⟨v, h1, hp, rfl, rfl⟩) (by decide) (by decide)

theorem kL_reach_13 : Cond.classLink "LedgeLevelsLaw" 13 "java/lang/IndexOutOfBoundsException" ∈ wsL_reach := by decide +kernel
theorem tkL_reach_0 : Tk "LedgeLevelsLaw" wsL_reach [(0, 9, 12, 13)] 4 "java/lang/IndexOutOfBoundsException" 12 := ⟨[], (⟨0, 9, 12, 13⟩ : ExceptionTableEntry), [], "java/lang/IndexOutOfBoundsException", rfl, (fun z hz => by cases hz), by decide, by decide, kL_reach_13, by decide +kernel, rfl⟩
set_option maxRecDepth 100000 in
theorem c_L_reach {l : Launch} {D : va_G} {A : Nat → Prop} {h : vh} {b ao : Nat} {p0 : Int} {fs : List Value} {fo : Nat → Int64} {POST : Option Value → vh → Prop} {XPOST : String → vh → Prop} (hM : TX l D A yX7_reach wsX7_reach { frames := 7, cells := 1, slots := 6, locals := 143 } [.ref b, vI p0] h POST XPOST) (hb : h b = some (eO 7 fs)) (hP : ∀ rv h1, POST rv h1 → ∃ v, rv = some (vI v) ∧ h1 ao = some (eJ D 1 fo)) (hX : ∀ E h1, XPOST E h1 → E = "java/lang/IndexOutOfBoundsException") : HX l D A yL_reach wsL_reach { frames := 8, cells := 1, slots := 6, locals := 165 } [.ref b, vI p0, .ref ao] h (HPo D ao fo POST XPOST ["java/lang/IndexOutOfBoundsException"]) := by
  refine HX.of (cc := cL_reach) (maxL := 4) (ret := (some .int)) (hh := [(0, 9, 12, 13)]) [(0, .ref b), (1, vI p0), (2, .ref ao)] (by decide +kernel) rfl rfl (Nat.le_of_ble_eq_true rfl) ?_
  intro κ C hkl G ch kn
  subst hkl
  have C : CX κ "LedgeLevelsLaw" "reach" cL_reach wsL_reach { frames := 8, cells := 1, slots := 6, locals := 165 } D A 4 := C
  refine x_aload_n C dL_reach_0 2 rfl ?_
  refine x_iconst C dL_reach_1 0 (by decide) ?_
  refine x_aload_n C dL_reach_2 0 rfl ?_
  refine x_iload_n C dL_reach_3 1 rfl ?_
  refine x_callVh C (n := 1) (qc := (RX7, TX7, 7)) (As := [vI p0]) (rest := [vI 0, .ref ao]) hM gL_reach_X7_reach (by decide +kernel) hb rfl rfl rfl rfl (Nat.le_of_ble_eq_true rfl) ⟨by decide, by decide⟩ ⟨(by decide), (by decide)⟩ dL_reach_4 ch kn (fun E h1 q hx => ?_) (fun rv h1 hp => ?_)
  · obtain rfl := hX E h1 hx
    refine ⟨12, tkL_reach_0, ?_⟩
    refine x_astore_n C (ls' := [(0, .ref b), (1, vI p0), (2, .ref ao)] ++ [(3, .ref q)]) dL_reach_12 (by decide) rfl ?_
    refine x_iconst C dL_reach_13 1 (by decide) ?_
    exact x_iret C G dL_reach_14 (Or.inr ⟨_, 0, hx, rfl, rfl⟩) (by decide) (by decide)
  · obtain ⟨v, rfl, ho⟩ := hP rv h1 hp
    refine x_i2l C dL_reach_7 ?_
    refine x_last C ho ⟨by decide, by decide⟩ (by decide) dL_reach_8 ?_
    refine x_goto (tgt := 15) C dL_reach_9 (by decide) ?_
    refine x_iconst C dL_reach_15 0 (by decide) ?_
    exact x_iret C G dL_reach_16 (Or.inl ⟨v, h1, hp, rfl, rfl⟩) (by decide) (by decide)

theorem kL_farthest_13 : Cond.classLink "LedgeLevelsLaw" 13 "java/lang/IndexOutOfBoundsException" ∈ wsL_farthest := by decide +kernel
theorem tkL_farthest_0 : Tk "LedgeLevelsLaw" wsL_farthest [(0, 9, 12, 13)] 4 "java/lang/IndexOutOfBoundsException" 12 := ⟨[], (⟨0, 9, 12, 13⟩ : ExceptionTableEntry), [], "java/lang/IndexOutOfBoundsException", rfl, (fun z hz => by cases hz), by decide, by decide, kL_farthest_13, by decide +kernel, rfl⟩
set_option maxRecDepth 100000 in
theorem c_L_farthest {l : Launch} {D : va_G} {A : Nat → Prop} {h : vh} {b ao : Nat} {p0 : Int} {fs : List Value} {fo : Nat → Int64} {POST : Option Value → vh → Prop} {XPOST : String → vh → Prop} (hM : TX l D A yX7_farthest wsX7_farthest { frames := 7, cells := 1, slots := 6, locals := 143 } [.ref b, vI p0] h POST XPOST) (hb : h b = some (eO 7 fs)) (hP : ∀ rv h1, POST rv h1 → ∃ v, rv = some (vI v) ∧ h1 ao = some (eJ D 1 fo)) (hX : ∀ E h1, XPOST E h1 → E = "java/lang/IndexOutOfBoundsException") : HX l D A yL_farthest wsL_farthest { frames := 8, cells := 1, slots := 6, locals := 165 } [.ref b, vI p0, .ref ao] h (HPo D ao fo POST XPOST ["java/lang/IndexOutOfBoundsException"]) := by
  refine HX.of (cc := cL_farthest) (maxL := 4) (ret := (some .int)) (hh := [(0, 9, 12, 13)]) [(0, .ref b), (1, vI p0), (2, .ref ao)] (by decide +kernel) rfl rfl (Nat.le_of_ble_eq_true rfl) ?_
  intro κ C hkl G ch kn
  subst hkl
  have C : CX κ "LedgeLevelsLaw" "farthest" cL_farthest wsL_farthest { frames := 8, cells := 1, slots := 6, locals := 165 } D A 4 := C
  refine x_aload_n C dL_farthest_0 2 rfl ?_
  refine x_iconst C dL_farthest_1 0 (by decide) ?_
  refine x_aload_n C dL_farthest_2 0 rfl ?_
  refine x_iload_n C dL_farthest_3 1 rfl ?_
  refine x_callVh C (n := 1) (qc := (RX7, TX7, 7)) (As := [vI p0]) (rest := [vI 0, .ref ao]) hM gL_farthest_X7_farthest (by decide +kernel) hb rfl rfl rfl rfl (Nat.le_of_ble_eq_true rfl) ⟨by decide, by decide⟩ ⟨(by decide), (by decide)⟩ dL_farthest_4 ch kn (fun E h1 q hx => ?_) (fun rv h1 hp => ?_)
  · obtain rfl := hX E h1 hx
    refine ⟨12, tkL_farthest_0, ?_⟩
    refine x_astore_n C (ls' := [(0, .ref b), (1, vI p0), (2, .ref ao)] ++ [(3, .ref q)]) dL_farthest_12 (by decide) rfl ?_
    refine x_iconst C dL_farthest_13 1 (by decide) ?_
    exact x_iret C G dL_farthest_14 (Or.inr ⟨_, 0, hx, rfl, rfl⟩) (by decide) (by decide)
  · obtain ⟨v, rfl, ho⟩ := hP rv h1 hp
    refine x_i2l C dL_farthest_7 ?_
    refine x_last C ho ⟨by decide, by decide⟩ (by decide) dL_farthest_8 ?_
    refine x_goto (tgt := 15) C dL_farthest_9 (by decide) ?_
    refine x_iconst C dL_farthest_15 0 (by decide) ?_
    exact x_iret C G dL_farthest_16 (Or.inl ⟨v, h1, hp, rfl, rfl⟩) (by decide) (by decide)

theorem kL_strength_13 : Cond.classLink "LedgeLevelsLaw" 13 "java/lang/IndexOutOfBoundsException" ∈ wsL_strength := by decide +kernel
theorem tkL_strength_0 : Tk "LedgeLevelsLaw" wsL_strength [(0, 9, 12, 13)] 4 "java/lang/IndexOutOfBoundsException" 12 := ⟨[], (⟨0, 9, 12, 13⟩ : ExceptionTableEntry), [], "java/lang/IndexOutOfBoundsException", rfl, (fun z hz => by cases hz), by decide, by decide, kL_strength_13, by decide +kernel, rfl⟩
set_option maxRecDepth 100000 in
theorem c_L_strength {l : Launch} {D : va_G} {A : Nat → Prop} {h : vh} {b ao : Nat} {p0 : Int} {fs : List Value} {fo : Nat → Int64} {POST : Option Value → vh → Prop} {XPOST : String → vh → Prop} (hM : TX l D A yX7_strength wsX7_strength { frames := 7, cells := 1, slots := 6, locals := 110 } [.ref b, vI p0] h POST XPOST) (hb : h b = some (eO 7 fs)) (hP : ∀ rv h1, POST rv h1 → ∃ v, rv = some (vI v) ∧ h1 ao = some (eJ D 1 fo)) (hX : ∀ E h1, XPOST E h1 → E = "java/lang/IndexOutOfBoundsException") : HX l D A yL_strength wsL_strength { frames := 8, cells := 1, slots := 6, locals := 131 } [.ref b, vI p0, .ref ao] h (HPo D ao fo POST XPOST ["java/lang/IndexOutOfBoundsException"]) := by
  refine HX.of (cc := cL_strength) (maxL := 4) (ret := (some .int)) (hh := [(0, 9, 12, 13)]) [(0, .ref b), (1, vI p0), (2, .ref ao)] (by decide +kernel) rfl rfl (Nat.le_of_ble_eq_true rfl) ?_
  intro κ C hkl G ch kn
  subst hkl
  have C : CX κ "LedgeLevelsLaw" "strength" cL_strength wsL_strength { frames := 8, cells := 1, slots := 6, locals := 131 } D A 4 := C
  refine x_aload_n C dL_strength_0 2 rfl ?_
  refine x_iconst C dL_strength_1 0 (by decide) ?_
  refine x_aload_n C dL_strength_2 0 rfl ?_
  refine x_iload_n C dL_strength_3 1 rfl ?_
  refine x_callVh C (n := 1) (qc := (RX7, TX7, 7)) (As := [vI p0]) (rest := [vI 0, .ref ao]) hM gL_strength_X7_strength (by decide +kernel) hb rfl rfl rfl rfl (Nat.le_of_ble_eq_true rfl) ⟨by decide, by decide⟩ ⟨(by decide), (by decide)⟩ dL_strength_4 ch kn (fun E h1 q hx => ?_) (fun rv h1 hp => ?_)
  · obtain rfl := hX E h1 hx
    refine ⟨12, tkL_strength_0, ?_⟩
    refine x_astore_n C (ls' := [(0, .ref b), (1, vI p0), (2, .ref ao)] ++ [(3, .ref q)]) dL_strength_12 (by decide) rfl ?_
    refine x_iconst C dL_strength_13 1 (by decide) ?_
    exact x_iret C G dL_strength_14 (Or.inr ⟨_, 0, hx, rfl, rfl⟩) (by decide) (by decide)
  · obtain ⟨v, rfl, ho⟩ := hP rv h1 hp
    refine x_i2l C dL_strength_7 ?_
    refine x_last C ho ⟨by decide, by decide⟩ (by decide) dL_strength_8 ?_
    refine x_goto (tgt := 15) C dL_strength_9 (by decide) ?_
    refine x_iconst C dL_strength_15 0 (by decide) ?_
    exact x_iret C G dL_strength_16 (Or.inl ⟨v, h1, hp, rfl, rfl⟩) (by decide) (by decide)

theorem kL_author_13 : Cond.classLink "LedgeLevelsLaw" 13 "java/lang/IndexOutOfBoundsException" ∈ wsL_author := by decide +kernel
theorem tkL_author_0 : Tk "LedgeLevelsLaw" wsL_author [(0, 9, 12, 13)] 4 "java/lang/IndexOutOfBoundsException" 12 := ⟨[], (⟨0, 9, 12, 13⟩ : ExceptionTableEntry), [], "java/lang/IndexOutOfBoundsException", rfl, (fun z hz => by cases hz), by decide, by decide, kL_author_13, by decide +kernel, rfl⟩
set_option maxRecDepth 100000 in
theorem c_L_author {l : Launch} {D : va_G} {A : Nat → Prop} {h : vh} {b ao : Nat} {p0 : Int} {fs : List Value} {fo : Nat → Int64} {POST : Option Value → vh → Prop} {XPOST : String → vh → Prop} (hM : TX l D A yX7_author wsX7_author { frames := 7, cells := 1, slots := 6, locals := 112 } [.ref b, vI p0] h POST XPOST) (hb : h b = some (eO 7 fs)) (hP : ∀ rv h1, POST rv h1 → ∃ v, rv = some (vI v) ∧ h1 ao = some (eJ D 1 fo)) (hX : ∀ E h1, XPOST E h1 → E = "java/lang/IndexOutOfBoundsException") : HX l D A yL_author wsL_author { frames := 8, cells := 1, slots := 6, locals := 133 } [.ref b, vI p0, .ref ao] h (HPo D ao fo POST XPOST ["java/lang/IndexOutOfBoundsException"]) := by
  refine HX.of (cc := cL_author) (maxL := 4) (ret := (some .int)) (hh := [(0, 9, 12, 13)]) [(0, .ref b), (1, vI p0), (2, .ref ao)] (by decide +kernel) rfl rfl (Nat.le_of_ble_eq_true rfl) ?_
  intro κ C hkl G ch kn
  subst hkl
  have C : CX κ "LedgeLevelsLaw" "author" cL_author wsL_author { frames := 8, cells := 1, slots := 6, locals := 133 } D A 4 := C
  refine x_aload_n C dL_author_0 2 rfl ?_
  refine x_iconst C dL_author_1 0 (by decide) ?_
  refine x_aload_n C dL_author_2 0 rfl ?_
  refine x_iload_n C dL_author_3 1 rfl ?_
  refine x_callVh C (n := 1) (qc := (RX7, TX7, 7)) (As := [vI p0]) (rest := [vI 0, .ref ao]) hM gL_author_X7_author (by decide +kernel) hb rfl rfl rfl rfl (Nat.le_of_ble_eq_true rfl) ⟨by decide, by decide⟩ ⟨(by decide), (by decide)⟩ dL_author_4 ch kn (fun E h1 q hx => ?_) (fun rv h1 hp => ?_)
  · obtain rfl := hX E h1 hx
    refine ⟨12, tkL_author_0, ?_⟩
    refine x_astore_n C (ls' := [(0, .ref b), (1, vI p0), (2, .ref ao)] ++ [(3, .ref q)]) dL_author_12 (by decide) rfl ?_
    refine x_iconst C dL_author_13 1 (by decide) ?_
    exact x_iret C G dL_author_14 (Or.inr ⟨_, 0, hx, rfl, rfl⟩) (by decide) (by decide)
  · obtain ⟨v, rfl, ho⟩ := hP rv h1 hp
    refine x_i2l C dL_author_7 ?_
    refine x_last C ho ⟨by decide, by decide⟩ (by decide) dL_author_8 ?_
    refine x_goto (tgt := 15) C dL_author_9 (by decide) ?_
    refine x_iconst C dL_author_15 0 (by decide) ?_
    exact x_iret C G dL_author_16 (Or.inl ⟨v, h1, hp, rfl, rfl⟩) (by decide) (by decide)

theorem kL_best_13 : Cond.classLink "LedgeLevelsLaw" 13 "java/lang/IndexOutOfBoundsException" ∈ wsL_best := by decide +kernel
theorem tkL_best_0 : Tk "LedgeLevelsLaw" wsL_best [(0, 9, 12, 13)] 4 "java/lang/IndexOutOfBoundsException" 12 := ⟨[], (⟨0, 9, 12, 13⟩ : ExceptionTableEntry), [], "java/lang/IndexOutOfBoundsException", rfl, (fun z hz => by cases hz), by decide, by decide, kL_best_13, by decide +kernel, rfl⟩
set_option maxRecDepth 100000 in
theorem c_L_best {l : Launch} {D : va_G} {A : Nat → Prop} {h : vh} {b ao : Nat} {p0 : Int} {fs : List Value} {fo : Nat → Int64} {POST : Option Value → vh → Prop} {XPOST : String → vh → Prop} (hM : TX l D A yX7_best wsX7_best { frames := 7, cells := 1, slots := 6, locals := 112 } [.ref b, vI p0] h POST XPOST) (hb : h b = some (eO 7 fs)) (hP : ∀ rv h1, POST rv h1 → ∃ v, rv = some (vI v) ∧ h1 ao = some (eJ D 1 fo)) (hX : ∀ E h1, XPOST E h1 → E = "java/lang/IndexOutOfBoundsException") : HX l D A yL_best wsL_best { frames := 8, cells := 1, slots := 6, locals := 133 } [.ref b, vI p0, .ref ao] h (HPo D ao fo POST XPOST ["java/lang/IndexOutOfBoundsException"]) := by
  refine HX.of (cc := cL_best) (maxL := 4) (ret := (some .int)) (hh := [(0, 9, 12, 13)]) [(0, .ref b), (1, vI p0), (2, .ref ao)] (by decide +kernel) rfl rfl (Nat.le_of_ble_eq_true rfl) ?_
  intro κ C hkl G ch kn
  subst hkl
  have C : CX κ "LedgeLevelsLaw" "best" cL_best wsL_best { frames := 8, cells := 1, slots := 6, locals := 133 } D A 4 := C
  refine x_aload_n C dL_best_0 2 rfl ?_
  refine x_iconst C dL_best_1 0 (by decide) ?_
  refine x_aload_n C dL_best_2 0 rfl ?_
  refine x_iload_n C dL_best_3 1 rfl ?_
  refine x_callVh C (n := 1) (qc := (RX7, TX7, 7)) (As := [vI p0]) (rest := [vI 0, .ref ao]) hM gL_best_X7_best (by decide +kernel) hb rfl rfl rfl rfl (Nat.le_of_ble_eq_true rfl) ⟨by decide, by decide⟩ ⟨(by decide), (by decide)⟩ dL_best_4 ch kn (fun E h1 q hx => ?_) (fun rv h1 hp => ?_)
  · obtain rfl := hX E h1 hx
    refine ⟨12, tkL_best_0, ?_⟩
    refine x_astore_n C (ls' := [(0, .ref b), (1, vI p0), (2, .ref ao)] ++ [(3, .ref q)]) dL_best_12 (by decide) rfl ?_
    refine x_iconst C dL_best_13 1 (by decide) ?_
    exact x_iret C G dL_best_14 (Or.inr ⟨_, 0, hx, rfl, rfl⟩) (by decide) (by decide)
  · obtain ⟨v, rfl, ho⟩ := hP rv h1 hp
    refine x_i2l C dL_best_7 ?_
    refine x_last C ho ⟨by decide, by decide⟩ (by decide) dL_best_8 ?_
    refine x_goto (tgt := 15) C dL_best_9 (by decide) ?_
    refine x_iconst C dL_best_15 0 (by decide) ?_
    exact x_iret C G dL_best_16 (Or.inl ⟨v, h1, hp, rfl, rfl⟩) (by decide) (by decide)

theorem kL_parent_13 : Cond.classLink "LedgeLevelsLaw" 13 "java/lang/IndexOutOfBoundsException" ∈ wsL_parent := by decide +kernel
theorem tkL_parent_0 : Tk "LedgeLevelsLaw" wsL_parent [(0, 9, 12, 13)] 4 "java/lang/IndexOutOfBoundsException" 12 := ⟨[], (⟨0, 9, 12, 13⟩ : ExceptionTableEntry), [], "java/lang/IndexOutOfBoundsException", rfl, (fun z hz => by cases hz), by decide, by decide, kL_parent_13, by decide +kernel, rfl⟩
set_option maxRecDepth 100000 in
theorem c_L_parent {l : Launch} {D : va_G} {A : Nat → Prop} {h : vh} {b ao : Nat} {p0 : Int} {fs : List Value} {fo : Nat → Int64} {POST : Option Value → vh → Prop} {XPOST : String → vh → Prop} (hM : TX l D A yX7_parent wsX7_parent { frames := 7, cells := 1, slots := 6, locals := 112 } [.ref b, vI p0] h POST XPOST) (hb : h b = some (eO 7 fs)) (hP : ∀ rv h1, POST rv h1 → ∃ v, rv = some (vI v) ∧ h1 ao = some (eJ D 1 fo)) (hX : ∀ E h1, XPOST E h1 → E = "java/lang/IndexOutOfBoundsException") : HX l D A yL_parent wsL_parent { frames := 8, cells := 1, slots := 6, locals := 134 } [.ref b, vI p0, .ref ao] h (HPo D ao fo POST XPOST ["java/lang/IndexOutOfBoundsException"]) := by
  refine HX.of (cc := cL_parent) (maxL := 4) (ret := (some .int)) (hh := [(0, 9, 12, 13)]) [(0, .ref b), (1, vI p0), (2, .ref ao)] (by decide +kernel) rfl rfl (Nat.le_of_ble_eq_true rfl) ?_
  intro κ C hkl G ch kn
  subst hkl
  have C : CX κ "LedgeLevelsLaw" "parent" cL_parent wsL_parent { frames := 8, cells := 1, slots := 6, locals := 134 } D A 4 := C
  refine x_aload_n C dL_parent_0 2 rfl ?_
  refine x_iconst C dL_parent_1 0 (by decide) ?_
  refine x_aload_n C dL_parent_2 0 rfl ?_
  refine x_iload_n C dL_parent_3 1 rfl ?_
  refine x_callVh C (n := 1) (qc := (RX7, TX7, 7)) (As := [vI p0]) (rest := [vI 0, .ref ao]) hM gL_parent_X7_parent (by decide +kernel) hb rfl rfl rfl rfl (Nat.le_of_ble_eq_true rfl) ⟨by decide, by decide⟩ ⟨(by decide), (by decide)⟩ dL_parent_4 ch kn (fun E h1 q hx => ?_) (fun rv h1 hp => ?_)
  · obtain rfl := hX E h1 hx
    refine ⟨12, tkL_parent_0, ?_⟩
    refine x_astore_n C (ls' := [(0, .ref b), (1, vI p0), (2, .ref ao)] ++ [(3, .ref q)]) dL_parent_12 (by decide) rfl ?_
    refine x_iconst C dL_parent_13 1 (by decide) ?_
    exact x_iret C G dL_parent_14 (Or.inr ⟨_, 0, hx, rfl, rfl⟩) (by decide) (by decide)
  · obtain ⟨v, rfl, ho⟩ := hP rv h1 hp
    refine x_i2l C dL_parent_7 ?_
    refine x_last C ho ⟨by decide, by decide⟩ (by decide) dL_parent_8 ?_
    refine x_goto (tgt := 15) C dL_parent_9 (by decide) ?_
    refine x_iconst C dL_parent_15 0 (by decide) ?_
    exact x_iret C G dL_parent_16 (Or.inl ⟨v, h1, hp, rfl, rfl⟩) (by decide) (by decide)

theorem kL_line_13 : Cond.classLink "LedgeLevelsLaw" 13 "java/lang/IndexOutOfBoundsException" ∈ wsL_line := by decide +kernel
theorem tkL_line_0 : Tk "LedgeLevelsLaw" wsL_line [(0, 9, 12, 13)] 4 "java/lang/IndexOutOfBoundsException" 12 := ⟨[], (⟨0, 9, 12, 13⟩ : ExceptionTableEntry), [], "java/lang/IndexOutOfBoundsException", rfl, (fun z hz => by cases hz), by decide, by decide, kL_line_13, by decide +kernel, rfl⟩
set_option maxRecDepth 100000 in
theorem c_L_line {l : Launch} {D : va_G} {A : Nat → Prop} {h : vh} {b ao : Nat} {p0 : Int} {fs : List Value} {fo : Nat → Int64} {POST : Option Value → vh → Prop} {XPOST : String → vh → Prop} (hM : TX l D A yX7_line wsX7_line { frames := 7, cells := 22, slots := 132, locals := 112 } [.ref b, vI p0] h POST XPOST) (hb : h b = some (eO 7 fs)) (hP : ∀ rv h1, POST rv h1 → ∃ v, rv = some (vI v) ∧ h1 ao = some (eJ D 1 fo)) (hX : ∀ E h1, XPOST E h1 → E = "java/lang/IndexOutOfBoundsException") : HX l D A yL_line wsL_line { frames := 8, cells := 22, slots := 132, locals := 136 } [.ref b, vI p0, .ref ao] h (HPo D ao fo POST XPOST ["java/lang/IndexOutOfBoundsException"]) := by
  refine HX.of (cc := cL_line) (maxL := 4) (ret := (some .int)) (hh := [(0, 9, 12, 13)]) [(0, .ref b), (1, vI p0), (2, .ref ao)] (by decide +kernel) rfl rfl (Nat.le_of_ble_eq_true rfl) ?_
  intro κ C hkl G ch kn
  subst hkl
  have C : CX κ "LedgeLevelsLaw" "line" cL_line wsL_line { frames := 8, cells := 22, slots := 132, locals := 136 } D A 4 := C
  refine x_aload_n C dL_line_0 2 rfl ?_
  refine x_iconst C dL_line_1 0 (by decide) ?_
  refine x_aload_n C dL_line_2 0 rfl ?_
  refine x_iload_n C dL_line_3 1 rfl ?_
  refine x_callVh C (n := 1) (qc := (RX7, TX7, 7)) (As := [vI p0]) (rest := [vI 0, .ref ao]) hM gL_line_X7_line (by decide +kernel) hb rfl rfl rfl rfl (Nat.le_of_ble_eq_true rfl) ⟨by decide, by decide⟩ ⟨(by decide), (by decide)⟩ dL_line_4 ch kn (fun E h1 q hx => ?_) (fun rv h1 hp => ?_)
  · obtain rfl := hX E h1 hx
    refine ⟨12, tkL_line_0, ?_⟩
    refine x_astore_n C (ls' := [(0, .ref b), (1, vI p0), (2, .ref ao)] ++ [(3, .ref q)]) dL_line_12 (by decide) rfl ?_
    refine x_iconst C dL_line_13 1 (by decide) ?_
    exact x_iret C G dL_line_14 (Or.inr ⟨_, 0, hx, rfl, rfl⟩) (by decide) (by decide)
  · obtain ⟨v, rfl, ho⟩ := hP rv h1 hp
    refine x_i2l C dL_line_7 ?_
    refine x_last C ho ⟨by decide, by decide⟩ (by decide) dL_line_8 ?_
    refine x_goto (tgt := 15) C dL_line_9 (by decide) ?_
    refine x_iconst C dL_line_15 0 (by decide) ?_
    exact x_iret C G dL_line_16 (Or.inl ⟨v, h1, hp, rfl, rfl⟩) (by decide) (by decide)

theorem kL_stars_13 : Cond.classLink "LedgeLevelsLaw" 13 "java/lang/IndexOutOfBoundsException" ∈ wsL_stars := by decide +kernel
theorem tkL_stars_0 : Tk "LedgeLevelsLaw" wsL_stars [(0, 9, 12, 13)] 4 "java/lang/IndexOutOfBoundsException" 12 := ⟨[], (⟨0, 9, 12, 13⟩ : ExceptionTableEntry), [], "java/lang/IndexOutOfBoundsException", rfl, (fun z hz => by cases hz), by decide, by decide, kL_stars_13, by decide +kernel, rfl⟩
set_option maxRecDepth 100000 in
theorem c_L_stars {l : Launch} {D : va_G} {A : Nat → Prop} {h : vh} {b ao : Nat} {p0 : Int} {fs : List Value} {fo : Nat → Int64} {POST : Option Value → vh → Prop} {XPOST : String → vh → Prop} (hM : TX l D A yX7_stars wsX7_stars { frames := 7, cells := 1, slots := 6, locals := 112 } [.ref b, vI p0] h POST XPOST) (hb : h b = some (eO 7 fs)) (hP : ∀ rv h1, POST rv h1 → ∃ v, rv = some (vI v) ∧ h1 ao = some (eJ D 1 fo)) (hX : ∀ E h1, XPOST E h1 → E = "java/lang/IndexOutOfBoundsException") : HX l D A yL_stars wsL_stars { frames := 8, cells := 1, slots := 6, locals := 133 } [.ref b, vI p0, .ref ao] h (HPo D ao fo POST XPOST ["java/lang/IndexOutOfBoundsException"]) := by
  refine HX.of (cc := cL_stars) (maxL := 4) (ret := (some .int)) (hh := [(0, 9, 12, 13)]) [(0, .ref b), (1, vI p0), (2, .ref ao)] (by decide +kernel) rfl rfl (Nat.le_of_ble_eq_true rfl) ?_
  intro κ C hkl G ch kn
  subst hkl
  have C : CX κ "LedgeLevelsLaw" "stars" cL_stars wsL_stars { frames := 8, cells := 1, slots := 6, locals := 133 } D A 4 := C
  refine x_aload_n C dL_stars_0 2 rfl ?_
  refine x_iconst C dL_stars_1 0 (by decide) ?_
  refine x_aload_n C dL_stars_2 0 rfl ?_
  refine x_iload_n C dL_stars_3 1 rfl ?_
  refine x_callVh C (n := 1) (qc := (RX7, TX7, 7)) (As := [vI p0]) (rest := [vI 0, .ref ao]) hM gL_stars_X7_stars (by decide +kernel) hb rfl rfl rfl rfl (Nat.le_of_ble_eq_true rfl) ⟨by decide, by decide⟩ ⟨(by decide), (by decide)⟩ dL_stars_4 ch kn (fun E h1 q hx => ?_) (fun rv h1 hp => ?_)
  · obtain rfl := hX E h1 hx
    refine ⟨12, tkL_stars_0, ?_⟩
    refine x_astore_n C (ls' := [(0, .ref b), (1, vI p0), (2, .ref ao)] ++ [(3, .ref q)]) dL_stars_12 (by decide) rfl ?_
    refine x_iconst C dL_stars_13 1 (by decide) ?_
    exact x_iret C G dL_stars_14 (Or.inr ⟨_, 0, hx, rfl, rfl⟩) (by decide) (by decide)
  · obtain ⟨v, rfl, ho⟩ := hP rv h1 hp
    refine x_i2l C dL_stars_7 ?_
    refine x_last C ho ⟨by decide, by decide⟩ (by decide) dL_stars_8 ?_
    refine x_goto (tgt := 15) C dL_stars_9 (by decide) ?_
    refine x_iconst C dL_stars_15 0 (by decide) ?_
    exact x_iret C G dL_stars_16 (Or.inl ⟨v, h1, hp, rfl, rfl⟩) (by decide) (by decide)

theorem kL_credit_13 : Cond.classLink "LedgeLevelsLaw" 13 "java/lang/IndexOutOfBoundsException" ∈ wsL_credit := by decide +kernel
theorem tkL_credit_0 : Tk "LedgeLevelsLaw" wsL_credit [(0, 9, 12, 13)] 4 "java/lang/IndexOutOfBoundsException" 12 := ⟨[], (⟨0, 9, 12, 13⟩ : ExceptionTableEntry), [], "java/lang/IndexOutOfBoundsException", rfl, (fun z hz => by cases hz), by decide, by decide, kL_credit_13, by decide +kernel, rfl⟩
set_option maxRecDepth 100000 in
theorem c_L_credit {l : Launch} {D : va_G} {A : Nat → Prop} {h : vh} {b ao : Nat} {p0 : Int} {fs : List Value} {fo : Nat → Int64} {POST : Option Value → vh → Prop} {XPOST : String → vh → Prop} (hM : TX l D A yX7_credit wsX7_credit { frames := 7, cells := 22, slots := 132, locals := 112 } [.ref b, vI p0] h POST XPOST) (hb : h b = some (eO 7 fs)) (hP : ∀ rv h1, POST rv h1 → ∃ v, rv = some (vI v) ∧ h1 ao = some (eJ D 1 fo)) (hX : ∀ E h1, XPOST E h1 → E = "java/lang/IndexOutOfBoundsException") : HX l D A yL_credit wsL_credit { frames := 8, cells := 22, slots := 132, locals := 136 } [.ref b, vI p0, .ref ao] h (HPo D ao fo POST XPOST ["java/lang/IndexOutOfBoundsException"]) := by
  refine HX.of (cc := cL_credit) (maxL := 4) (ret := (some .int)) (hh := [(0, 9, 12, 13)]) [(0, .ref b), (1, vI p0), (2, .ref ao)] (by decide +kernel) rfl rfl (Nat.le_of_ble_eq_true rfl) ?_
  intro κ C hkl G ch kn
  subst hkl
  have C : CX κ "LedgeLevelsLaw" "credit" cL_credit wsL_credit { frames := 8, cells := 22, slots := 132, locals := 136 } D A 4 := C
  refine x_aload_n C dL_credit_0 2 rfl ?_
  refine x_iconst C dL_credit_1 0 (by decide) ?_
  refine x_aload_n C dL_credit_2 0 rfl ?_
  refine x_iload_n C dL_credit_3 1 rfl ?_
  refine x_callVh C (n := 1) (qc := (RX7, TX7, 7)) (As := [vI p0]) (rest := [vI 0, .ref ao]) hM gL_credit_X7_credit (by decide +kernel) hb rfl rfl rfl rfl (Nat.le_of_ble_eq_true rfl) ⟨by decide, by decide⟩ ⟨(by decide), (by decide)⟩ dL_credit_4 ch kn (fun E h1 q hx => ?_) (fun rv h1 hp => ?_)
  · obtain rfl := hX E h1 hx
    refine ⟨12, tkL_credit_0, ?_⟩
    refine x_astore_n C (ls' := [(0, .ref b), (1, vI p0), (2, .ref ao)] ++ [(3, .ref q)]) dL_credit_12 (by decide) rfl ?_
    refine x_iconst C dL_credit_13 1 (by decide) ?_
    exact x_iret C G dL_credit_14 (Or.inr ⟨_, 0, hx, rfl, rfl⟩) (by decide) (by decide)
  · obtain ⟨v, rfl, ho⟩ := hP rv h1 hp
    refine x_i2l C dL_credit_7 ?_
    refine x_last C ho ⟨by decide, by decide⟩ (by decide) dL_credit_8 ?_
    refine x_goto (tgt := 15) C dL_credit_9 (by decide) ?_
    refine x_iconst C dL_credit_15 0 (by decide) ?_
    exact x_iret C G dL_credit_16 (Or.inl ⟨v, h1, hp, rfl, rfl⟩) (by decide) (by decide)

theorem kL_record_13 : Cond.classLink "LedgeLevelsLaw" 13 "java/lang/IndexOutOfBoundsException" ∈ wsL_record := by decide +kernel
theorem tkL_record_0 : Tk "LedgeLevelsLaw" wsL_record [(0, 9, 12, 13)] 4 "java/lang/IndexOutOfBoundsException" 12 := ⟨[], (⟨0, 9, 12, 13⟩ : ExceptionTableEntry), [], "java/lang/IndexOutOfBoundsException", rfl, (fun z hz => by cases hz), by decide, by decide, kL_record_13, by decide +kernel, rfl⟩
set_option maxRecDepth 100000 in
theorem c_L_record {l : Launch} {D : va_G} {A : Nat → Prop} {h : vh} {b ao : Nat} {p0 : Int} {fs : List Value} {fo : Nat → Int64} {POST : Option Value → vh → Prop} {XPOST : String → vh → Prop} (hM : TX l D A yX7_record wsX7_record { frames := 7, cells := 1, slots := 6, locals := 112 } [.ref b, vI p0] h POST XPOST) (hb : h b = some (eO 7 fs)) (hP : ∀ rv h1, POST rv h1 → ∃ v, rv = some (vI v) ∧ h1 ao = some (eJ D 1 fo)) (hX : ∀ E h1, XPOST E h1 → E = "java/lang/IndexOutOfBoundsException") : HX l D A yL_record wsL_record { frames := 8, cells := 1, slots := 6, locals := 133 } [.ref b, vI p0, .ref ao] h (HPo D ao fo POST XPOST ["java/lang/IndexOutOfBoundsException"]) := by
  refine HX.of (cc := cL_record) (maxL := 4) (ret := (some .int)) (hh := [(0, 9, 12, 13)]) [(0, .ref b), (1, vI p0), (2, .ref ao)] (by decide +kernel) rfl rfl (Nat.le_of_ble_eq_true rfl) ?_
  intro κ C hkl G ch kn
  subst hkl
  have C : CX κ "LedgeLevelsLaw" "record" cL_record wsL_record { frames := 8, cells := 1, slots := 6, locals := 133 } D A 4 := C
  refine x_aload_n C dL_record_0 2 rfl ?_
  refine x_iconst C dL_record_1 0 (by decide) ?_
  refine x_aload_n C dL_record_2 0 rfl ?_
  refine x_iload_n C dL_record_3 1 rfl ?_
  refine x_callVh C (n := 1) (qc := (RX7, TX7, 7)) (As := [vI p0]) (rest := [vI 0, .ref ao]) hM gL_record_X7_record (by decide +kernel) hb rfl rfl rfl rfl (Nat.le_of_ble_eq_true rfl) ⟨by decide, by decide⟩ ⟨(by decide), (by decide)⟩ dL_record_4 ch kn (fun E h1 q hx => ?_) (fun rv h1 hp => ?_)
  · obtain rfl := hX E h1 hx
    refine ⟨12, tkL_record_0, ?_⟩
    refine x_astore_n C (ls' := [(0, .ref b), (1, vI p0), (2, .ref ao)] ++ [(3, .ref q)]) dL_record_12 (by decide) rfl ?_
    refine x_iconst C dL_record_13 1 (by decide) ?_
    exact x_iret C G dL_record_14 (Or.inr ⟨_, 0, hx, rfl, rfl⟩) (by decide) (by decide)
  · obtain ⟨v, rfl, ho⟩ := hP rv h1 hp
    refine x_i2l C dL_record_7 ?_
    refine x_last C ho ⟨by decide, by decide⟩ (by decide) dL_record_8 ?_
    refine x_goto (tgt := 15) C dL_record_9 (by decide) ?_
    refine x_iconst C dL_record_15 0 (by decide) ?_
    exact x_iret C G dL_record_16 (Or.inl ⟨v, h1, hp, rfl, rfl⟩) (by decide) (by decide)

theorem kL_runState_13 : Cond.classLink "LedgeLevelsLaw" 13 "java/lang/IndexOutOfBoundsException" ∈ wsL_runState := by decide +kernel
theorem tkL_runState_0 : Tk "LedgeLevelsLaw" wsL_runState [(0, 9, 12, 13)] 4 "java/lang/IndexOutOfBoundsException" 12 := ⟨[], (⟨0, 9, 12, 13⟩ : ExceptionTableEntry), [], "java/lang/IndexOutOfBoundsException", rfl, (fun z hz => by cases hz), by decide, by decide, kL_runState_13, by decide +kernel, rfl⟩
set_option maxRecDepth 100000 in
theorem c_L_runState {l : Launch} {D : va_G} {A : Nat → Prop} {h : vh} {b ao : Nat} {p0 : Int} {fs : List Value} {fo : Nat → Int64} {POST : Option Value → vh → Prop} {XPOST : String → vh → Prop} (hM : TX l D A yX7_runState wsX7_runState { frames := 7, cells := 1, slots := 6, locals := 112 } [.ref b, vI p0] h POST XPOST) (hb : h b = some (eO 7 fs)) (hP : ∀ rv h1, POST rv h1 → ∃ v, rv = some (vI v) ∧ h1 ao = some (eJ D 1 fo)) (hX : ∀ E h1, XPOST E h1 → E = "java/lang/IndexOutOfBoundsException") : HX l D A yL_runState wsL_runState { frames := 8, cells := 1, slots := 6, locals := 133 } [.ref b, vI p0, .ref ao] h (HPo D ao fo POST XPOST ["java/lang/IndexOutOfBoundsException"]) := by
  refine HX.of (cc := cL_runState) (maxL := 4) (ret := (some .int)) (hh := [(0, 9, 12, 13)]) [(0, .ref b), (1, vI p0), (2, .ref ao)] (by decide +kernel) rfl rfl (Nat.le_of_ble_eq_true rfl) ?_
  intro κ C hkl G ch kn
  subst hkl
  have C : CX κ "LedgeLevelsLaw" "runState" cL_runState wsL_runState { frames := 8, cells := 1, slots := 6, locals := 133 } D A 4 := C
  refine x_aload_n C dL_runState_0 2 rfl ?_
  refine x_iconst C dL_runState_1 0 (by decide) ?_
  refine x_aload_n C dL_runState_2 0 rfl ?_
  refine x_iload_n C dL_runState_3 1 rfl ?_
  refine x_callVh C (n := 1) (qc := (RX7, TX7, 7)) (As := [vI p0]) (rest := [vI 0, .ref ao]) hM gL_runState_X7_runState (by decide +kernel) hb rfl rfl rfl rfl (Nat.le_of_ble_eq_true rfl) ⟨by decide, by decide⟩ ⟨(by decide), (by decide)⟩ dL_runState_4 ch kn (fun E h1 q hx => ?_) (fun rv h1 hp => ?_)
  · obtain rfl := hX E h1 hx
    refine ⟨12, tkL_runState_0, ?_⟩
    refine x_astore_n C (ls' := [(0, .ref b), (1, vI p0), (2, .ref ao)] ++ [(3, .ref q)]) dL_runState_12 (by decide) rfl ?_
    refine x_iconst C dL_runState_13 1 (by decide) ?_
    exact x_iret C G dL_runState_14 (Or.inr ⟨_, 0, hx, rfl, rfl⟩) (by decide) (by decide)
  · obtain ⟨v, rfl, ho⟩ := hP rv h1 hp
    refine x_i2l C dL_runState_7 ?_
    refine x_last C ho ⟨by decide, by decide⟩ (by decide) dL_runState_8 ?_
    refine x_goto (tgt := 15) C dL_runState_9 (by decide) ?_
    refine x_iconst C dL_runState_15 0 (by decide) ?_
    exact x_iret C G dL_runState_16 (Or.inl ⟨v, h1, hp, rfl, rfl⟩) (by decide) (by decide)

theorem kL_body_13 : Cond.classLink "LedgeLevelsLaw" 13 "java/lang/IndexOutOfBoundsException" ∈ wsL_body := by decide +kernel
theorem tkL_body_0 : Tk "LedgeLevelsLaw" wsL_body [(0, 9, 12, 13)] 4 "java/lang/IndexOutOfBoundsException" 12 := ⟨[], (⟨0, 9, 12, 13⟩ : ExceptionTableEntry), [], "java/lang/IndexOutOfBoundsException", rfl, (fun z hz => by cases hz), by decide, by decide, kL_body_13, by decide +kernel, rfl⟩
set_option maxRecDepth 100000 in
theorem c_L_body {l : Launch} {D : va_G} {A : Nat → Prop} {h : vh} {b ao : Nat} {p0 : Int} {fs : List Value} {fo : Nat → Int64} {POST : Option Value → vh → Prop} {XPOST : String → vh → Prop} (hM : TX l D A yX7_body wsX7_body { frames := 7, cells := 1, slots := 6, locals := 112 } [.ref b, vI p0] h POST XPOST) (hb : h b = some (eO 7 fs)) (hP : ∀ rv h1, POST rv h1 → ∃ v, rv = some (vI v) ∧ h1 ao = some (eJ D 1 fo)) (hX : ∀ E h1, XPOST E h1 → E = "java/lang/IndexOutOfBoundsException") : HX l D A yL_body wsL_body { frames := 8, cells := 1, slots := 6, locals := 134 } [.ref b, vI p0, .ref ao] h (HPo D ao fo POST XPOST ["java/lang/IndexOutOfBoundsException"]) := by
  refine HX.of (cc := cL_body) (maxL := 4) (ret := (some .int)) (hh := [(0, 9, 12, 13)]) [(0, .ref b), (1, vI p0), (2, .ref ao)] (by decide +kernel) rfl rfl (Nat.le_of_ble_eq_true rfl) ?_
  intro κ C hkl G ch kn
  subst hkl
  have C : CX κ "LedgeLevelsLaw" "body" cL_body wsL_body { frames := 8, cells := 1, slots := 6, locals := 134 } D A 4 := C
  refine x_aload_n C dL_body_0 2 rfl ?_
  refine x_iconst C dL_body_1 0 (by decide) ?_
  refine x_aload_n C dL_body_2 0 rfl ?_
  refine x_iload_n C dL_body_3 1 rfl ?_
  refine x_callVh C (n := 1) (qc := (RX7, TX7, 7)) (As := [vI p0]) (rest := [vI 0, .ref ao]) hM gL_body_X7_body (by decide +kernel) hb rfl rfl rfl rfl (Nat.le_of_ble_eq_true rfl) ⟨by decide, by decide⟩ ⟨(by decide), (by decide)⟩ dL_body_4 ch kn (fun E h1 q hx => ?_) (fun rv h1 hp => ?_)
  · obtain rfl := hX E h1 hx
    refine ⟨12, tkL_body_0, ?_⟩
    refine x_astore_n C (ls' := [(0, .ref b), (1, vI p0), (2, .ref ao)] ++ [(3, .ref q)]) dL_body_12 (by decide) rfl ?_
    refine x_iconst C dL_body_13 1 (by decide) ?_
    exact x_iret C G dL_body_14 (Or.inr ⟨_, 0, hx, rfl, rfl⟩) (by decide) (by decide)
  · obtain ⟨v, rfl, ho⟩ := hP rv h1 hp
    refine x_i2l C dL_body_7 ?_
    refine x_last C ho ⟨by decide, by decide⟩ (by decide) dL_body_8 ?_
    refine x_goto (tgt := 15) C dL_body_9 (by decide) ?_
    refine x_iconst C dL_body_15 0 (by decide) ?_
    exact x_iret C G dL_body_16 (Or.inl ⟨v, h1, hp, rfl, rfl⟩) (by decide) (by decide)

theorem kL_speed_13 : Cond.classLink "LedgeLevelsLaw" 13 "java/lang/IndexOutOfBoundsException" ∈ wsL_speed := by decide +kernel
theorem tkL_speed_0 : Tk "LedgeLevelsLaw" wsL_speed [(0, 9, 12, 13)] 4 "java/lang/IndexOutOfBoundsException" 12 := ⟨[], (⟨0, 9, 12, 13⟩ : ExceptionTableEntry), [], "java/lang/IndexOutOfBoundsException", rfl, (fun z hz => by cases hz), by decide, by decide, kL_speed_13, by decide +kernel, rfl⟩
set_option maxRecDepth 100000 in
theorem c_L_speed {l : Launch} {D : va_G} {A : Nat → Prop} {h : vh} {b ao : Nat} {p0 : Int} {fs : List Value} {fo : Nat → Int64} {POST : Option Value → vh → Prop} {XPOST : String → vh → Prop} (hM : TX l D A yX7_speed wsX7_speed { frames := 7, cells := 1, slots := 6, locals := 112 } [.ref b, vI p0] h POST XPOST) (hb : h b = some (eO 7 fs)) (hP : ∀ rv h1, POST rv h1 → ∃ v, rv = some (vI v) ∧ h1 ao = some (eJ D 1 fo)) (hX : ∀ E h1, XPOST E h1 → E = "java/lang/IndexOutOfBoundsException") : HX l D A yL_speed wsL_speed { frames := 8, cells := 1, slots := 6, locals := 133 } [.ref b, vI p0, .ref ao] h (HPo D ao fo POST XPOST ["java/lang/IndexOutOfBoundsException"]) := by
  refine HX.of (cc := cL_speed) (maxL := 4) (ret := (some .int)) (hh := [(0, 9, 12, 13)]) [(0, .ref b), (1, vI p0), (2, .ref ao)] (by decide +kernel) rfl rfl (Nat.le_of_ble_eq_true rfl) ?_
  intro κ C hkl G ch kn
  subst hkl
  have C : CX κ "LedgeLevelsLaw" "speed" cL_speed wsL_speed { frames := 8, cells := 1, slots := 6, locals := 133 } D A 4 := C
  refine x_aload_n C dL_speed_0 2 rfl ?_
  refine x_iconst C dL_speed_1 0 (by decide) ?_
  refine x_aload_n C dL_speed_2 0 rfl ?_
  refine x_iload_n C dL_speed_3 1 rfl ?_
  refine x_callVh C (n := 1) (qc := (RX7, TX7, 7)) (As := [vI p0]) (rest := [vI 0, .ref ao]) hM gL_speed_X7_speed (by decide +kernel) hb rfl rfl rfl rfl (Nat.le_of_ble_eq_true rfl) ⟨by decide, by decide⟩ ⟨(by decide), (by decide)⟩ dL_speed_4 ch kn (fun E h1 q hx => ?_) (fun rv h1 hp => ?_)
  · obtain rfl := hX E h1 hx
    refine ⟨12, tkL_speed_0, ?_⟩
    refine x_astore_n C (ls' := [(0, .ref b), (1, vI p0), (2, .ref ao)] ++ [(3, .ref q)]) dL_speed_12 (by decide) rfl ?_
    refine x_iconst C dL_speed_13 1 (by decide) ?_
    exact x_iret C G dL_speed_14 (Or.inr ⟨_, 0, hx, rfl, rfl⟩) (by decide) (by decide)
  · obtain ⟨v, rfl, ho⟩ := hP rv h1 hp
    refine x_i2l C dL_speed_7 ?_
    refine x_last C ho ⟨by decide, by decide⟩ (by decide) dL_speed_8 ?_
    refine x_goto (tgt := 15) C dL_speed_9 (by decide) ?_
    refine x_iconst C dL_speed_15 0 (by decide) ?_
    exact x_iret C G dL_speed_16 (Or.inl ⟨v, h1, hp, rfl, rfl⟩) (by decide) (by decide)

theorem kL_keys_13 : Cond.classLink "LedgeLevelsLaw" 13 "java/lang/IndexOutOfBoundsException" ∈ wsL_keys := by decide +kernel
theorem tkL_keys_0 : Tk "LedgeLevelsLaw" wsL_keys [(0, 9, 12, 13)] 4 "java/lang/IndexOutOfBoundsException" 12 := ⟨[], (⟨0, 9, 12, 13⟩ : ExceptionTableEntry), [], "java/lang/IndexOutOfBoundsException", rfl, (fun z hz => by cases hz), by decide, by decide, kL_keys_13, by decide +kernel, rfl⟩
set_option maxRecDepth 100000 in
theorem c_L_keys {l : Launch} {D : va_G} {A : Nat → Prop} {h : vh} {b ao : Nat} {p0 : Int} {fs : List Value} {fo : Nat → Int64} {POST : Option Value → vh → Prop} {XPOST : String → vh → Prop} (hM : TX l D A yX7_keys wsX7_keys { frames := 7, cells := 1, slots := 6, locals := 112 } [.ref b, vI p0] h POST XPOST) (hb : h b = some (eO 7 fs)) (hP : ∀ rv h1, POST rv h1 → ∃ v, rv = some (vI v) ∧ h1 ao = some (eJ D 1 fo)) (hX : ∀ E h1, XPOST E h1 → E = "java/lang/IndexOutOfBoundsException") : HX l D A yL_keys wsL_keys { frames := 8, cells := 1, slots := 6, locals := 133 } [.ref b, vI p0, .ref ao] h (HPo D ao fo POST XPOST ["java/lang/IndexOutOfBoundsException"]) := by
  refine HX.of (cc := cL_keys) (maxL := 4) (ret := (some .int)) (hh := [(0, 9, 12, 13)]) [(0, .ref b), (1, vI p0), (2, .ref ao)] (by decide +kernel) rfl rfl (Nat.le_of_ble_eq_true rfl) ?_
  intro κ C hkl G ch kn
  subst hkl
  have C : CX κ "LedgeLevelsLaw" "keys" cL_keys wsL_keys { frames := 8, cells := 1, slots := 6, locals := 133 } D A 4 := C
  refine x_aload_n C dL_keys_0 2 rfl ?_
  refine x_iconst C dL_keys_1 0 (by decide) ?_
  refine x_aload_n C dL_keys_2 0 rfl ?_
  refine x_iload_n C dL_keys_3 1 rfl ?_
  refine x_callVh C (n := 1) (qc := (RX7, TX7, 7)) (As := [vI p0]) (rest := [vI 0, .ref ao]) hM gL_keys_X7_keys (by decide +kernel) hb rfl rfl rfl rfl (Nat.le_of_ble_eq_true rfl) ⟨by decide, by decide⟩ ⟨(by decide), (by decide)⟩ dL_keys_4 ch kn (fun E h1 q hx => ?_) (fun rv h1 hp => ?_)
  · obtain rfl := hX E h1 hx
    refine ⟨12, tkL_keys_0, ?_⟩
    refine x_astore_n C (ls' := [(0, .ref b), (1, vI p0), (2, .ref ao)] ++ [(3, .ref q)]) dL_keys_12 (by decide) rfl ?_
    refine x_iconst C dL_keys_13 1 (by decide) ?_
    exact x_iret C G dL_keys_14 (Or.inr ⟨_, 0, hx, rfl, rfl⟩) (by decide) (by decide)
  · obtain ⟨v, rfl, ho⟩ := hP rv h1 hp
    refine x_i2l C dL_keys_7 ?_
    refine x_last C ho ⟨by decide, by decide⟩ (by decide) dL_keys_8 ?_
    refine x_goto (tgt := 15) C dL_keys_9 (by decide) ?_
    refine x_iconst C dL_keys_15 0 (by decide) ?_
    exact x_iret C G dL_keys_16 (Or.inl ⟨v, h1, hp, rfl, rfl⟩) (by decide) (by decide)

theorem kL_stepsOf_13 : Cond.classLink "LedgeLevelsLaw" 13 "java/lang/IndexOutOfBoundsException" ∈ wsL_stepsOf := by decide +kernel
theorem tkL_stepsOf_0 : Tk "LedgeLevelsLaw" wsL_stepsOf [(0, 9, 12, 13)] 4 "java/lang/IndexOutOfBoundsException" 12 := ⟨[], (⟨0, 9, 12, 13⟩ : ExceptionTableEntry), [], "java/lang/IndexOutOfBoundsException", rfl, (fun z hz => by cases hz), by decide, by decide, kL_stepsOf_13, by decide +kernel, rfl⟩
set_option maxRecDepth 100000 in
theorem c_L_stepsOf {l : Launch} {D : va_G} {A : Nat → Prop} {h : vh} {b ao : Nat} {p0 : Int} {fs : List Value} {fo : Nat → Int64} {POST : Option Value → vh → Prop} {XPOST : String → vh → Prop} (hM : TX l D A yX7_stepsOf wsX7_stepsOf { frames := 7, cells := 1, slots := 6, locals := 112 } [.ref b, vI p0] h POST XPOST) (hb : h b = some (eO 7 fs)) (hP : ∀ rv h1, POST rv h1 → ∃ v, rv = some (vI v) ∧ h1 ao = some (eJ D 1 fo)) (hX : ∀ E h1, XPOST E h1 → E = "java/lang/IndexOutOfBoundsException") : HX l D A yL_stepsOf wsL_stepsOf { frames := 8, cells := 1, slots := 6, locals := 133 } [.ref b, vI p0, .ref ao] h (HPo D ao fo POST XPOST ["java/lang/IndexOutOfBoundsException"]) := by
  refine HX.of (cc := cL_stepsOf) (maxL := 4) (ret := (some .int)) (hh := [(0, 9, 12, 13)]) [(0, .ref b), (1, vI p0), (2, .ref ao)] (by decide +kernel) rfl rfl (Nat.le_of_ble_eq_true rfl) ?_
  intro κ C hkl G ch kn
  subst hkl
  have C : CX κ "LedgeLevelsLaw" "stepsOf" cL_stepsOf wsL_stepsOf { frames := 8, cells := 1, slots := 6, locals := 133 } D A 4 := C
  refine x_aload_n C dL_stepsOf_0 2 rfl ?_
  refine x_iconst C dL_stepsOf_1 0 (by decide) ?_
  refine x_aload_n C dL_stepsOf_2 0 rfl ?_
  refine x_iload_n C dL_stepsOf_3 1 rfl ?_
  refine x_callVh C (n := 1) (qc := (RX7, TX7, 7)) (As := [vI p0]) (rest := [vI 0, .ref ao]) hM gL_stepsOf_X7_stepsOf (by decide +kernel) hb rfl rfl rfl rfl (Nat.le_of_ble_eq_true rfl) ⟨by decide, by decide⟩ ⟨(by decide), (by decide)⟩ dL_stepsOf_4 ch kn (fun E h1 q hx => ?_) (fun rv h1 hp => ?_)
  · obtain rfl := hX E h1 hx
    refine ⟨12, tkL_stepsOf_0, ?_⟩
    refine x_astore_n C (ls' := [(0, .ref b), (1, vI p0), (2, .ref ao)] ++ [(3, .ref q)]) dL_stepsOf_12 (by decide) rfl ?_
    refine x_iconst C dL_stepsOf_13 1 (by decide) ?_
    exact x_iret C G dL_stepsOf_14 (Or.inr ⟨_, 0, hx, rfl, rfl⟩) (by decide) (by decide)
  · obtain ⟨v, rfl, ho⟩ := hP rv h1 hp
    refine x_i2l C dL_stepsOf_7 ?_
    refine x_last C ho ⟨by decide, by decide⟩ (by decide) dL_stepsOf_8 ?_
    refine x_goto (tgt := 15) C dL_stepsOf_9 (by decide) ?_
    refine x_iconst C dL_stepsOf_15 0 (by decide) ?_
    exact x_iret C G dL_stepsOf_16 (Or.inl ⟨v, h1, hp, rfl, rfl⟩) (by decide) (by decide)


/-! ===== the search: how many wait (m), the queue, who was seen (by the search's number), the cells, the steps of the first win ===== -/
abbrev SS : Type := Nat × (Nat → Int) × (Nat → Int) × (Nat → Int) × Int
/-- a code is put at the end -/
def enS (n : Nat) (σ : SS) : SS := if σ.1 < 6144 then (σ.1 + 1, fu σ.2.1 σ.1 n, σ.2.2) else σ
/-- .. if it is new -/
def ewS (num : Int) (n : Nat) (σ : SS) : SS := if σ.2.2.1 n = num then σ else enS n (σ.1, σ.2.1, fu σ.2.2.1 n num, σ.2.2.2)
/-- a body is noted -/
def nbS (num k : Int) (x : Int × Int × Nat × Int) (σ : SS) : SS :=
  if x.2.2.2 = 3 then σ
  else if x.2.2.2 = 1 then ewS num (pkc x.1 x.2.1 x.2.2.1) (σ.1, σ.2.1, σ.2.2.1, fu σ.2.2.2.1 x.1.toNat 1, σ.2.2.2.2)
  else (σ.1, σ.2.1, σ.2.2.1, fu σ.2.2.2.1 x.1.toNat 1, if σ.2.2.2.2 < 0 then k else σ.2.2.2.2)
/-- the first j inputs -/
def tS (T : Int → Int × Int × Nat × Int) (num k : Int) : Nat → SS → SS
  | 0, σ => σ
  | j + 1, σ => nbS num k (T j) (tS T num k j σ)
def SSok (num : Int) (σ : SS) : Prop := σ.1 ≤ 6144 ∧ (∀ j, 0 ≤ σ.2.1 j ∧ σ.2.1 j ≤ 6143) ∧ (∀ j, 0 ≤ σ.2.2.1 j ∧ σ.2.2.1 j ≤ num) ∧ (∀ j, 0 ≤ σ.2.2.2.1 j ∧ σ.2.2.2.1 j ≤ 1) ∧ -1 ≤ σ.2.2.2.2 ∧ σ.2.2.2.2 ≤ 7000
theorem enS_ok {num : Int} {n : Nat} (hn : n < 6144) {σ : SS} (h : SSok num σ) : SSok num (enS n σ) := by
  obtain ⟨h1, h2, h3, h4, h5⟩ := h
  unfold enS
  split
  · refine ⟨by dsimp only; omega, fun j => ?_, h3, h4, h5⟩
    dsimp only; unfold fu; split
    · omega
    · exact h2 j
  · exact ⟨h1, h2, h3, h4, h5⟩
theorem ewS_ok {num : Int} (h0 : 0 ≤ num) {n : Nat} (hn : n < 6144) {σ : SS} (h : SSok num σ) : SSok num (ewS num n σ) := by
  unfold ewS
  split
  · exact h
  · obtain ⟨h1, h2, h3, h4, h5⟩ := h
    refine enS_ok hn ⟨h1, h2, fun j => ?_, h4, h5⟩
    dsimp only; unfold fu; split
    · omega
    · exact h3 j
def bOK (x : Int × Int × Nat × Int) : Prop := 0 ≤ x.1 ∧ x.1 ≤ 95 ∧ -4 ≤ x.2.1 ∧ x.2.1 ≤ 3 ∧ x.2.2.1 < 8 ∧ 0 ≤ x.2.2.2 ∧ x.2.2.2 ≤ 4
theorem pkc_r {c v : Int} {t : Nat} (hc : 0 ≤ c ∧ c ≤ 95) (hv : -4 ≤ v ∧ v ≤ 3) (ht : t < 8) : pkc c v t < 6144 := by unfold pkc; omega
theorem nbS_ok {num k : Int} (h0 : 0 ≤ num) (hk : 0 ≤ k ∧ k ≤ 7000) {x : Int × Int × Nat × Int} (hx : bOK x) {σ : SS} (h : SSok num σ) : SSok num (nbS num k x σ) := by
  obtain ⟨x1, x2, x3, x4, x5, x6, x7⟩ := hx
  unfold nbS
  split
  · exact h
  · obtain ⟨h1, h2, h3, h4, h5⟩ := h
    have hR : ∀ j, 0 ≤ fu σ.2.2.2.1 x.1.toNat 1 j ∧ fu σ.2.2.2.1 x.1.toNat 1 j ≤ 1 := fun j => by
      unfold fu; split
      · omega
      · exact h4 j
    split
    · exact ewS_ok h0 (pkc_r ⟨x1, x2⟩ ⟨x3, x4⟩ x5) ⟨h1, h2, h3, hR, h5⟩
    · refine ⟨h1, h2, h3, hR, ?_⟩
      dsimp only; split <;> omega
theorem tS_ok {T : Int → Int × Int × Nat × Int} (hT : ∀ i, bOK (T i)) {num k : Int} (h0 : 0 ≤ num) (hk : 0 ≤ k ∧ k ≤ 7000) {σ : SS} (h : SSok num σ) : ∀ j, SSok num (tS T num k j σ)
  | 0 => h
  | j + 1 => nbS_ok h0 hk (hT _) (tS_ok hT h0 hk h j)
/-- a step of the body with the code n -/
def mvn (f q : Nat → Int) (al : Nat) (S : Nat → Int) (n : Nat) (i : Int) : Int × Int × Nat × Int := mv f (kbf f q) al S i ((n / 64 : Nat) : Int) (((n / 8 % 8 : Nat) : Int) - 4) (n % 8)
theorem mvn_ok {f q : Nat → Int} {al : Nat} {S : Nat → Int} (hS : ∀ j, 0 ≤ S j ∧ S j ≤ 4) {n : Nat} (hn : n < 6144) (i : Int) : bOK (mvn f q al S n i) := mv_r (kbf_r f q) hS ⟨by omega, by omega⟩ ⟨by omega, by omega⟩ (by omega)

theorem kX5_queuedAt_0 : Cond.fieldLink "LedgeLevels$Search" 9 "LedgeLevels$Search" "queue" "[I" ∈ wsX5_queuedAt := by decide +kernel
theorem kX5_queuedAt_1 : ∀ w ∈ wsX50, w ∈ wsX5_queuedAt := by decide +kernel
set_option maxRecDepth 100000 in
set_option maxHeartbeats 1000000 in
theorem c_X5_queuedAt {l : Launch} {D : va_G} {A : Nat → Prop} {h : vh} {o sq : Nat} {x1 x2 x3 x4 x5 x6 : Value} {Qf : Nat → Int} {i : Nat} (ho : h o = some (eO 5 [x1, .ref sq, x2, x3, x4, x5, x6])) (hQ : h sq = some (eI D 6144 Qf)) (hi : i < 6144) : MX l D A yX5_queuedAt wsX5_queuedAt { frames := 0, cells := 0, slots := 0, locals := 0 } [.ref o, vI ((i : Nat) : Int)] h (fun rv h' => rv = some (vI (Qf i)) ∧ h' = h) := by
  refine MX.of (cc := cX5_queuedAt) (maxL := 2) (ret := (some .int)) [(0, .ref o), (1, vI ((i : Nat) : Int))] (by decide +kernel) rfl rfl (Nat.le_of_ble_eq_true rfl) ?_
  intro κ C hkl G
  subst hkl
  have C : CX κ "LedgeLevels$Search" "queuedAt" cX5_queuedAt wsX5_queuedAt { frames := 0, cells := 0, slots := 0, locals := 0 } D A 2 := C
  have hiz : nq (D.1 20) (D.1 21) := cx_iz C
  refine x_iload_n C dX5_queuedAt_0 1 rfl ?_
  refine x_if_lt (tgt := 22) C dX5_queuedAt_1 (by decide) (by omega) (fun c1 => ?_) (fun c1 => ?_)
  · exfalso; omega
  · skip
    refine x_iload_n C dX5_queuedAt_4 1 rfl ?_
    refine x_aload_n C dX5_queuedAt_5 0 rfl ?_
    refine x_get C (v := .ref sq) ho (T := TX5) rfl kX5_queuedAt_1 1 (by decide) kX5_queuedAt_0 rfl dX5_queuedAt_6 ?_
    refine x_alen C hQ (t0 := 0) rfl 6144 rfl dX5_queuedAt_9 ?_
    refine x_icmp_ge (tgt := 22) C dX5_queuedAt_10 (by decide) (by omega) (by omega) (fun c2 => ?_) (fun c2 => ?_)
    · exfalso; omega
    · skip
      refine x_aload_n C dX5_queuedAt_13 0 rfl ?_
      refine x_get C (v := .ref sq) ho (T := TX5) rfl kX5_queuedAt_1 1 (by decide) kX5_queuedAt_0 rfl dX5_queuedAt_14 ?_
      refine x_iload_n C dX5_queuedAt_17 1 rfl ?_
      refine x_iald C hQ ⟨by omega, by omega⟩ (by decide) dX5_queuedAt_18 ?_
      refine x_goto (tgt := 23) C dX5_queuedAt_19 (by decide) ?_
      refine x_iret C G dX5_queuedAt_23 ?_ (by decide) (by decide)
      exact ⟨rfl, rfl⟩

theorem kX5_enqueue_0 : Cond.fieldLink "LedgeLevels$Search" 26 "LedgeLevels$Search" "tail" "I" ∈ wsX5_enqueue := by decide +kernel
theorem kX5_enqueue_1 : ∀ w ∈ wsX50, w ∈ wsX5_enqueue := by decide +kernel
theorem kX5_enqueue_2 : Cond.fieldLink "LedgeLevels$Search" 9 "LedgeLevels$Search" "queue" "[I" ∈ wsX5_enqueue := by decide +kernel
set_option maxRecDepth 100000 in
set_option maxHeartbeats 1000000 in
theorem c_X5_enqueue {l : Launch} {D : va_G} {A : Nat → Prop} {h : vh} {o sq : Nat} {x1 x2 x3 x4 x5 : Value} {Qf : Nat → Int} {m n : Nat} (ho : h o = some (eO 5 [x1, .ref sq, x2, x3, x4, vI ((m : Nat) : Int), x5])) (hQ : h sq = some (eI D 6144 Qf)) (hm : m ≤ 6144) (hn : n < 6144) : MX l D A yX5_enqueue wsX5_enqueue { frames := 0, cells := 0, slots := 0, locals := 0 } [.ref o, vI ((n : Nat) : Int)] h (fun rv h' => rv = none ∧ h' = hu (hu h sq (eI D 6144 ((if m < 6144 then fu Qf m n else Qf)))) o (eO 5 [x1, .ref sq, x2, x3, x4, vI (((if m < 6144 then m + 1 else m) : Nat) : Int), x5])) := by
  refine MX.of (cc := cX5_enqueue) (maxL := 2) (ret := none) [(0, .ref o), (1, vI ((n : Nat) : Int))] (by decide +kernel) rfl rfl (Nat.le_of_ble_eq_true rfl) ?_
  intro κ C hkl G
  subst hkl
  have C : CX κ "LedgeLevels$Search" "enqueue" cX5_enqueue wsX5_enqueue { frames := 0, cells := 0, slots := 0, locals := 0 } D A 2 := C
  have hiz : nq (D.1 20) (D.1 21) := cx_iz C
  refine x_aload_n C dX5_enqueue_0 0 rfl ?_
  refine x_get C (v := vI ((m : Nat) : Int)) ho (T := TX5) rfl kX5_enqueue_1 5 (by decide) kX5_enqueue_0 rfl dX5_enqueue_1 ?_
  refine x_if_lt (tgt := 39) C dX5_enqueue_4 (by decide) (by omega) (fun c1 => ?_) (fun c1 => ?_)
  · exfalso; omega
  · skip
    refine x_aload_n C dX5_enqueue_7 0 rfl ?_
    refine x_get C (v := vI ((m : Nat) : Int)) ho (T := TX5) rfl kX5_enqueue_1 5 (by decide) kX5_enqueue_0 rfl dX5_enqueue_8 ?_
    refine x_aload_n C dX5_enqueue_11 0 rfl ?_
    refine x_get C (v := .ref sq) ho (T := TX5) rfl kX5_enqueue_1 1 (by decide) kX5_enqueue_2 rfl dX5_enqueue_12 ?_
    refine x_alen C hQ (t0 := 0) rfl 6144 rfl dX5_enqueue_15 ?_
    refine x_icmp_ge (tgt := 39) C dX5_enqueue_16 (by decide) (by omega) (by omega) (fun c2 => ?_) (fun c2 => ?_)
    · skip
      refine x_vret C G dX5_enqueue_39 ?_ (by decide) (by decide)
      first
        | (have k9 : m < 6144 := by omega
           rw [if_pos k9, if_pos k9]
           exact ⟨rfl, by rw []; rfl⟩)
        | (rw [if_neg (by omega), if_neg (by omega)]
           exact ⟨rfl, by rw [hu_i hQ, hu_i ho]⟩)
    · skip
      refine x_aload_n C dX5_enqueue_19 0 rfl ?_
      refine x_get C (v := .ref sq) ho (T := TX5) rfl kX5_enqueue_1 1 (by decide) kX5_enqueue_2 rfl dX5_enqueue_20 ?_
      refine x_aload_n C dX5_enqueue_23 0 rfl ?_
      refine x_get C (v := vI ((m : Nat) : Int)) ho (T := TX5) rfl kX5_enqueue_1 5 (by decide) kX5_enqueue_0 rfl dX5_enqueue_24 ?_
      refine x_iload_n C dX5_enqueue_27 1 rfl ?_
      refine x_iast C hQ ⟨by omega, by omega⟩ (by decide) dX5_enqueue_28 (x_hn (fun h3 e4 => ?_))
      have f5 : h3 sq = some (eI D 6144 (fu Qf (Int.toNat (((m : Nat) : Int))) (((n : Nat) : Int)))) := by rw [e4]; exact hu_s
      refine x_aload_n C dX5_enqueue_29 0 rfl ?_
      refine x_dup C dX5_enqueue_30 rfl ?_
      have n7 : nq o sq := vnt ho hQ (p := (3, 5)) (q := (0, 6144)) rfl rfl (by decide)
      have f6 : h3 o = some (eO 5 [x1, .ref sq, x2, x3, x4, vI ((m : Nat) : Int), x5]) := by rw [e4, hu_n n7]; exact ho
      refine x_get C (v := vI ((m : Nat) : Int)) f6 (T := TX5) rfl kX5_enqueue_1 5 (by decide) kX5_enqueue_0 rfl dX5_enqueue_31 ?_
      refine x_iconst C dX5_enqueue_34 1 (by decide) ?_
      refine x_iadd C dX5_enqueue_35 ?_
      refine x_put C f6 (T := TX5) rfl tyX5_ok nmX5 kX5_enqueue_1 5 (by decide) kX5_enqueue_0 rfl (fs' := [x1, .ref sq, x2, x3, x4, vI ((((m : Nat) : Int)) + 1), x5]) rfl rfl (by simp) rfl dX5_enqueue_36 (x_hn (fun h8 e9 => ?_))
      have f10 : h8 o = some (eO 5 [x1, .ref sq, x2, x3, x4, vI ((((m : Nat) : Int)) + 1), x5]) := by rw [e9]; exact hu_s
      refine x_vret C G dX5_enqueue_39 ?_ (by decide) (by decide)
      first
        | (have k9 : m < 6144 := by omega
           rw [if_pos k9, if_pos k9]
           exact ⟨rfl, by rw [e9, e4]; rfl⟩)
        | (rw [if_neg (by omega), if_neg (by omega)]
           exact ⟨rfl, by rw [hu_i hQ, hu_i ho]⟩)

theorem kX5_enqueueNew_0 : Cond.fieldLink "LedgeLevels$Search" 15 "LedgeLevels$Search" "seenIn" "[I" ∈ wsX5_enqueueNew := by decide +kernel
theorem kX5_enqueueNew_1 : ∀ w ∈ wsX50, w ∈ wsX5_enqueueNew := by decide +kernel
theorem kX5_enqueueNew_2 : Cond.fieldLink "LedgeLevels$Search" 22 "LedgeLevels$Search" "number" "I" ∈ wsX5_enqueueNew := by decide +kernel
set_option maxRecDepth 100000 in
set_option maxHeartbeats 1000000 in
theorem c_X5_enqueueNew {l : Launch} {D : va_G} {A : Nat → Prop} {h : vh} {o sb sq sn sr : Nat} {Qf Nf : Nat → Int} {num : Int} {w : Value} {m n : Nat} (ho : h o = some (eO 5 [.ref sb, .ref sq, .ref sn, .ref sr, vI num, vI ((m : Nat) : Int), w])) (hQ : h sq = some (eI D 6144 Qf)) (hN : h sn = some (eI D 6144 Nf)) (hm : m ≤ 6144) (rN : ∀ j, 0 ≤ Nf j ∧ Nf j ≤ num) (hnum : 1 ≤ num ∧ num ≤ 1000000) (hn : n < 6144) (n1 : nq sq sn) : MX l D A yX5_enqueueNew wsX5_enqueueNew { frames := 1, cells := 0, slots := 0, locals := 21 } [.ref o, vI ((n : Nat) : Int)] h (fun rv h' => rv = none ∧ h' = hu (hu (hu h sn (eI D 6144 (if Nf n = num then Nf else fu Nf n num))) sq (eI D 6144 (if Nf n = num then Qf else if m < 6144 then fu Qf m n else Qf))) o (eO 5 [.ref sb, .ref sq, .ref sn, .ref sr, vI num, vI ((if Nf n = num then m else if m < 6144 then m + 1 else m : Nat) : Int), w])) := by
  refine MX.of (cc := cX5_enqueueNew) (maxL := 2) (ret := none) [(0, .ref o), (1, vI ((n : Nat) : Int))] (by decide +kernel) rfl rfl (Nat.le_of_ble_eq_true rfl) ?_
  intro κ C hkl G
  subst hkl
  have C : CX κ "LedgeLevels$Search" "enqueueNew" cX5_enqueueNew wsX5_enqueueNew { frames := 1, cells := 0, slots := 0, locals := 21 } D A 2 := C
  have hiz : nq (D.1 20) (D.1 21) := cx_iz C
  refine x_iload_n C dX5_enqueueNew_0 1 rfl ?_
  refine x_if_lt (tgt := 41) C dX5_enqueueNew_1 (by decide) (by omega) (fun c1 => ?_) (fun c1 => ?_)
  · exfalso; omega
  · skip
    refine x_iload_n C dX5_enqueueNew_4 1 rfl ?_
    refine x_aload_n C dX5_enqueueNew_5 0 rfl ?_
    refine x_get C (v := .ref sn) ho (T := TX5) rfl kX5_enqueueNew_1 2 (by decide) kX5_enqueueNew_0 rfl dX5_enqueueNew_6 ?_
    refine x_alen C hN (t0 := 0) rfl 6144 rfl dX5_enqueueNew_9 ?_
    refine x_icmp_ge (tgt := 41) C dX5_enqueueNew_10 (by decide) (by omega) (by omega) (fun c2 => ?_) (fun c2 => ?_)
    · exfalso; omega
    · skip
      refine x_aload_n C dX5_enqueueNew_13 0 rfl ?_
      refine x_get C (v := .ref sn) ho (T := TX5) rfl kX5_enqueueNew_1 2 (by decide) kX5_enqueueNew_0 rfl dX5_enqueueNew_14 ?_
      refine x_iload_n C dX5_enqueueNew_17 1 rfl ?_
      refine x_iald C hN ⟨by omega, by omega⟩ (by decide) dX5_enqueueNew_18 ?_
      have r3 := rN (Int.toNat (((n : Nat) : Int)))
      refine x_aload_n C dX5_enqueueNew_19 0 rfl ?_
      refine x_get C (v := vI num) ho (T := TX5) rfl kX5_enqueueNew_1 4 (by decide) kX5_enqueueNew_2 rfl dX5_enqueueNew_20 ?_
      refine x_icmp_eq (tgt := 41) C dX5_enqueueNew_23 (by decide) (by omega) (by omega) (fun c4 => ?_) (fun c4 => ?_)
      · skip
        refine x_vret C G dX5_enqueueNew_41 ?_ (by decide) (by decide)
        first
          | (have k9 : Nf n = num := by assumption
             rw [if_pos k9, if_pos k9, if_pos k9]
             exact ⟨rfl, by rw [hu_i hN, hu_i hQ, hu_i ho]⟩)
          | (have k9 : ¬ Nf n = num := by assumption
             rw [if_neg k9, if_neg k9, if_neg k9]
             exact ⟨rfl, by rw []; rfl⟩)
      · skip
        refine x_aload_n C dX5_enqueueNew_26 0 rfl ?_
        refine x_get C (v := .ref sn) ho (T := TX5) rfl kX5_enqueueNew_1 2 (by decide) kX5_enqueueNew_0 rfl dX5_enqueueNew_27 ?_
        refine x_iload_n C dX5_enqueueNew_30 1 rfl ?_
        refine x_aload_n C dX5_enqueueNew_31 0 rfl ?_
        refine x_get C (v := vI num) ho (T := TX5) rfl kX5_enqueueNew_1 4 (by decide) kX5_enqueueNew_2 rfl dX5_enqueueNew_32 ?_
        refine x_iast C hN ⟨by omega, by omega⟩ (by decide) dX5_enqueueNew_35 (x_hn (fun h5 e6 => ?_))
        have f7 : h5 sn = some (eI D 6144 (fu Nf (Int.toNat (((n : Nat) : Int))) num)) := by rw [e6]; exact hu_s
        refine x_aload_n C dX5_enqueueNew_36 0 rfl ?_
        refine x_iload_n C dX5_enqueueNew_37 1 rfl ?_
        have n9 : nq o sn := vnt ho hN (p := (3, 5)) (q := (0, 6144)) rfl rfl (by decide)
        have f8 : h5 o = some (eO 5 [.ref sb, .ref sq, .ref sn, .ref sr, vI num, vI ((m : Nat) : Int), w]) := by rw [e6, hu_n n9]; exact ho
        have f10 : h5 sq = some (eI D 6144 Qf) := by rw [e6, hu_n n1]; exact hQ
        refine x_callV C (n := 1) (qc := (RX5, TX5, 7)) (As := [vI ((n : Nat) : Int)]) (rest := []) (c_X5_enqueue f8 f10 (by omega) (by omega)) gX5_enqueueNew_X5_enqueue (by decide +kernel) f8 rfl rfl rfl rfl (Nat.le_of_ble_eq_true rfl) ⟨by decide, by decide⟩ ⟨by decide, by decide⟩ dX5_enqueueNew_38 (fun rv11 h12 hp13 => ?_)
        obtain ⟨rfl, e14⟩ := hp13
        have f15 : h12 o = some (eO 5 [.ref sb, .ref sq, .ref sn, .ref sr, vI num, vI (((if m < 6144 then m + 1 else m) : Nat) : Int), w]) := by rw [e14]; exact hu_s
        have n17 : nq sq o := vnt f10 f8 (p := (0, 6144)) (q := (3, 5)) rfl rfl (by decide)
        have f16 : h12 sq = some (eI D 6144 ((if m < 6144 then fu Qf m n else Qf))) := by rw [e14, hu_n n17]; exact hu_s
        refine x_vret C G dX5_enqueueNew_41 ?_ (by decide) (by decide)
        first
          | (have k9 : Nf n = num := by assumption
             rw [if_pos k9, if_pos k9, if_pos k9]
             exact ⟨rfl, by rw [hu_i hN, hu_i hQ, hu_i ho]⟩)
          | (have k9 : ¬ Nf n = num := by assumption
             rw [if_neg k9, if_neg k9, if_neg k9]
             exact ⟨rfl, by rw [e14, e6]; rfl⟩)

theorem kX5_noteBody_0 : Cond.fieldLink "LedgeLevels$Search" 37 "LedgeLevels$Search" "body" "LLedgeLevels$Body;" ∈ wsX5_noteBody := by decide +kernel
theorem kX5_noteBody_1 : ∀ w ∈ wsX50, w ∈ wsX5_noteBody := by decide +kernel
theorem kX5_noteBody_2 : Cond.fieldLinkNest "LedgeLevels$Search" 70 "LedgeLevels$Body" "fate" "I" "LedgeLevels" ∈ nwAll := by decide +kernel
theorem kX5_noteBody_3 : ∀ w ∈ wsX00, w ∈ wsX5_noteBody := by decide +kernel
theorem kX5_noteBody_4 : Cond.fieldLinkNest "LedgeLevels$Search" 73 "LedgeLevels$Body" "cell" "I" "LedgeLevels" ∈ nwAll := by decide +kernel
theorem kX5_noteBody_5 : Cond.initialized "LedgeLevels" ∈ wsX5_noteBody := by decide +kernel
theorem kX5_noteBody_6 : Cond.static yX7_isCell ∈ wsX5_noteBody := by decide +kernel
theorem kX5_noteBody_7 : Cond.methodLinkNest "LedgeLevels$Search" 76 yX7_isCell "LedgeLevels" ∈ nwAll := by decide +kernel
theorem kX5_noteBody_8 : Cond.fieldLink "LedgeLevels$Search" 18 "LedgeLevels$Search" "reached" "[Z" ∈ wsX5_noteBody := by decide +kernel
theorem kX5_noteBody_9 : Cond.fieldLink "LedgeLevels$Search" 29 "LedgeLevels$Search" "won" "I" ∈ wsX5_noteBody := by decide +kernel
set_option maxRecDepth 100000 in
set_option maxHeartbeats 1000000 in
theorem c_X5_noteBody {l : Launch} {D : va_G} {A : Nat → Prop} {h : vh} {o sb sq sn sr : Nat} {Qf Nf Rz : Nat → Int} {num w : Int} {m t : Nat} {x1 : Value} {c v s k : Int} (ho : h o = some (eO 5 [.ref sb, .ref sq, .ref sn, .ref sr, vI num, vI ((m : Nat) : Int), vI w])) (hQ : h sq = some (eI D 6144 Qf)) (hN : h sn = some (eI D 6144 Nf)) (hR : h sr = some (eZ D 96 Rz)) (hb : h sb = some (eO 0 [x1, vI c, vI v, vI ((t : Nat) : Int), vI s])) (hbo : bOK (c, v, t, s)) (hok : SSok num (m, Qf, Nf, Rz, w)) (hnum : 1 ≤ num ∧ num ≤ 1000000) (hk : 0 ≤ k ∧ k ≤ 7000) (n1 : nq sq sn) : MX l D A yX5_noteBody wsX5_noteBody { frames := 2, cells := 0, slots := 0, locals := 42 } [.ref o, vI k] h (fun rv h' => rv = none ∧ h' = hu (hu (hu (hu h sr (eZ D 96 ((nbS num k (c, v, t, s) (m, Qf, Nf, Rz, w)).2.2.2.1))) sn (eI D 6144 ((nbS num k (c, v, t, s) (m, Qf, Nf, Rz, w)).2.2.1))) sq (eI D 6144 ((nbS num k (c, v, t, s) (m, Qf, Nf, Rz, w)).2.1))) o (eO 5 [.ref sb, .ref sq, .ref sn, .ref sr, vI num, vI (((nbS num k (c, v, t, s) (m, Qf, Nf, Rz, w)).1 : Nat) : Int), vI ((nbS num k (c, v, t, s) (m, Qf, Nf, Rz, w)).2.2.2.2)])) := by
  refine MX.of (cc := cX5_noteBody) (maxL := 2) (ret := none) [(0, .ref o), (1, vI k)] (by decide +kernel) rfl rfl (Nat.le_of_ble_eq_true rfl) ?_
  intro κ C hkl G
  subst hkl
  have C : CX κ "LedgeLevels$Search" "noteBody" cX5_noteBody wsX5_noteBody { frames := 2, cells := 0, slots := 0, locals := 42 } D A 2 := C
  have hiz : nq (D.1 20) (D.1 21) := cx_iz C
  obtain ⟨k1, k2, k3, k4, k5⟩ := id hok
  dsimp only at k1 k2 k3 k4 k5
  obtain ⟨b1, b2, b3, b4, b5, b6, b7⟩ := id hbo
  dsimp only at b1 b2 b3 b4 b5 b6 b7
  have hpk := pkc_r ⟨b1, b2⟩ ⟨b3, b4⟩ b5
  have hbI : bI (0 ≤ c ∧ c < 96) = 1 := bI_t ⟨by omega, by omega⟩
  have nn_o_sq : nq o sq := vnt ho hQ (p := (3, 5)) (q := (0, 6144)) rfl rfl (by decide)
  have nn_sq_o : nq sq o := Ne.symm nn_o_sq
  have nn_o_sn : nq o sn := vnt ho hN (p := (3, 5)) (q := (0, 6144)) rfl rfl (by decide)
  have nn_sn_o : nq sn o := Ne.symm nn_o_sn
  have nn_o_sr : nq o sr := vnt ho hR (p := (3, 5)) (q := (0, 96)) rfl rfl (by decide)
  have nn_sr_o : nq sr o := Ne.symm nn_o_sr
  have nn_sq_sr : nq sq sr := vnt hQ hR (p := (0, 6144)) (q := (0, 96)) rfl rfl (by decide)
  have nn_sr_sq : nq sr sq := Ne.symm nn_sq_sr
  have nn_sn_sr : nq sn sr := vnt hN hR (p := (0, 6144)) (q := (0, 96)) rfl rfl (by decide)
  have nn_sr_sn : nq sr sn := Ne.symm nn_sn_sr
  refine x_aload_n C dX5_noteBody_0 0 rfl ?_
  refine x_get C (v := .ref sb) ho (T := TX5) rfl kX5_noteBody_1 0 (by decide) kX5_noteBody_0 rfl dX5_noteBody_1 ?_
  refine x_getN (host := "LedgeLevels") C (v := vI s) hb (T := TX0) rfl kX5_noteBody_3 4 (by decide) kX5_noteBody_2 rfl dX5_noteBody_4 ?_
  refine x_iconst C dX5_noteBody_7 3 (by decide) ?_
  refine x_icmp_eq (tgt := 24) C dX5_noteBody_8 (by decide) (by omega) (by omega) (fun c1 => ?_) (fun c1 => ?_)
  · skip
    refine x_vret C G dX5_noteBody_24 ?_ (by decide) (by decide)
    rw [show nbS num k (c, v, t, s) (m, Qf, Nf, Rz, w) = (m, Qf, Nf, Rz, w) from by unfold nbS; rw [if_pos (by assumption)]]
    exact ⟨rfl, by dsimp only; rw [hu_i hR, hu_i hN, hu_i hQ, hu_i ho]⟩
  · skip
    refine x_aload_n C dX5_noteBody_11 0 rfl ?_
    refine x_get C (v := .ref sb) ho (T := TX5) rfl kX5_noteBody_1 0 (by decide) kX5_noteBody_0 rfl dX5_noteBody_12 ?_
    refine x_getN (host := "LedgeLevels") C (v := vI c) hb (T := TX0) rfl kX5_noteBody_3 1 (by decide) kX5_noteBody_4 rfl dX5_noteBody_15 ?_
    refine x_callSN C (n := 1) (As := [vI c]) (rest := []) (c_X7_isCell (by omega)) gX5_noteBody_X7_isCell_n76 kX5_noteBody_7 kX5_noteBody_5 kX5_noteBody_6 (by decide +kernel) rfl rfl rfl (Nat.le_of_ble_eq_true rfl) ⟨by decide, by decide⟩ ⟨by decide, by decide⟩ dX5_noteBody_18 (fun rv2 h3 hp4 => ?_)
    obtain ⟨rfl, e5⟩ := hp4
    obtain rfl := e5.symm
    refine x_if_ne (tgt := 25) C dX5_noteBody_21 (by decide) (by omega) (fun c6 => ?_) (fun c6 => ?_)
    · skip
      refine x_aload_n C dX5_noteBody_25 0 rfl ?_
      refine x_get C (v := .ref sr) ho (T := TX5) rfl kX5_noteBody_1 3 (by decide) kX5_noteBody_8 rfl dX5_noteBody_26 ?_
      refine x_aload_n C dX5_noteBody_29 0 rfl ?_
      refine x_get C (v := .ref sb) ho (T := TX5) rfl kX5_noteBody_1 0 (by decide) kX5_noteBody_0 rfl dX5_noteBody_30 ?_
      refine x_getN (host := "LedgeLevels") C (v := vI c) hb (T := TX0) rfl kX5_noteBody_3 1 (by decide) kX5_noteBody_4 rfl dX5_noteBody_33 ?_
      refine x_iconst C dX5_noteBody_36 1 (by decide) ?_
      refine x_zast C hR ⟨by omega, by omega⟩ (by decide) (by omega) dX5_noteBody_37 (x_hn (fun h7 e8 => ?_))
      have f9 : h7 sr = some (eZ D 96 (fu Rz (Int.toNat c) 1)) := by rw [e8]; exact hu_s
      refine x_aload_n C dX5_noteBody_38 0 rfl ?_
      have n11 : nq o sr := vnt ho hR (p := (3, 5)) (q := (0, 96)) rfl rfl (by decide)
      have f10 : h7 o = some (eO 5 [.ref sb, .ref sq, .ref sn, .ref sr, vI num, vI ((m : Nat) : Int), vI w]) := by rw [e8, hu_n n11]; exact ho
      refine x_get C (v := .ref sb) f10 (T := TX5) rfl kX5_noteBody_1 0 (by decide) kX5_noteBody_0 rfl dX5_noteBody_39 ?_
      have n13 : nq sb sr := vnt hb hR (p := (3, 0)) (q := (0, 96)) rfl rfl (by decide)
      have f12 : h7 sb = some (eO 0 [x1, vI c, vI v, vI ((t : Nat) : Int), vI s]) := by rw [e8, hu_n n13]; exact hb
      refine x_getN (host := "LedgeLevels") C (v := vI s) f12 (T := TX0) rfl kX5_noteBody_3 4 (by decide) kX5_noteBody_2 rfl dX5_noteBody_42 ?_
      refine x_iconst C dX5_noteBody_45 1 (by decide) ?_
      refine x_icmp_ne (tgt := 63) C dX5_noteBody_46 (by decide) (by omega) (by omega) (fun c14 => ?_) (fun c14 => ?_)
      · skip
        refine x_aload_n C dX5_noteBody_63 0 rfl ?_
        refine x_get C (v := vI w) f10 (T := TX5) rfl kX5_noteBody_1 6 (by decide) kX5_noteBody_9 rfl dX5_noteBody_64 ?_
        refine x_if_ge (tgt := 75) C dX5_noteBody_67 (by decide) (by omega) (fun c15 => ?_) (fun c15 => ?_)
        · skip
          refine x_vret C G dX5_noteBody_75 ?_ (by decide) (by decide)
          have y3 : ¬ s = 3 := by assumption
          first
            | (have y1 : s = 1 := by assumption
               rw [show nbS num k (c, v, t, s) (m, Qf, Nf, Rz, w) = ewS num (pkc c v t) (m, Qf, Nf, fu Rz c.toNat 1, w) from by unfold nbS; rw [if_neg y3, if_pos y1]]
               refine ⟨rfl, ?_⟩
               rw [e8]
               unfold ewS enS
               dsimp only
               split
               · rfl
               · split <;> rfl)
            | (have y1 : ¬ s = 1 := by assumption
               rw [show nbS num k (c, v, t, s) (m, Qf, Nf, Rz, w) = (m, Qf, Nf, fu Rz c.toNat 1, if w < 0 then k else w) from by unfold nbS; rw [if_neg y3, if_neg y1]]
               refine ⟨rfl, ?_⟩
               dsimp only
               first
                 | (rw [if_pos (show w < 0 by omega)]
                    have z1 := hu_i (h := hu h sr (eZ D 96 (fu Rz c.toNat 1))) (a := sn) (e := eI D 6144 Nf) (by rw [hu_n nn_sn_sr]; exact hN)
                    have z2 := hu_i (h := hu h sr (eZ D 96 (fu Rz c.toNat 1))) (a := sq) (e := eI D 6144 Qf) (by rw [hu_n nn_sq_sr]; exact hQ)
                    rw [z1, z2, e8])
                 | (rw [if_neg (show ¬ w < 0 by omega)]
                    have z1 := hu_i (h := hu h sr (eZ D 96 (fu Rz c.toNat 1))) (a := sn) (e := eI D 6144 Nf) (by rw [hu_n nn_sn_sr]; exact hN)
                    have z2 := hu_i (h := hu h sr (eZ D 96 (fu Rz c.toNat 1))) (a := sq) (e := eI D 6144 Qf) (by rw [hu_n nn_sq_sr]; exact hQ)
                    have z3 := hu_i (h := hu h sr (eZ D 96 (fu Rz c.toNat 1))) (a := o) (by rw [hu_n nn_o_sr]; exact ho)
                    rw [z1, z2, z3, e8]))
        · skip
          refine x_aload_n C dX5_noteBody_70 0 rfl ?_
          refine x_iload_n C dX5_noteBody_71 1 rfl ?_
          refine x_put C f10 (T := TX5) rfl tyX5_ok nmX5 kX5_noteBody_1 6 (by decide) kX5_noteBody_9 rfl (fs' := [.ref sb, .ref sq, .ref sn, .ref sr, vI num, vI ((m : Nat) : Int), vI k]) rfl rfl (by simp) rfl dX5_noteBody_72 (x_hn (fun h16 e17 => ?_))
          have f18 : h16 o = some (eO 5 [.ref sb, .ref sq, .ref sn, .ref sr, vI num, vI ((m : Nat) : Int), vI k]) := by rw [e17]; exact hu_s
          refine x_vret C G dX5_noteBody_75 ?_ (by decide) (by decide)
          have y3 : ¬ s = 3 := by assumption
          first
            | (have y1 : s = 1 := by assumption
               rw [show nbS num k (c, v, t, s) (m, Qf, Nf, Rz, w) = ewS num (pkc c v t) (m, Qf, Nf, fu Rz c.toNat 1, w) from by unfold nbS; rw [if_neg y3, if_pos y1]]
               refine ⟨rfl, ?_⟩
               rw [e17, e8]
               unfold ewS enS
               dsimp only
               split
               · rfl
               · split <;> rfl)
            | (have y1 : ¬ s = 1 := by assumption
               rw [show nbS num k (c, v, t, s) (m, Qf, Nf, Rz, w) = (m, Qf, Nf, fu Rz c.toNat 1, if w < 0 then k else w) from by unfold nbS; rw [if_neg y3, if_neg y1]]
               refine ⟨rfl, ?_⟩
               dsimp only
               first
                 | (rw [if_pos (show w < 0 by omega)]
                    have z1 := hu_i (h := hu h sr (eZ D 96 (fu Rz c.toNat 1))) (a := sn) (e := eI D 6144 Nf) (by rw [hu_n nn_sn_sr]; exact hN)
                    have z2 := hu_i (h := hu h sr (eZ D 96 (fu Rz c.toNat 1))) (a := sq) (e := eI D 6144 Qf) (by rw [hu_n nn_sq_sr]; exact hQ)
                    rw [z1, z2, e17, e8])
                 | (rw [if_neg (show ¬ w < 0 by omega)]
                    have z1 := hu_i (h := hu h sr (eZ D 96 (fu Rz c.toNat 1))) (a := sn) (e := eI D 6144 Nf) (by rw [hu_n nn_sn_sr]; exact hN)
                    have z2 := hu_i (h := hu h sr (eZ D 96 (fu Rz c.toNat 1))) (a := sq) (e := eI D 6144 Qf) (by rw [hu_n nn_sq_sr]; exact hQ)
                    have z3 := hu_i (h := hu h sr (eZ D 96 (fu Rz c.toNat 1))) (a := o) (by rw [hu_n nn_o_sr]; exact ho)
                    rw [z1, z2, z3, e17, e8]))
      · skip
        refine x_aload_n C dX5_noteBody_49 0 rfl ?_
        refine x_aload_n C dX5_noteBody_50 0 rfl ?_
        refine x_get C (v := .ref sb) f10 (T := TX5) rfl kX5_noteBody_1 0 (by decide) kX5_noteBody_0 rfl dX5_noteBody_51 ?_
        refine x_callV C (n := 0) (qc := (RX0, TX0, 5)) (As := []) (rest := [.ref o]) (c_X0_packed f12 (by omega) (by omega) (by omega)) gX5_noteBody_X0_packed (by decide +kernel) f12 rfl rfl rfl rfl (Nat.le_of_ble_eq_true rfl) ⟨by decide, by decide⟩ ⟨by decide, by decide⟩ dX5_noteBody_54 (fun rv19 h20 hp21 => ?_)
        obtain ⟨rfl, e22⟩ := hp21
        obtain rfl := e22.symm
        have n24 : nq sq sr := vnt hQ hR (p := (0, 6144)) (q := (0, 96)) rfl rfl (by decide)
        have f23 : h7 sq = some (eI D 6144 Qf) := by rw [e8, hu_n n24]; exact hQ
        have n26 : nq sn sr := vnt hN hR (p := (0, 6144)) (q := (0, 96)) rfl rfl (by decide)
        have f25 : h7 sn = some (eI D 6144 Nf) := by rw [e8, hu_n n26]; exact hN
        refine x_callV C (n := 1) (qc := (RX5, TX5, 7)) (As := [vI ((pkc c v t : Nat) : Int)]) (rest := []) (c_X5_enqueueNew f10 f23 f25 (by omega) (by omega) (by omega) (by omega) (by assumption)) gX5_noteBody_X5_enqueueNew (by decide +kernel) f10 rfl rfl rfl rfl (Nat.le_of_ble_eq_true rfl) ⟨by decide, by decide⟩ ⟨by decide, by decide⟩ dX5_noteBody_57 (fun rv27 h28 hp29 => ?_)
        obtain ⟨rfl, e30⟩ := hp29
        have f31 : h28 o = some (eO 5 [.ref sb, .ref sq, .ref sn, .ref sr, vI num, vI ((if Nf (pkc c v t) = num then m else if m < 6144 then m + 1 else m : Nat) : Int), vI w]) := by rw [e30]; exact hu_s
        have n33 : nq sq o := vnt f23 f10 (p := (0, 6144)) (q := (3, 5)) rfl rfl (by decide)
        have f32 : h28 sq = some (eI D 6144 (if Nf (pkc c v t) = num then Qf else if m < 6144 then fu Qf m (pkc c v t) else Qf)) := by rw [e30, hu_n n33]; exact hu_s
        have n35 : nq sn o := vnt f25 f10 (p := (0, 6144)) (q := (3, 5)) rfl rfl (by decide)
        have f34 : h28 sn = some (eI D 6144 (if Nf (pkc c v t) = num then Nf else fu Nf (pkc c v t) num)) := by rw [e30, hu_n n35, hu_n (Ne.symm n1)]; exact hu_s
        refine x_goto (tgt := 75) C dX5_noteBody_60 (by decide) ?_
        refine x_vret C G dX5_noteBody_75 ?_ (by decide) (by decide)
        have y3 : ¬ s = 3 := by assumption
        first
          | (have y1 : s = 1 := by assumption
             rw [show nbS num k (c, v, t, s) (m, Qf, Nf, Rz, w) = ewS num (pkc c v t) (m, Qf, Nf, fu Rz c.toNat 1, w) from by unfold nbS; rw [if_neg y3, if_pos y1]]
             refine ⟨rfl, ?_⟩
             rw [e30, e8]
             unfold ewS enS
             dsimp only
             split
             · rfl
             · split <;> rfl)
          | (have y1 : ¬ s = 1 := by assumption
             rw [show nbS num k (c, v, t, s) (m, Qf, Nf, Rz, w) = (m, Qf, Nf, fu Rz c.toNat 1, if w < 0 then k else w) from by unfold nbS; rw [if_neg y3, if_neg y1]]
             refine ⟨rfl, ?_⟩
             dsimp only
             first
               | (rw [if_pos (show w < 0 by omega)]
                  have z1 := hu_i (h := hu h sr (eZ D 96 (fu Rz c.toNat 1))) (a := sn) (e := eI D 6144 Nf) (by rw [hu_n nn_sn_sr]; exact hN)
                  have z2 := hu_i (h := hu h sr (eZ D 96 (fu Rz c.toNat 1))) (a := sq) (e := eI D 6144 Qf) (by rw [hu_n nn_sq_sr]; exact hQ)
                  rw [z1, z2, e30, e8])
               | (rw [if_neg (show ¬ w < 0 by omega)]
                  have z1 := hu_i (h := hu h sr (eZ D 96 (fu Rz c.toNat 1))) (a := sn) (e := eI D 6144 Nf) (by rw [hu_n nn_sn_sr]; exact hN)
                  have z2 := hu_i (h := hu h sr (eZ D 96 (fu Rz c.toNat 1))) (a := sq) (e := eI D 6144 Qf) (by rw [hu_n nn_sq_sr]; exact hQ)
                  have z3 := hu_i (h := hu h sr (eZ D 96 (fu Rz c.toNat 1))) (a := o) (by rw [hu_n nn_o_sr]; exact ho)
                  rw [z1, z2, z3, e30, e8]))
    · exfalso; omega


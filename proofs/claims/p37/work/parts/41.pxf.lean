theorem bI_cs (p : Prop) : (bI p = 1 ∧ p) ∨ (bI p = 0 ∧ ¬ p) := by
  by_cases h : p
  · exact Or.inl ⟨bI_t h, h⟩
  · exact Or.inr ⟨bI_f h, h⟩
/-- the lasting numbers are the same -/
def GK (m : CS) : Prop := (∀ j, 0 ≤ m 28 0 j ∧ m 28 0 j ≤ 8) ∧ ∀ j, 0 ≤ m 29 0 j ∧ m 29 0 j ≤ 7
def SM (m m' : CS) : Prop := (∀ k i, 1 ≤ k → k < 28 → m' k i = m k i) ∧ m' 0 0 2 = m 0 0 2 ∧ m' 0 0 14 = m 0 0 14 ∧ (GK m → GK m')
theorem SM.rf {m : CS} : SM m m := ⟨fun _ _ _ _ => rfl, rfl, rfl, id⟩
theorem SM.tr {a b c : CS} (h : SM a b) (g : SM b c) : SM a c := ⟨fun k i h1 h2 => (g.1 k i h1 h2).trans (h.1 k i h1 h2), g.2.1.trans h.2.1, g.2.2.1.trans h.2.2.1, fun z => g.2.2.2 (h.2.2.2 z)⟩
theorem GK.cu {b : CS} {k i : Nat} {f : Nat → Int} (n : ¬ (28 = k ∧ 0 = i)) (n2 : ¬ (29 = k ∧ 0 = i)) : GK (cu b k i f) ↔ GK b := by
  unfold GK
  rw [cu_n n, cu_n n2]
theorem SM.ob {a b : CS} {f : Nat → Int} (h : SM a b) (h2 : f 2 = b 0 0 2) (h14 : f 14 = b 0 0 14) : SM a (cu b 0 0 f) :=
  ⟨fun k i h1 h3 => (cu_n (fun z => by omega)).trans (h.1 k i h1 h3), (congrFun cu_s 2).trans (h2.trans h.2.1), (congrFun cu_s 14).trans (h14.trans h.2.2.1), fun z => (GK.cu (by omega) (by omega)).mpr (h.2.2.2 z)⟩
theorem SM.th {a b : CS} {e : Int} (h : SM a b) : SM a (cu b 0 0 (fu (b 0 0) 0 e)) := h.ob rfl rfl
theorem SM.bm {a b : CS} {c v : Int} {t : Nat} {s : Int} (h : SM a b) : SM a (bM b c v t s) := h.ob rfl rfl
theorem SM.mv {a b : CS} {x : Int × Int × Nat × Int} (h : SM a b) : SM a (mvM b x) := h.bm
theorem SM.tm {a b : CS} {k : Nat} {f : Nat → Int} (hk : 30 ≤ k) (h : SM a b) : SM a (cu b k 0 f) :=
  ⟨fun k' i h1 h3 => (cu_n (fun z => by omega)).trans (h.1 k' i h1 h3), (congrFun (cu_n (fun z => by omega)) 2).trans h.2.1, (congrFun (cu_n (fun z => by omega)) 14).trans h.2.2.1, fun z => (GK.cu (by omega) (by omega)).mpr (h.2.2.2 z)⟩
theorem SM.st {a b : CS} {z : Int} (h : SM a b) : SM a (stM b z) := by rw [stM_b]; exact h.bm
theorem SM.sr {a b : CS} {c v : Int} {t : Nat} {s : Int} {Q F R : Nat → Int} (h : SM a b) : SM a (srM b c v t s Q F R) := SM.tm (by decide) (SM.tm (by decide) (SM.tm (by decide) h.bm))
theorem lyG_r {src g : Nat → Int} (hs : ∀ j, 0 ≤ src j ∧ src j ≤ 8) (hg : ∀ j, 0 ≤ g j ∧ g j ≤ 8) (n : Nat) : ∀ j, 0 ≤ lyG src g n j ∧ lyG src g n j ≤ 8 := fun j => by
  unfold lyG; split
  · exact hs j
  · exact hg j
theorem lyB_r {src b : Nat → Int} (hA : lyA src 96 ≤ 7) (hg : ∀ j, 0 ≤ b j ∧ b j ≤ 7) : ∀ j, 0 ≤ lyB src b 96 j ∧ lyB src b 96 j ≤ 7 := fun j => by
  unfold lyB
  split
  · rename_i hj
    split
    · rename_i h2
      have h3 := lyA_m (src := src) (show j + 1 ≤ 96 by omega)
      have h4 : lyA src (j + 1) = lyA src j + (if src j = 2 then lyA src j + 1 else 0) := rfl
      rw [if_pos h2] at h4
      omega
    · omega
  · exact hg j
theorem GK.ly {b : CS} {src : Nat → Int} (hs : ∀ j, 0 ≤ src j ∧ src j ≤ 8) (hA : lyA src 96 ≤ 7) (h : GK b) : GK (layN b src 96) := ⟨lyG_r hs h.1 96, lyB_r hA h.2⟩
theorem SM.ly {a b : CS} {src : Nat → Int} (hs : ∀ j, 0 ≤ src j ∧ src j ≤ 8) (hA : lyA src 96 ≤ 7) (h : SM a b) : SM a (layN b src 96) := by
  refine ⟨fun k i h1 h2 => ?_, h.2.1, h.2.2.1, fun z => GK.ly hs hA (h.2.2.2 z)⟩
  unfold layN
  rw [cu_n (fun z => by omega), cu_n (fun z => by omega), cu_n (fun z => by omega)]
  exact h.1 k i h1 h2
theorem cuD {c : CS} {k i : Nat} {f : Nat → Int} {k' i' : Nat} : cu c k i f k' i' = if k' = k ∧ i' = i then f else c k' i' := rfl
theorem SM.up {a b : CS} {k i : Nat} {f : Nat → Int} (hk : 1 ≤ k ∧ k < 28) (h : SM a b) : SM (cu a k i f) (cu b k i f) := by
  have e0 : ¬ (0 = k ∧ 0 = i) := fun z => by omega
  refine ⟨fun k' i' h1 h2 => ?_, by simp only [cuD, if_neg e0]; exact h.2.1, by simp only [cuD, if_neg e0]; exact h.2.2.1, fun z => (GK.cu (by omega) (by omega)).mpr (h.2.2.2 ((GK.cu (by omega) (by omega)).mp z))⟩
  by_cases q : k' = k ∧ i' = i
  · simp only [cuD, if_pos q]
  · simp only [cuD, if_neg q]; exact h.1 k' i' h1 h2

theorem SM.o2 {a b : CS} {v : Int} (h : SM a b) : SM (cu a 0 0 (fu (a 0 0) 2 v)) (cu b 0 0 (fu (b 0 0) 2 v)) := by
  refine ⟨fun k i h1 h2 => ?_, rfl, h.2.2.1, fun z => (GK.cu (by omega) (by omega)).mpr (h.2.2.2 ((GK.cu (by omega) (by omega)).mp z))⟩
  rw [cu_n (fun z => by omega), cu_n (fun z => by omega)]; exact h.1 k i h1 h2
theorem SM.o14 {a b : CS} {v : Int} (h : SM a b) : SM (cu a 0 0 (fu (a 0 0) 14 v)) (cu b 0 0 (fu (b 0 0) 14 v)) := by
  refine ⟨fun k i h1 h2 => ?_, h.2.1, rfl, fun z => (GK.cu (by omega) (by omega)).mpr (h.2.2.2 ((GK.cu (by omega) (by omega)).mp z))⟩
  rw [cu_n (fun z => by omega), cu_n (fun z => by omega)]; exact h.1 k i h1 h2


/-! ===== both systems over one heap ===== -/
def Ot (D : va_G) (ad : AD) (L W : Nat) (am : AD) (m : CS) (ao : Nat) (fo : Nat → Int64) (h : vh) : Prop :=
  RepM D am m h ∧ h ao = some (eJ D 1 fo) ∧ (∀ k i, lv L W k i → ad k i ≠ ao ∧ ∀ k' i', lm k' i' → ad k i ≠ am k' i') ∧ ∀ k i, lm k i → am k i ≠ ao
section OT
variable {D : va_G} {ad : AD} {c : CS} {L W : Nat} {am : AD} {m : CS} {ao : Nat} {fo : Nat → Int64} {h h1 : vh}
theorem Ot.fr (hO : Ot D ad L W am m ao fo h) (hF : FRm ad L W h h1) : Ot D ad L W am m ao fo h1 := by
  obtain ⟨o1, o2, o4, o5⟩ := hO
  refine ⟨⟨fun k i hl => ?_, o1.2⟩, ?_, o4, o5⟩
  · rw [hF (am k i) (by rw [o1.1 k i hl]; exact fun z => by cases z) (fun k' i' hl' e => (o4 k' i' hl').2 k i hl e.symm)]; exact o1.1 k i hl
  · rw [hF ao (by rw [o2]; exact fun z => by cases z) (fun k' i' hl' e => (o4 k' i' hl').1 e.symm)]; exact o2
theorem Ot.gr {ad9 : AD} {L9 W9 : Nat} (hO : Ot D ad L W am m ao fo h) (hg : Grown ad ad9 L W L9 W9 h) (hF : FRm ad9 L9 W9 h h1) : Ot D ad9 L9 W9 am m ao fo h1 := by
  obtain ⟨o1, o2, o4, o5⟩ := hO
  have ne : ∀ k i, lv L9 W9 k i → ad9 k i ≠ ao ∧ ∀ k' i', lm k' i' → ad9 k i ≠ am k' i' := fun k i hl => by
    rcases hg.2 k i hl with q | q
    · rw [hg.1 k i q]; exact o4 k i q
    · exact ⟨fun e => (by rw [e, o2] at q; cases q), fun k' i' hl' e => (by rw [e, o1.1 k' i' hl'] at q; cases q)⟩
  exact Ot.fr (ad := ad9) (L := L9) (W := W9) ⟨o1, o2, ne, o5⟩ hF
theorem Ot.out (hO : Ot D ad L W am m ao fo h) (hR : RepC D ad c L W h) (fo' : Nat → Int64) : RepC D ad c L W (hu h ao (eJ D 1 fo')) ∧ Ot D ad L W am m ao fo' (hu h ao (eJ D 1 fo')) := by
  obtain ⟨o1, o2, o4, o5⟩ := hO
  refine ⟨⟨fun k i hl => ?_, hR.2⟩, ⟨fun k i hl => ?_, o1.2⟩, hu_s, o4, o5⟩
  · rw [hu_n (o4 k i hl).1]; exact hR.1 k i hl
  · rw [hu_n (o5 k i hl)]; exact o1.1 k i hl
theorem Ot.mp {m1 : CS} (hO : Ot D ad L W am m ao fo h) (hR : RepC D ad c L W h) (hM : MP D am h m1 h1) : RepC D ad c L W h1 ∧ Ot D ad L W am m1 ao fo h1 := by
  obtain ⟨o1, o2, o4, o5⟩ := hO
  obtain ⟨g1, g2⟩ := hM
  refine ⟨⟨fun k i hl => ?_, hR.2⟩, g1, ?_, o4, o5⟩
  · rw [g2 (ad k i) (by rw [hR.1 k i hl]; exact fun z => by cases z) (fun k' i' hl' e => (o4 k i hl).2 k' i' hl' e)]; exact hR.1 k i hl
  · rw [g2 ao (by rw [o2]; exact fun z => by cases z) (fun k' i' hl' e => o5 k' i' hl' e.symm)]; exact o2
end OT
def Hr (D : va_G) (am : AD) (m : CS) (ao : Nat) (x t : Nat) (PR : Int → CS → Prop) (rv : Option Value) (h' : vh) : Prop :=
  ∃ (k : Int) (ad' : AD) (c' : CS) (L' W' : Nat) (fo' : Nat → Int64), rv = some (vI k) ∧ (0 ≤ k ∧ k ≤ 3) ∧ RepC D ad' c' L' W' h' ∧ Ot D ad' L' W' am m ao fo' h' ∧ ad' 0 0 = x ∧ SB c' (21 * ((t + 1 : Nat) : Int)) ∧
    ∀ r m1, PR r m1 → m1 0 0 0 = k ∧ Sim c' L' W' m1 ∧ (k = 0 → fo' 0 = (iI r).toInt64) ∧ Cok c' L' W'
theorem SB.le {c : CS} {b b' : Int} (h : SB c b) (hb : b ≤ b') : SB c b' := ⟨h.1, h.2.1, by have := h.2.2; omega⟩
theorem SB.ke {c c' : CS} {b : Int} (h : SB c b) (e : ∀ k, 5 ≤ k → k < 10 → c' k 0 = c k 0) : SB c' b := by
  unfold SB at h ⊢
  rw [e 5 (by decide) (by decide), e 7 (by decide) (by decide), e 8 (by decide) (by decide), e 9 (by decide) (by decide)]; exact h
theorem SB.se {c c1 : CS} {b : Int} (h : SB c b) (hs : SE c c1) : SB c1 (b + 1) := by
  obtain ⟨h1, h2, h3⟩ := h
  obtain ⟨_, g2, g3⟩ := hs
  exact ⟨g2, by omega, by omega⟩
theorem vI_inj {v w : Int} (h : some (vI v) = some (vI w)) : iI v = iI w := by
  have h1 := Option.some.inj h
  exact Value.int.inj h1
section HR
variable {D : va_G} {ad : AD} {c : CS} {L W : Nat} {am : AD} {m : CS} {ao : Nat} {fo : Nat → Int64} {h h1 : vh} {x t : Nat} {PR : Int → CS → Prop}
theorem hr_ok {c' : CS} {v w : Int} (hO : Ot D ad L W am m ao fo h) (hx : ad 0 0 = x) (hcp : CP D ad L W h c' h1) (hv : some (vI v) = some (vI w)) (hC : Cok c' L W) (hB : SB c' (21 * ((t + 1 : Nat) : Int))) (hA : ∀ r m1, PR r m1 → m1 0 0 0 = 0 ∧ Sim c' L W m1 ∧ r = w) :
    Hr D am m ao x t PR (some (vI 0)) (hu h1 ao (eJ D 1 (vp_updL fo 0 (iI v).toInt64))) := by
  obtain ⟨r1, r2⟩ := (hO.fr hcp.2).out hcp.1 (vp_updL fo 0 (iI v).toInt64)
  refine ⟨0, ad, c', L, W, _, rfl, ⟨by decide, by decide⟩, r1, r2, hx, hB, fun r m1 hp => ?_⟩
  obtain ⟨a1, a2, a3⟩ := hA r m1 hp
  refine ⟨a1, a2, fun _ => ?_, hC⟩
  show (if 0 = 0 then (iI v).toInt64 else fo 0) = _
  rw [if_pos rfl, vI_inj hv, a3]
theorem hr_gr {ad9 : AD} {L9 W9 : Nat} {c' : CS} {v w : Int} (hO : Ot D ad L W am m ao fo h) (hx : ad 0 0 = x) (hg : Grown ad ad9 L W L9 W9 h) (hcp : CP D ad9 L9 W9 h c' h1) (hv : some (vI v) = some (vI w)) (hC : Cok c' L9 W9) (hB : SB c' (21 * ((t + 1 : Nat) : Int))) (hA : ∀ r m1, PR r m1 → m1 0 0 0 = 0 ∧ Sim c' L9 W9 m1 ∧ r = w) :
    Hr D am m ao x t PR (some (vI 0)) (hu h1 ao (eJ D 1 (vp_updL fo 0 (iI v).toInt64))) := by
  obtain ⟨r1, r2⟩ := (hO.gr hg hcp.2).out hcp.1 (vp_updL fo 0 (iI v).toInt64)
  refine ⟨0, ad9, c', L9, W9, _, rfl, ⟨by decide, by decide⟩, r1, r2, (hg.1 0 0 (lv0 (by decide))).trans hx, hB, fun r m1 hp => ?_⟩
  obtain ⟨a1, a2, a3⟩ := hA r m1 hp
  refine ⟨a1, a2, fun _ => ?_, hC⟩
  show (if 0 = 0 then (iI v).toInt64 else fo 0) = _
  rw [if_pos rfl, vI_inj hv, a3]
theorem hr_x {j : Nat} (hO : Ot D ad L W am m ao fo h) (hx : ad 0 0 = x) (hR : RepC D ad c L W h) (hC : Cok c L W) (hS : Sim c L W m) (hB : SB c (21 * ((t : Nat) : Int))) (hj : j < 3) (hA : ∀ r m1, PR r m1 → m1 0 0 0 = ((j + 1 : Nat) : Int) ∧ SM m m1) : Hr D am m ao x t PR (some (vI ((j + 1 : Nat) : Int))) h :=
  ⟨((j + 1 : Nat) : Int), ad, c, L, W, fo, rfl, ⟨by omega, by omega⟩, hR, hO, hx, hB.le (by omega), fun r m1 hp => ⟨(hA r m1 hp).1, hS.sm (hA r m1 hp).2, fun z => (by exfalso; omega), hC⟩⟩
end HR
def Sy (D : va_G) (x mm ao : Nat) (h : vh) (t : Nat) : Prop :=
  ∃ (ad : AD) (c : CS) (L W : Nat) (am : AD) (m : CS) (fo : Nat → Int64), RepC D ad c L W h ∧ Ot D ad L W am m ao fo h ∧ ad 0 0 = x ∧ am 0 0 = mm ∧ Cok c L W ∧ Sim c L W m ∧ SB c (21 * (t : Int))
theorem SB.oks {c : CS} {t : Nat} (h : SB c (21 * (t : Int))) (ht : t ≤ 600) : OkS c := ⟨h.1, h.2.1, by have := h.2.2; omega⟩
theorem cs_j {cs : List String} {E : String} {j k : Nat} (h : cs[j]? = some E) (hk : ∀ i, i < cs.length → i ≠ k → cs[i]? ≠ some E) : j = k := by
  by_cases q : j = k
  · exact q
  · obtain ⟨hj, _⟩ := List.getElem?_eq_some_iff.mp h
    exact absurd h (hk j hj q)
/-! the script: a cell that was there before, and is never written -/
def XS (κ : KX) (b nS : Nat) (sc : Nat → Int) : Prop := match κ with
  | (_, _, _, _, s, _, _, _, _, _, _, _, A, _) => ∃ xs : Nat → Int32, va_X b nS xs s s.heap ∧ b < s.heap.size ∧ ¬ A b ∧ ∀ j, xs j = iI (sc j)
section XSC
variable {κ : KX} {own nm : String} {cc : ByteArray} {Ts : List Cond} {R' : Room} {D : va_G} {A : Nat → Prop} {nL n1 n2 : Nat} {h : vh} {ls : List (Nat × Value)} {pc : Nat} {st : List Value}
theorem x_sld (C : CX κ own nm cc Ts R' D A nL) {b nS : Nat} {sc : Nat → Int} {z : Int} (S : XS κ b nS sc) (hz : 0 ≤ z ∧ z < nS) (hn : nS ≤ 2147483647) (d : decode cc pc = .ok (.iaload, 1)) (kk : X κ n1 n2 h ls (pc + 1) (vI (sc z.toNat) :: st)) : X κ n1 n2 h ls pc (vI z :: .ref b :: st) := by
  obtain ⟨p, l, e, R, s, m, args, below, meth, c, Q, D0, A0, nL0⟩ := κ
  obtain ⟨hx, hb, hml, ho, hts, hlk, hnm, hE, rfl, rfl, rfl, rfl⟩ := C
  obtain ⟨xs, s1, s2, s3, s4⟩ := S
  exact fun H locs la hS hP hl => va_sld hx hb s1 s2 s3 hS (iI_in hz.1 hz.2 hn) d (by rw [iI_clamp hz.1 (by omega), s4]; exact kk H locs la hS hP hl)
theorem x_slen (C : CX κ own nm cc Ts R' D A nL) {b nS : Nat} {sc : Nat → Int} (S : XS κ b nS sc) (n : Int) (hv : Int32.ofNat nS = iI n) (d : decode cc pc = .ok (.arraylength, 1)) (kk : X κ n1 n2 h ls (pc + 1) (vI n :: st)) : X κ n1 n2 h ls pc (.ref b :: st) := by
  obtain ⟨p, l, e, R, s, m, args, below, meth, c, Q, D0, A0, nL0⟩ := κ
  obtain ⟨hx, hb, hml, ho, hts, hlk, hnm, hE, rfl, rfl, rfl, rfl⟩ := C
  obtain ⟨xs, s1, s2, s3, s4⟩ := S
  exact fun H locs la hS hP hl => va_slen hx hb s1 s2 s3 hS d (by rw [hv]; exact kk H locs la hS hP hl)
end XSC

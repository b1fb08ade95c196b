/-! ===== levels and works are added, in both ===== -/
theorem MLo.f4 {m m' : CS} {u : Nat} {F : Nat → Int} (h : MLo m m' u) (hF : ∀ j, ¬ (96 * u ≤ j ∧ j < 96 * u + 96) → F j = m' 4 0 j) : MLo m (cu m' 4 0 F) u := by
  obtain ⟨s1, s2, s3, s4, s5⟩ := h
  refine ⟨fun k' a b d => (cu_n (fun z => by omega)).trans (s1 k' a b d), (congrFun (cu_n (fun z => by omega)) 2).trans s2, (congrFun (cu_n (fun z => by omega)) 14).trans s3, fun z => (GK.cu (by omega) (by omega)).mpr (s4 z), fun i hi => ?_⟩
  obtain ⟨⟨t1, t2, t3, t4, t5, t6⟩, t7, t8⟩ := s5 i hi
  refine ⟨⟨(cu_fn (fun z => by omega)).trans t1, (cu_fn (fun z => by omega)).trans t2, (cu_fn (fun z => by omega)).trans t3, (cu_fn (fun z => by omega)).trans t4, (cu_fn (fun z => by omega)).trans t5, (cu_fn (fun z => by omega)).trans t6⟩, fun z hz => (cu_fn (fun _ => hF _ (by omega))).trans (t7 z hz), fun j hj => ?_⟩
  obtain ⟨r1, r2, r3, r4⟩ := t8 j hj
  exact ⟨(cu_fn (fun z => by omega)).trans r1, (cu_fn (fun z => by omega)).trans r2, (cu_fn (fun z => by omega)).trans r3, (cu_fn (fun z => by omega)).trans r4⟩
section grw
variable {c m : CS} {L W : Nat}
theorem sim_level (h : Sim c L W m) (hC : Cok c L W) (hL : L < 12) {c' m2 m' : CS} (hc : ∀ k i, ¬ ((10 ≤ k ∧ k < 18) ∧ i = L) → k ≠ 0 → k ≠ 2 → c' k i = c k i) (h0 : c' 0 0 5 = ((L + 1 : Nat) : Int) ∧ c' 0 0 6 = c 0 0 6 ∧ c' 2 0 0 = ((L + 1 : Nat) : Int))
    (hM : MLo m m2 L) (hm : ∀ k, 1 ≤ k → m' k 0 = m2 k 0) (hm0 : m' 0 0 2 = ((L + 1 : Nat) : Int) ∧ m' 0 0 14 = m2 0 0 14)
    (hl : SL c' m2 L) (hn3 : cnK (c' 12 L) 96 ≤ 3) (h14 : c' 14 L 3 = 0 ∧ c' 14 L 4 = 0) (hz8 : m2 8 0 L = 0 ∧ m2 11 0 L = 0)
    (k1 : OkG (c' 12 L) (c' 13 L) (c' 11 L 2)) (k2 : OkL c' W L) (k3 : OkH c' L) : Cok c' (L + 1) W ∧ Sim c' (L + 1) W m' := by
  obtain ⟨p1, p2, p3, p4, p5⟩ := id hC
  obtain ⟨⟨a1, a2⟩, a3, a4, a5, a6, a7, a8, a9⟩ := id h
  obtain ⟨s1, s2, s3, s4, s5⟩ := hM
  obtain ⟨o1, o2, o3, o4, o5, o6, o7⟩ := id p1
  have e : ∀ k i, k = 1 ∨ 3 ≤ k ∧ k < 10 ∨ 18 ≤ k → c' k i = c k i := fun k i hk => hc k i (by omega) (by omega) (by omega)
  have f : ∀ k, 1 ≤ k → k < 28 → (k = 1 ∨ 15 ≤ k) → m' k 0 = m k 0 := fun k x y z => (hm k x).trans (s1 k x y z)
  have hke : KE 18 25 c c' := fun k i x y => e k i (by omega)
  refine ⟨⟨?_, ?_, fun i hi => ?_, fun i hi => ?_, fun p hp => ?_⟩, ⟨hm0.1, hm0.2.trans (s3.trans a2)⟩, ?_, fun i hi => ?_, fun i hi => ?_, fun p hp => ?_, fun i hi => ?_, fun j hj => ?_, ?_⟩
  · unfold Ok1
    rw [e 3 0 (by omega), e 4 0 (by omega)]
    exact ⟨h0.1, h0.2.1.trans o2, h0.2.2, o4, o5, by omega, o7⟩
  · rw [e 1 0 (by omega)]; exact p2
  · by_cases q : i = L
    · subst q; exact ⟨k1, k2, k3⟩
    · have g := p3 i (by omega)
      have e2 : ∀ k, k ≠ 0 → k ≠ 2 → c' k i = c k i := fun k x y => hc k i (by omega) x y
      unfold OkL OkH at g ⊢
      rw [e2 12 (by decide) (by decide), e2 13 (by decide) (by decide), e2 11 (by decide) (by decide), e2 10 (by decide) (by decide), e2 14 (by decide) (by decide), e2 15 (by decide) (by decide), e2 16 (by decide) (by decide), e2 17 (by decide) (by decide)]; exact g
  · have g := p4 i hi
    unfold OkW at g ⊢
    rw [e 20 i (by omega), e 21 i (by omega), e 19 i (by omega), e 18 i (by omega), e 22 i (by omega)]; exact g
  · have g := p5 p hp
    unfold OkR at g ⊢
    rw [e 23 p (by omega), e 24 p (by omega)]; exact g
  · rw [f 1 (by decide) (by decide) (by decide), e 1 0 (by omega)]; exact a3
  · by_cases q : i = L
    · subst q
      refine ⟨?_, ?_⟩
      · unfold SL at hl ⊢
        rw [hm 3 (by decide), hm 5 (by decide), hm 6 (by decide), hm 7 (by decide), hm 4 (by decide)]; exact hl
      · unfold SH
        rw [hm 8 (by decide), hm 11 (by decide), h14.1, h14.2]
        exact ⟨hz8.1, hz8.2, HG.z hn3, fun j hj => by exfalso; omega, fun r hr => by exfalso; omega⟩
    · obtain ⟨g1, g2⟩ := a4 i (by omega)
      obtain ⟨⟨t1, t2, t3, t4, t5, t6⟩, t7, t8⟩ := s5 i q
      have e2 : ∀ k, k ≠ 0 → k ≠ 2 → c' k i = c k i := fun k x y => hc k i (by omega) x y
      have hb := (p3 i (by omega)).2.2.1
      refine ⟨?_, ?_⟩
      · unfold SL at g1 ⊢
        rw [hm 3 (by decide), hm 5 (by decide), hm 6 (by decide), hm 7 (by decide), hm 4 (by decide), t1, t2, t3, t4, e2 10 (by decide) (by decide), e2 12 (by decide) (by decide), e2 13 (by decide) (by decide), e2 11 (by decide) (by decide)]
        exact ⟨g1.1, g1.2.1, g1.2.2.1, g1.2.2.2.1, fun z hz => by rw [t7 z hz]; exact g1.2.2.2.2.1 z hz, g1.2.2.2.2.2⟩
      · unfold SH at g2 ⊢
        rw [hm 8 (by decide), hm 11 (by decide), hm 9 (by decide), hm 10 (by decide), hm 12 (by decide), hm 13 (by decide), t5, t6, e2 12 (by decide) (by decide), e2 14 (by decide) (by decide), e2 15 (by decide) (by decide), e2 16 (by decide) (by decide), e2 17 (by decide) (by decide)]
        exact ⟨g2.1, g2.2.1, g2.2.2.1, fun j hj => by rw [(t8 j (by omega)).1, (t8 j (by omega)).2.1]; exact g2.2.2.2.1 j hj, fun r hr => by rw [(t8 r (by omega)).2.2.1, (t8 r (by omega)).2.2.2]; exact g2.2.2.2.2 r hr⟩
  · have g := a5 i hi
    unfold SWk at g ⊢
    rw [f 15 (by decide) (by decide) (by decide), f 16 (by decide) (by decide) (by decide), f 17 (by decide) (by decide) (by decide), f 18 (by decide) (by decide) (by decide), f 19 (by decide) (by decide) (by decide), f 20 (by decide) (by decide) (by decide), f 21 (by decide) (by decide) (by decide), hke 18 i (by decide) (by decide), hke 19 i (by decide) (by decide), hke 20 i (by decide) (by decide), hke 21 i (by decide) (by decide), hke 22 i (by decide) (by decide)]
    exact g
  · have g := a6 p hp
    unfold SR at g ⊢
    rw [f 22 (by decide) (by decide) (by decide), f 23 (by decide) (by decide) (by decide), f 24 (by decide) (by decide) (by decide), f 25 (by decide) (by decide) (by decide), f 26 (by decide) (by decide) (by decide), f 27 (by decide) (by decide) (by decide), hke 23 p (by decide) (by decide), hke 24 p (by decide) (by decide), EW.e (hke.sub (by decide) (by decide))]
    exact g
  · have h9 : i ≠ L := by omega
    obtain ⟨⟨_, _, _, _, t5, t6⟩, _⟩ := s5 i h9
    rw [hm 8 (by decide), hm 11 (by decide), t5, t6]; exact a7 i (by omega)
  · rw [f 21 (by decide) (by decide) (by decide)]; exact a8 j hj
  · have := s4 a9
    unfold GK at this ⊢
    rw [hm 28 (by decide), hm 29 (by decide)]; exact this
theorem MLo_op (hmL : (m 0 0 2).toNat = L) {F : Nat → Int} {f : Nat → Int} {p z o : Int} (hF : F = rowG (m 4 0) (96 * L) f 96) : MLo m (cu (cu (cu (cu (cu m 4 0 F) 3 0 (fu (m 3 0) L p)) 5 0 (fu (m 5 0) L z)) 6 0 (fu (m 6 0) L (-2))) 7 0 (fu (m 7 0) L o)) L :=
  (((((MLo.rf.f4 (F := F) (fun j hj => by rw [hF]; exact if_neg hj)).row (k := 3) (by decide)).row (k := 5) (by decide)).row (k := 6) (by decide)).row (k := 7) (by decide))
theorem rowG_v {g f : Nat → Int} {b : Nat} {y : Nat} (hy : y < 96) : rowG g b f 96 (b + y) = f y := by
  unfold rowG; rw [if_pos (by omega), show b + y - b = y by omega]
theorem bgN_v (hL : L < 12) {p pr : Int} : ∀ n, n ≤ 12 → (∀ y : Nat, bgN (cAdd c L p pr) L n 12 L y = if 84 ≤ y ∧ y < 84 + n then 1 else 0) ∧ GN (bgN (cAdd c L p pr) L n 12 L) (bgN (cAdd c L p pr) L n 13 L) (bgN (cAdd c L p pr) L n 11 L 2).toNat
  | 0, _ => by
    have e12 : cAdd c L p pr 12 L = FL p pr 12 := cAdd_l (by decide)
    have e13 : cAdd c L p pr 13 L = FL p pr 13 := cAdd_l (by decide)
    have e11 : cAdd c L p pr 11 L = FL p pr 11 := cAdd_l (by decide)
    refine ⟨fun y => ?_, ?_⟩
    · show cAdd c L p pr 12 L y = _
      rw [e12, if_neg (by omega)]; rfl
    · show GN (cAdd c L p pr 12 L) (cAdd c L p pr 13 L) (cAdd c L p pr 11 L 2).toNat
      rw [e12, e13, e11]
      exact GN.z
  | n + 1, hn => by
    obtain ⟨i1, i2⟩ := bgN_v hL (p := p) (pr := pr) n (by omega)
    have e12 : bgN (cAdd c L p pr) L (n + 1) 12 L = fu (bgN (cAdd c L p pr) L n 12 L) (((84 + n : Nat) : Int)).toNat 1 := by
      show bgS (bgN (cAdd c L p pr) L n) L ((84 + n : Nat) : Int) 12 L = _
      unfold bgS
      rw [cu_k (by decide), cu_k (by decide), cu_s]
    have e13 : bgN (cAdd c L p pr) L (n + 1) 13 L = gpq (bgN (cAdd c L p pr) L n 12 L) (bgN (cAdd c L p pr) L n 13 L) ((84 + n : Nat) : Int) 1 := by
      show bgS (bgN (cAdd c L p pr) L n) L ((84 + n : Nat) : Int) 13 L = _
      unfold bgS
      rw [cu_k (by decide), cu_s]
    have e11 : bgN (cAdd c L p pr) L (n + 1) 11 L = oF [0, 0, ((gpa (bgN (cAdd c L p pr) L n 12 L) (bgN (cAdd c L p pr) L n 13 L) (bgN (cAdd c L p pr) L n 11 L 2).toNat ((84 + n : Nat) : Int) 1 : Nat) : Int)] := cu_s
    rw [e12, e13, e11]
    refine ⟨fun y => ?_, ?_⟩
    · unfold fu
      by_cases q : y = (((84 + n : Nat) : Int)).toNat
      · rw [if_pos q, if_pos (by omega)]
      · rw [if_neg q, i1 y]
        by_cases r : 84 ≤ y ∧ y < 84 + n
        · rw [if_pos r, if_pos (by omega)]
        · rw [if_neg r, if_neg (by omega)]
    · exact i2.put (z := ((84 + n : Nat) : Int)) (k := 1) ⟨by omega, by omega⟩ (fun z => absurd z.1 (by decide))
theorem sim_begin (h : Sim c L W m) (hC : Cok c L W) (hL : L < 12) {p : Int} (hp : 0 ≤ p ∧ p < 6) :
    Cok (bgN (cAdd c L p 0) L 12) (L + 1) W ∧ Sim (bgN (cAdd c L p 0) L 12) (L + 1) W (opN (cu m 4 0 (rowG (m 4 0) (96 * (m 0 0 2).toNat) (fun j => if j < 84 then 0 else 1) 96)) p 72 (-1)) := by
  obtain ⟨⟨a1, a2⟩, a3, a4, a5, a6, a7, a8, a9⟩ := id h
  have hmL : (m 0 0 2).toNat = L := by omega
  obtain ⟨g1, g2⟩ := bgN_v (c := c) hL (p := p) (pr := 0) 12 (Nat.le_refl _)
  have hGW : GW (bgN (cAdd c L p 0) L 12 12 L) (bgN (cAdd c L p 0) L 12 13 L) (((bgN (cAdd c L p 0) L 12 11 L 2).toNat : Nat) : Int) := GN_W g2
  have e11 : bgN (cAdd c L p 0) L 12 11 L = oF [0, 0, ((gpa (bgN (cAdd c L p 0) L 11 12 L) (bgN (cAdd c L p 0) L 11 13 L) (bgN (cAdd c L p 0) L 11 11 L 2).toNat ((84 + 11 : Nat) : Int) 1 : Nat) : Int)] := cu_s
  have hnn : (((bgN (cAdd c L p 0) L 12 11 L 2).toNat : Nat) : Int) = bgN (cAdd c L p 0) L 12 11 L 2 := by
    rw [e11]; rfl
  rw [hnn] at hGW
  have ek : ∀ k i, k ≠ 11 ∧ k ≠ 12 ∧ k ≠ 13 → bgN (cAdd c L p 0) L 12 k i = cAdd c L p 0 k i := fun k i hk => bgN_k hk 12
  have e10 : bgN (cAdd c L p 0) L 12 10 L = oF [p, 0, 0, 0, 72, -2] := (ek 10 L (by decide)).trans (cAdd_l (by decide))
  have e14 : bgN (cAdd c L p 0) L 12 14 L = fun _ => 0 := (ek 14 L (by decide)).trans (cAdd_l (by decide))
  have e15 : bgN (cAdd c L p 0) L 12 15 L = fun _ => 0 := (ek 15 L (by decide)).trans (cAdd_l (by decide))
  have e16 : bgN (cAdd c L p 0) L 12 16 L = fun _ => 0 := (ek 16 L (by decide)).trans (cAdd_l (by decide))
  have e17 : bgN (cAdd c L p 0) L 12 17 L = fun _ => 0 := (ek 17 L (by decide)).trans (cAdd_l (by decide))
  have hr := bgN_r (c := cAdd c L p 0) (L := L) (by
    rw [cAdd_l (by decide), cAdd_l (by decide)]
    exact ⟨fun j => ⟨by show (0 : Int) ≤ 0; decide, by show (0 : Int) ≤ 8; decide⟩, fun j => by show -1 ≤ (if j < 3 then -1 else 0 : Int) ∧ (if j < 3 then -1 else 0 : Int) ≤ 95; split <;> decide⟩) 12 (Nat.le_refl _)
  refine sim_level h hC hL (m2 := cu (cu (cu (cu (cu m 4 0 (rowG (m 4 0) (96 * (m 0 0 2).toNat) (fun j => if j < 84 then 0 else 1) 96)) 3 0 (fu (m 3 0) L p)) 5 0 (fu (m 5 0) L 72)) 6 0 (fu (m 6 0) L (-2))) 7 0 (fu (m 7 0) L (-1))) (fun k i hk k0 k2 => ?_) ⟨?_, ?_, ?_⟩ (MLo_op hmL (by rw [hmL])) (fun k hk => ?_) ⟨?_, rfl⟩ ?_ (cnK_3 hGW) ⟨by rw [e14], by rw [e14]⟩ ⟨(a7 L (Nat.le_refl _)).1, (a7 L (Nat.le_refl _)).2⟩ ⟨hr.1, hr.2, hGW.lt⟩ ?_ ?_
  · by_cases q : k = 11 ∨ k = 12 ∨ k = 13
    · have hi : i ≠ L := fun z => hk ⟨by omega, z⟩
      have hb : ∀ n, bgN (cAdd c L p 0) L n k i = cAdd c L p 0 k i := by
        intro n
        induction n with
        | zero => rfl
        | succ n ih =>
          show bgS (bgN (cAdd c L p 0) L n) L ((84 + n : Nat) : Int) k i = _
          unfold bgS
          rw [cu_n (fun z => hi z.2), cu_n (fun z => hi z.2), cu_n (fun z => hi z.2)]; exact ih
      rw [hb 12]
      unfold cAdd
      rw [cu_n (fun z => k0 z.1), cu_n (fun z => k2 z.1), cG_i hi]
    · rw [ek k i (by omega)]
      unfold cAdd
      rw [cu_n (fun z => k0 z.1), cu_n (fun z => k2 z.1)]
      exact if_neg hk
  · rw [ek 0 0 (by decide)]; rfl
  · rw [ek 0 0 (by decide)]; rfl
  · rw [ek 2 0 (by decide)]; rfl
  · unfold opN
    have e0 : (cu m 4 0 (rowG (m 4 0) (96 * (m 0 0 2).toNat) (fun j => if j < 84 then 0 else 1) 96)) 0 0 2 = m 0 0 2 := rfl
    rw [e0, hmL]
    exact cu_n (fun z => by omega)
  · show m 0 0 2 + 1 = _
    omega
  · unfold SL
    rw [e10]
    refine ⟨fu_s, fu_s, fu_s, fu_s, fun y hy => ?_, hGW⟩
    show rowG (m 4 0) (96 * (m 0 0 2).toNat) (fun j => if j < 84 then 0 else 1) 96 (96 * L + y) = _
    rw [hmL, rowG_v hy, g1 y]
    by_cases q : y < 84
    · rw [if_pos q, if_neg (by omega)]
    · rw [if_neg q, if_pos (by omega)]
  · unfold OkL
    rw [e10]
    exact ⟨⟨hp.1, by show p ≤ 5; omega⟩, ⟨by show (0 : Int) ≤ 0; decide, by show (0 : Int) ≤ (W : Int); omega⟩, ⟨by show (0 : Int) ≤ 72; decide, by show (72 : Int) ≤ 95; decide⟩, by show (-2 : Int) ≤ -2; decide, by show (-2 : Int) ≤ 7000; decide⟩
  · unfold OkH
    rw [e14, e15, e16, e17]
    exact ⟨⟨by decide, by decide, by decide⟩, fun _ => (⟨by decide, by decide⟩ : (0 : Int) ≤ 0 ∧ (0 : Int) ≤ 95), fun _ => (⟨by decide, by decide⟩ : (0 : Int) ≤ 0 ∧ (0 : Int) ≤ 8), fun _ => (⟨by decide, by decide⟩ : (0 : Int) ≤ 0 ∧ (0 : Int) ≤ 8)⟩
def cpC (c : CS) (L w : Nat) (p : Int) : CS := cu (cu (cu (cu (cAdd c L p (((w + 1 : Nat) : Int))) 12 L (gnf (c 20 w) (fun _ => 0) 96)) 13 L (gnq (c 20 w) (fun _ => 0) (fun j => if j < 3 then -1 else 0) 96)) 11 L (oF [0, 0, ((gna (c 20 w) (fun _ => 0) (fun j => if j < 3 then -1 else 0) 0 96 : Nat) : Int)])) 10 L (oF [p, ((w + 1 : Nat) : Int), 0, 0, c 18 w 4, (-2)])
theorem sim_copy (h : Sim c L W m) (hC : Cok c L W) (hL : L < 12) {w : Nat} (hw : w < W) {p : Int} (hp : 0 ≤ p ∧ p < 6) :
    Cok (cpC c L w p) (L + 1) W ∧ Sim (cpC c L w p) (L + 1) W (opN (cu m 4 0 (rowG (m 4 0) (96 * (m 0 0 2).toNat) (fun j => m 16 0 (96 * w + j)) 96)) p (m 17 0 w) ((w : Nat) : Int)) := by
  obtain ⟨⟨a1, a2⟩, a3, a4, a5, a6, a7, a8, a9⟩ := id h
  have hmL : (m 0 0 2).toNat = L := by omega
  obtain ⟨w1, w2, w3, w4, w5, w6, w7, w8⟩ := a5 w hw
  obtain ⟨q0, q1, q2, q3, q4, _⟩ := (hC.2.2.2.1 w hw).2
  have hg := (hC.2.2.2.1 w hw).1
  have hGW := GW.all (g := c 20 w) (cnK_3 w8)
  have e12 : cpC c L w p 12 L = gnf (c 20 w) (fun _ => 0) 96 := (cu_k (by decide)).trans ((cu_k (by decide)).trans ((cu_k (by decide)).trans cu_s))
  have e13 : cpC c L w p 13 L = gnq (c 20 w) (fun _ => 0) (fun j => if j < 3 then -1 else 0) 96 := (cu_k (by decide)).trans ((cu_k (by decide)).trans cu_s)
  have e11 : cpC c L w p 11 L = oF [0, 0, ((gna (c 20 w) (fun _ => 0) (fun j => if j < 3 then -1 else 0) 0 96 : Nat) : Int)] := (cu_k (by decide)).trans cu_s
  have e10 : cpC c L w p 10 L = oF [p, ((w + 1 : Nat) : Int), 0, 0, c 18 w 4, -2] := cu_s
  have ek : ∀ k i, k ≠ 10 ∧ k ≠ 11 ∧ k ≠ 12 ∧ k ≠ 13 → cpC c L w p k i = cAdd c L p ((w + 1 : Nat) : Int) k i := fun k i hk => (cu_k hk.1).trans ((cu_k hk.2.1).trans ((cu_k hk.2.2.2).trans (cu_k hk.2.2.1)))
  have e14 : cpC c L w p 14 L = fun _ => 0 := (ek 14 L (by decide)).trans (cAdd_l (by decide))
  have e15 : cpC c L w p 15 L = fun _ => 0 := (ek 15 L (by decide)).trans (cAdd_l (by decide))
  have e16 : cpC c L w p 16 L = fun _ => 0 := (ek 16 L (by decide)).trans (cAdd_l (by decide))
  have e17 : cpC c L w p 17 L = fun _ => 0 := (ek 17 L (by decide)).trans (cAdd_l (by decide))
  have hf : ∀ j, 0 ≤ gnf (c 20 w) (fun _ => 0) 96 j ∧ gnf (c 20 w) (fun _ => 0) 96 j ≤ 8 := fun j => by
    rw [gnf_e]; split
    · exact hg.1 j
    · decide
  have hq : ∀ j, -1 ≤ gnq (c 20 w) (fun _ => 0) (fun j => if j < 3 then -1 else 0) 96 j ∧ gnq (c 20 w) (fun _ => 0) (fun j => if j < 3 then -1 else 0) 96 j ≤ 95 := gnq_r (fun j => by split <;> decide) 96 (Nat.le_refl _)
  refine sim_level h hC hL (m2 := cu (cu (cu (cu (cu m 4 0 (rowG (m 4 0) (96 * (m 0 0 2).toNat) (fun j => m 16 0 (96 * w + j)) 96)) 3 0 (fu (m 3 0) L p)) 5 0 (fu (m 5 0) L (m 17 0 w))) 6 0 (fu (m 6 0) L (-2))) 7 0 (fu (m 7 0) L ((w : Nat) : Int))) (fun k i hk k0 k2 => ?_) ⟨?_, ?_, ?_⟩ (MLo_op hmL (by rw [hmL])) (fun k hk => ?_) ⟨?_, rfl⟩ ?_ (by rw [e12]; exact cnK_3 hGW) ⟨by rw [e14], by rw [e14]⟩ ⟨(a7 L (Nat.le_refl _)).1, (a7 L (Nat.le_refl _)).2⟩ (by rw [e12, e13, e11]; exact ⟨hf, hq, hGW.lt⟩) ?_ ?_
  · by_cases q : k = 10 ∨ k = 11 ∨ k = 12 ∨ k = 13
    · have hi : i ≠ L := fun z => hk ⟨by omega, z⟩
      unfold cpC
      rw [cu_n (fun z => hi z.2), cu_n (fun z => hi z.2), cu_n (fun z => hi z.2), cu_n (fun z => hi z.2)]
      unfold cAdd
      rw [cu_n (fun z => k0 z.1), cu_n (fun z => k2 z.1), cG_i hi]
    · rw [ek k i (by omega)]
      unfold cAdd
      rw [cu_n (fun z => k0 z.1), cu_n (fun z => k2 z.1)]
      exact if_neg hk
  · rw [ek 0 0 (by decide)]; rfl
  · rw [ek 0 0 (by decide)]; rfl
  · rw [ek 2 0 (by decide)]; rfl
  · unfold opN
    have e0 : (cu m 4 0 (rowG (m 4 0) (96 * (m 0 0 2).toNat) (fun j => m 16 0 (96 * w + j)) 96)) 0 0 2 = m 0 0 2 := rfl
    rw [e0, hmL]
    exact cu_n (fun z => by omega)
  · show m 0 0 2 + 1 = _
    omega
  · unfold SL
    rw [e10, e12, e13, e11]
    refine ⟨fu_s, fu_s.trans w2, fu_s, fu_s.trans (by show ((w : Nat) : Int) = ((w + 1 : Nat) : Int) - 1; omega), fun y hy => ?_, hGW⟩
    show rowG (m 4 0) (96 * (m 0 0 2).toNat) (fun j => m 16 0 (96 * w + j)) 96 (96 * L + y) = _
    rw [hmL, rowG_v hy, gnf_e, if_pos hy]
    exact w6 y hy
  · unfold OkL
    rw [e10]
    exact ⟨⟨hp.1, by show p ≤ 5; omega⟩, ⟨by show (0 : Int) ≤ ((w + 1 : Nat) : Int); omega, by show ((w + 1 : Nat) : Int) ≤ (W : Int); omega⟩, q3, by show (-2 : Int) ≤ -2; decide, by show (-2 : Int) ≤ 7000; decide⟩
  · unfold OkH
    rw [e14, e15, e16, e17]
    exact ⟨⟨by decide, by decide, by decide⟩, fun _ => (⟨by decide, by decide⟩ : (0 : Int) ≤ 0 ∧ (0 : Int) ≤ 95), fun _ => (⟨by decide, by decide⟩ : (0 : Int) ≤ 0 ∧ (0 : Int) ≤ 8), fun _ => (⟨by decide, by decide⟩ : (0 : Int) ≤ 0 ∧ (0 : Int) ≤ 8)⟩
/-- a work more -/
theorem sim_offer (h : Sim c L W m) (hC : Cok c L W) (hW : W < 20) {u : Nat} (hu : u < L) (hpf : 0 ≤ c 10 u 5) :
    Cok (cOff c W (c 10 u 0) (c 10 u 1) (c 10 u 4) (c 10 u 5) (c 12 u)) L (W + 1) ∧ Sim (cOff c W (c 10 u 0) (c 10 u 1) (c 10 u 4) (c 10 u 5) (c 12 u)) L (W + 1) (ofN m u) := by
  obtain ⟨p1, p2, p3, p4, p5⟩ := id hC
  obtain ⟨⟨a1, a2⟩, a3, a4, a5, a6, a7, a8, a9⟩ := id h
  obtain ⟨o1, o2, o3, o4, o5, o6, o7⟩ := id p1
  obtain ⟨⟨w1, w2, w3, w4, w5, w6⟩, _⟩ := a4 u hu
  obtain ⟨hg, hl, _⟩ := p3 u hu
  have hmW : (m 0 0 14).toNat = W := by omega
  obtain ⟨c', hc'⟩ : ∃ c', c' = cOff c W (c 10 u 0) (c 10 u 1) (c 10 u 4) (c 10 u 5) (c 12 u) := ⟨_, rfl⟩
  rw [← hc']
  have ek : ∀ k i, k ≠ 0 → k ≠ 3 → ¬ ((18 ≤ k ∧ k < 23) ∧ i = W) → c' k i = c k i := fun k i k0 k3 hk => by
    rw [hc']; unfold cOff
    rw [cu_n (fun z => k0 z.1), cu_n (fun z => k3 z.1)]; exact if_neg hk
  have ew : ∀ k, 18 ≤ k → k < 23 → c' k W = FW (W : Int) (c 10 u 0) (c 10 u 1) (c 10 u 4) (c 10 u 5) (c 12 u) k := fun k x y => by
    rw [hc']; unfold cOff
    rw [cu_n (fun z => by omega), cu_n (fun z => by omega)]; exact if_pos ⟨⟨x, y⟩, rfl⟩
  have e18 : c' 18 W = oF [(W : Int), c 10 u 0, c 10 u 1, 0, c 10 u 4, 0, c 10 u 5, -1] := ew 18 (by decide) (by decide)
  have e19 : c' 19 W = oF [0, 0, ((gna (c 12 u) (fun _ => 0) (fun j => if j < 3 then -1 else 0) 0 96 : Nat) : Int)] := ew 19 (by decide) (by decide)
  have e20 : c' 20 W = gnf (c 12 u) (fun _ => 0) 96 := ew 20 (by decide) (by decide)
  have e21 : c' 21 W = gnq (c 12 u) (fun _ => 0) (fun j => if j < 3 then -1 else 0) 96 := ew 21 (by decide) (by decide)
  have e22 : c' 22 W = fun _ => 0 := ew 22 (by decide) (by decide)
  have hGW := GW.all (g := c 12 u) (cnK_3 w6)
  have hf : ∀ j, 0 ≤ gnf (c 12 u) (fun _ => 0) 96 j ∧ gnf (c 12 u) (fun _ => 0) 96 j ≤ 8 := fun j => by
    rw [gnf_e]; split
    · exact hg.1 j
    · decide
  have hq : ∀ j, -1 ≤ gnq (c 12 u) (fun _ => 0) (fun j => if j < 3 then -1 else 0) 96 j ∧ gnq (c 12 u) (fun _ => 0) (fun j => if j < 3 then -1 else 0) 96 j ≤ 95 := gnq_r (fun j => by split <;> decide) 96 (Nat.le_refl _)
  obtain ⟨m', hm'⟩ : ∃ m', m' = ofN m u := ⟨_, rfl⟩
  rw [← hm']
  have f : ∀ k i, k ≠ 0 → k ≠ 15 → k ≠ 16 → k ≠ 17 → k ≠ 18 → k ≠ 19 → k ≠ 20 → m' k i = m k i := fun k i k0 h1 h2 h3 h4 h5 h6 => by
    rw [hm']; unfold ofN
    rw [cu_n (fun z => k0 z.1), cu_n (fun z => h6 z.1), cu_n (fun z => h5 z.1), cu_n (fun z => h4 z.1), cu_n (fun z => h3 z.1), cu_n (fun z => h1 z.1), cu_n (fun z => h2 z.1)]
  have f15 : m' 15 0 = fu (m 15 0) W (m 3 0 u) := by rw [hm', ← hmW]; rfl
  have f16 : m' 16 0 = rowG (m 16 0) (96 * W) (fun j => m 4 0 (96 * u + j)) 96 := by rw [hm', ← hmW]; rfl
  have f17 : m' 17 0 = fu (m 17 0) W (m 5 0 u) := by rw [hm', ← hmW]; rfl
  have f18 : m' 18 0 = fu (m 18 0) W (m 6 0 u) := by rw [hm', ← hmW]; rfl
  have f19 : m' 19 0 = fu (m 19 0) W (m 7 0 u) := by rw [hm', ← hmW]; rfl
  have f20 : m' 20 0 = fu (m 20 0) W (-1) := by rw [hm', ← hmW]; rfl
  have f0 : m' 0 0 2 = m 0 0 2 ∧ m' 0 0 14 = m 0 0 14 + 1 := by rw [hm']; exact ⟨rfl, rfl⟩
  refine ⟨⟨?_, ?_, fun i hi => ?_, fun i hi => ?_, fun p hp => ?_⟩, ⟨f0.1.trans a1, by rw [f0.2]; omega⟩, ?_, fun i hi => ?_, fun i hi => ?_, fun p hp => ?_, fun i hi => ?_, fun j hj => ?_, ?_⟩
  · unfold Ok1
    rw [ek 2 0 (by decide) (by decide) (by omega), ek 4 0 (by decide) (by decide) (by omega)]
    refine ⟨by rw [hc']; exact o1, by rw [hc']; rfl, o3, by rw [hc']; rfl, o5, o6, by omega⟩
  · rw [ek 1 0 (by decide) (by decide) (by omega)]; exact p2
  · have g := p3 i hi
    have e2 : ∀ k, 10 ≤ k → k < 18 → c' k i = c k i := fun k x y => ek k i (by omega) (by omega) (by omega)
    unfold OkL OkH at g ⊢
    rw [e2 12 (by decide) (by decide), e2 13 (by decide) (by decide), e2 11 (by decide) (by decide), e2 10 (by decide) (by decide), e2 14 (by decide) (by decide), e2 15 (by decide) (by decide), e2 16 (by decide) (by decide), e2 17 (by decide) (by decide)]
    exact ⟨g.1, ⟨g.2.1.1, ⟨g.2.1.2.1.1, by have := g.2.1.2.1.2; omega⟩, g.2.1.2.2⟩, g.2.2⟩
  · by_cases q : i = W
    · subst q
      unfold OkW
      rw [e18, e19, e20, e21, e22]
      exact ⟨⟨hf, hq, hGW.lt⟩, rfl, hl.1, hl.2.1, hl.2.2.1, ⟨by show -1 ≤ c 10 u 5; omega, hl.2.2.2.2⟩, ⟨by show (-1 : Int) ≤ -1; decide, by show (-1 : Int) ≤ 300; decide⟩, fun _ => (⟨by decide, by decide⟩ : (0 : Int) ≤ 0 ∧ (0 : Int) ≤ 5)⟩
    · have g := p4 i (by omega)
      have e2 : ∀ k, 18 ≤ k → k < 23 → c' k i = c k i := fun k x y => ek k i (by omega) (by omega) (by omega)
      unfold OkW at g ⊢
      rw [e2 20 (by decide) (by decide), e2 21 (by decide) (by decide), e2 19 (by decide) (by decide), e2 18 (by decide) (by decide), e2 22 (by decide) (by decide)]; exact g
  · have g := p5 p hp
    unfold OkR at g ⊢
    rw [ek 23 p (by decide) (by decide) (by omega), ek 24 p (by decide) (by decide) (by omega)]
    exact ⟨⟨g.1.1, by have := g.1.2; omega⟩, g.2⟩
  · rw [f 1 0 (by decide) (by decide) (by decide) (by decide) (by decide) (by decide) (by decide), ek 1 0 (by decide) (by decide) (by omega)]; exact a3
  · exact ⟨(a4 i hi).1.e (fun k j x y => ek k j (by omega) (by omega) (by omega)) (fun k j x y => f k j (by omega) (by omega) (by omega) (by omega) (by omega) (by omega) (by omega)), (a4 i hi).2.e (fun k j x y => ek k j (by omega) (by omega) (by omega)) (fun k j x y => f k j (by omega) (by omega) (by omega) (by omega) (by omega) (by omega) (by omega))⟩
  · by_cases q : i = W
    · subst q
      unfold SWk
      rw [f15, f16, f17, f18, f19, f20, f 21 0 (by decide) (by decide) (by decide) (by decide) (by decide) (by decide) (by decide), e18, e19, e20, e21, e22, fu_s, fu_s, fu_s, fu_s, fu_s]
      refine ⟨w1, w2, w3, w4, rfl, fun z hz => ?_, fun p hp => a8 _ (by omega), hGW⟩
      rw [rowG_v hz, gnf_e, if_pos hz]
      exact w5 z hz
    · have g := a5 i (by omega)
      have e2 : ∀ k, 18 ≤ k → k < 23 → c' k i = c k i := fun k x y => ek k i (by omega) (by omega) (by omega)
      unfold SWk at g ⊢
      rw [f15, f16, f17, f18, f19, f20, f 21 0 (by decide) (by decide) (by decide) (by decide) (by decide) (by decide) (by decide), fu_n q, fu_n q, fu_n q, fu_n q, fu_n q, e2 20 (by decide) (by decide), e2 21 (by decide) (by decide), e2 19 (by decide) (by decide), e2 18 (by decide) (by decide), e2 22 (by decide) (by decide)]
      refine ⟨g.1, g.2.1, g.2.2.1, g.2.2.2.1, g.2.2.2.2.1, fun z hz => ?_, g.2.2.2.2.2.2⟩
      rw [← g.2.2.2.2.2.1 z hz]
      exact if_neg (by omega)
  · have g := a6 p hp
    have hr := p5 p hp
    unfold SR at g ⊢
    rw [f 22 0 (by decide) (by decide) (by decide) (by decide) (by decide) (by decide) (by decide), f 23 0 (by decide) (by decide) (by decide) (by decide) (by decide) (by decide) (by decide), f 24 0 (by decide) (by decide) (by decide) (by decide) (by decide) (by decide) (by decide), f 25 0 (by decide) (by decide) (by decide) (by decide) (by decide) (by decide) (by decide), f 26 0 (by decide) (by decide) (by decide) (by decide) (by decide) (by decide) (by decide), f 27 0 (by decide) (by decide) (by decide) (by decide) (by decide) (by decide) (by decide), ek 23 p (by decide) (by decide) (by omega), ek 24 p (by decide) (by decide) (by omega)]
    obtain ⟨g1, g2, g3, g4, g5, g6, g7, g8⟩ := g
    refine ⟨g1, g2, g3, g4, g5, g6, g7, fun z => ?_⟩
    have g9 := g8 z
    have hw : (c 23 p 1 - 1).toNat ≠ W := by have := hr.1.2; omega
    refine ⟨g9.1, ?_⟩
    have eE : EW c' (c 23 p 1 - 1).toNat = EW c (c 23 p 1 - 1).toNat := by
      unfold EW
      rw [ek 20 _ (by decide) (by decide) (by omega), ek 21 _ (by decide) (by decide) (by omega), ek 19 _ (by decide) (by decide) (by omega)]
    rw [eE]; exact g9.2
  · rw [f 8 0 (by decide) (by decide) (by decide) (by decide) (by decide) (by decide) (by decide), f 11 0 (by decide) (by decide) (by decide) (by decide) (by decide) (by decide) (by decide)]; exact a7 i hi
  · rw [f 21 0 (by decide) (by decide) (by decide) (by decide) (by decide) (by decide) (by decide)]; exact a8 j (by omega)
  · unfold GK at a9 ⊢
    rw [f 28 0 (by decide) (by decide) (by decide) (by decide) (by decide) (by decide) (by decide), f 29 0 (by decide) (by decide) (by decide) (by decide) (by decide) (by decide) (by decide)]; exact a9
end grw


theorem CLo.rf {c : CS} {u : Nat} : CLo c c u := fun _ _ _ => rfl
theorem CLo.cu {c c' : CS} {k u : Nat} {f : Nat → Int} (h : CLo c c' u) (hk : 10 ≤ k ∧ k < 18) : CLo c (cu c' k u f) u := fun k' i n => (cu_n (fun z => n (by omega))).trans (h k' i n)
theorem cu_pt {m : CS} {k n a i : Nat} {v : Int} (h : a ≠ k ∨ i ≠ n) : cu m k 0 (fu (m k 0) n v) a 0 i = m a 0 i := by
  by_cases q : a = k
  · subst q
    rw [cu_s, fu_n (by omega)]
  · rw [cu_n (fun z => q z.1)]
theorem MLo.rf {m : CS} {u : Nat} : MLo m m u := ⟨fun _ _ _ _ => rfl, rfl, rfl, id, fun _ _ => ⟨⟨rfl, rfl, rfl, rfl, rfl, rfl⟩, fun _ _ => rfl, fun _ _ => ⟨rfl, rfl, rfl, rfl⟩⟩⟩
theorem MLo.pt {m m' : CS} {k u n : Nat} {v : Int} (h : MLo m m' u) (hk : 3 ≤ k ∧ k < 14) (h1 : k ≠ 4 → k ≠ 9 → k ≠ 10 → k ≠ 12 → k ≠ 13 → n = u) (h2 : k = 4 → 96 * u ≤ n ∧ n < 96 * u + 96) (h3 : (k = 9 ∨ k = 10 ∨ k = 12 ∨ k = 13) → 40 * u ≤ n ∧ n < 40 * u + 40) : MLo m (cu m' k 0 (fu (m' k 0) n v)) u := by
  obtain ⟨s1, s2, s3, s4, s5⟩ := h
  refine ⟨fun k' a b d => (cu_n (fun z => by omega)).trans (s1 k' a b d), (congrFun (cu_n (fun z => by omega)) 2).trans s2, (congrFun (cu_n (fun z => by omega)) 14).trans s3, fun z => (GK.cu (by omega) (by omega)).mpr (s4 z), fun i hi => ?_⟩
  obtain ⟨⟨t1, t2, t3, t4, t5, t6⟩, t7, t8⟩ := s5 i hi
  refine ⟨⟨(cu_pt (by omega)).trans t1, (cu_pt (by omega)).trans t2, (cu_pt (by omega)).trans t3, (cu_pt (by omega)).trans t4, (cu_pt (by omega)).trans t5, (cu_pt (by omega)).trans t6⟩, fun z hz => (cu_pt (by omega)).trans (t7 z hz), fun j hj => ?_⟩
  obtain ⟨r1, r2, r3, r4⟩ := t8 j hj
  exact ⟨(cu_pt (by omega)).trans r1, (cu_pt (by omega)).trans r2, (cu_pt (by omega)).trans r3, (cu_pt (by omega)).trans r4⟩
theorem MLo.row {m m' : CS} {k u : Nat} {v : Int} (h : MLo m m' u) (hk : k = 3 ∨ k = 5 ∨ k = 6 ∨ k = 7 ∨ k = 8 ∨ k = 11) : MLo m (cu m' k 0 (fu (m' k 0) u v)) u := h.pt (by omega) (fun _ _ _ _ _ => rfl) (fun z => by omega) (fun z => by omega)
theorem MLo.cell {m m' : CS} {u n : Nat} {v : Int} (h : MLo m m' u) (hn : 96 * u ≤ n ∧ n < 96 * u + 96) : MLo m (cu m' 4 0 (fu (m' 4 0) n v)) u := h.pt (by decide) (fun z => absurd rfl z) (fun _ => hn) (fun z => by omega)
theorem MLo.ed {m m' : CS} {k u n : Nat} {v : Int} (h : MLo m m' u) (hk : k = 9 ∨ k = 10 ∨ k = 12 ∨ k = 13) (hn : 40 * u ≤ n ∧ n < 40 * u + 40) : MLo m (cu m' k 0 (fu (m' k 0) n v)) u := h.pt (by omega) (fun a b c d e => by omega) (fun z => by omega) (fun _ => hn)
theorem rmF_n {F : Nat → Int} {b d : Nat} {x : Int} {j : Nat} (h : ¬ (b ≤ j ∧ j < b + 40)) : rmF F b d x j = F j := by
  have hh : hd40 d ≤ 39 := by unfold hd40; split <;> omega
  unfold rmF
  rw [fu_n (by omega)]
  split
  · rfl
  · exact if_neg (by omega)
theorem cu_fn {m : CS} {k a i : Nat} {F : Nat → Int} (h : a = k → F i = m k 0 i) : cu m k 0 F a 0 i = m a 0 i := by
  by_cases q : a = k
  · subst q; rw [cu_s]; exact h rfl
  · rw [cu_n (fun z => q z.1)]
theorem MLo.fn {m m' : CS} {k u : Nat} {F : Nat → Int} (h : MLo m m' u) (hk : k = 9 ∨ k = 10) (hF : ∀ j, ¬ (40 * u ≤ j ∧ j < 40 * u + 40) → F j = m' k 0 j) : MLo m (cu m' k 0 F) u := by
  obtain ⟨s1, s2, s3, s4, s5⟩ := h
  refine ⟨fun k' a b d => (cu_n (fun z => by omega)).trans (s1 k' a b d), (congrFun (cu_n (fun z => by omega)) 2).trans s2, (congrFun (cu_n (fun z => by omega)) 14).trans s3, fun z => (GK.cu (by omega) (by omega)).mpr (s4 z), fun i hi => ?_⟩
  obtain ⟨⟨t1, t2, t3, t4, t5, t6⟩, t7, t8⟩ := s5 i hi
  refine ⟨⟨(cu_fn (fun z => by omega)).trans t1, (cu_fn (fun z => by omega)).trans t2, (cu_fn (fun z => by omega)).trans t3, (cu_fn (fun z => by omega)).trans t4, (cu_fn (fun z => by omega)).trans t5, (cu_fn (fun z => by omega)).trans t6⟩, fun z hz => (cu_fn (fun z => by omega)).trans (t7 z hz), fun j hj => ?_⟩
  obtain ⟨r1, r2, r3, r4⟩ := t8 j hj
  exact ⟨(cu_fn (fun _ => hF _ (by omega))).trans r1, (cu_fn (fun _ => hF _ (by omega))).trans r2, (cu_fn (fun z => by omega)).trans r3, (cu_fn (fun z => by omega)).trans r4⟩
theorem MLo.rem {m m' : CS} {u : Nat} {z k : Int} (h : MLo m m' u) : MLo m (remM m' u z k) u := by
  have h1 := h.fn (k := 9) (F := rmF (m' 9 0) (40 * u) (m' 8 0 u).toNat z) (by decide) (fun j hj => rmF_n hj)
  have h2 := h1.fn (k := 10) (F := rmF (m' 10 0) (40 * u) (m' 8 0 u).toNat k) (by decide) (fun j hj => rmF_n hj)
  exact h2.row (k := 8) (by decide)
/-- a row of edits of the reference as a row is remembered -/
theorem rmF_e {F G : Nat → Int} {b d : Nat} {x : Int} (hF : ∀ j, j < d → F (b + j) = G j) (hd : d ≤ 40) : ∀ j, j < hd40 d + 1 → rmF F b d x (b + j) = hrow G d x j := fun j hj => by
  unfold rmF
  by_cases q : d < 40
  · rw [hd40_lo q] at hj ⊢
    rw [if_pos q, hrow_lo q]
    by_cases r : j = d
    · subst r; rw [fu_s, fu_s]
    · rw [fu_n (by omega), fu_n r]; exact hF j (by omega)
  · rw [hd40_hi q] at hj ⊢
    rw [if_neg q, hrow_hi q]
    by_cases r : j = 39
    · subst r; rw [fu_s, fu_s]
    · rw [fu_n (by omega), fu_n r]
      have e1 : shG F b 39 (b + j) = F (b + j + 1) := if_pos (by omega)
      have e2 : shN G 39 j = G (j + 1) := if_pos (by omega)
      rw [e1, e2]
      exact hF (j + 1) (by omega)
theorem hrow_m {A B C : Nat → Int} {d : Nat} {a b : Int} (hC : ∀ j, j < d → C j = 10 * A j + B j) (hd : d ≤ 40) : ∀ j, j < hd40 d + 1 → hrow C d (10 * a + b) j = 10 * hrow A d a j + hrow B d b j := fun j hj => by
  by_cases q : d < 40
  · rw [hd40_lo q] at hj
    rw [hrow_lo q, hrow_lo q, hrow_lo q]
    by_cases r : j = d
    · subst r; rw [fu_s, fu_s, fu_s]
    · rw [fu_n r, fu_n r, fu_n r]; exact hC j (by omega)
  · rw [hd40_hi q] at hj
    rw [hrow_hi q, hrow_hi q, hrow_hi q]
    by_cases r : j = 39
    · subst r; rw [fu_s, fu_s, fu_s]
    · rw [fu_n r, fu_n r, fu_n r]
      have e2 : ∀ G : Nat → Int, shN G 39 j = G (j + 1) := fun G => if_pos (by omega)
      rw [e2, e2, e2]
      exact hC (j + 1) (by omega)
theorem hrow_r {F : Nat → Int} {d : Nat} {x lo hi : Int} (hF : ∀ j, lo ≤ F j ∧ F j ≤ hi) (hx : lo ≤ x ∧ x ≤ hi) : ∀ j, lo ≤ hrow F d x j ∧ hrow F d x j ≤ hi := fun j => by
  unfold hrow
  unfold fu
  split
  · exact hx
  · split
    · exact hF j
    · unfold shN; split
      · exact hF _
      · exact hF j
theorem fu_r {F : Nat → Int} {i : Nat} {x lo hi : Int} (hF : ∀ j, lo ≤ F j ∧ F j ≤ hi) (hx : lo ≤ x ∧ x ≤ hi) : ∀ j, lo ≤ fu F i x j ∧ fu F i x j ≤ hi := fun j => by
  unfold fu; split
  · exact hx
  · exact hF j
section lev
variable {c m : CS} {L W u : Nat}
/-- a level is begun elsewhere -/
theorem sim_start (h : Sim c L W m) (hC : Cok c L W) (hu : u < L) {z : Int} (hz : 0 ≤ z ∧ z < 96) :
    Cok (cu c 10 u (oF [c 10 u 0, c 10 u 1, 0, 0, z, -2])) L W ∧ Sim (cu c 10 u (oF [c 10 u 0, c 10 u 1, 0, 0, z, -2])) L W (cu (cu m 5 0 (fu (m 5 0) u z)) 6 0 (fu (m 6 0) u (-2))) := by
  obtain ⟨g1, g2, g3⟩ := hC.2.2.1 u hu
  obtain ⟨k1, k2⟩ := h.2.2.1 u hu
  have hO : CLo c (cu c 10 u (oF [c 10 u 0, c 10 u 1, 0, 0, z, -2])) u := CLo.rf.cu (by decide)
  have e10 : cu c 10 u (oF [c 10 u 0, c 10 u 1, 0, 0, z, -2]) 10 u = oF [c 10 u 0, c 10 u 1, 0, 0, z, -2] := cu_s
  refine ⟨hC.lv hO g1 ?_ g3, h.lv hC hu hO ((MLo.rf.row (k := 5) (by decide)).row (k := 6) (by decide)) ?_ k2⟩
  · unfold OkL at g2 ⊢
    rw [e10]
    exact ⟨g2.1, g2.2.1, ⟨hz.1, by show z ≤ 95; omega⟩, by show (-2 : Int) ≤ -2; decide, by show (-2 : Int) ≤ 7000; decide⟩
  · unfold SL at k1 ⊢
    rw [e10]
    refine ⟨k1.1, fu_s, fu_s, k1.2.2.2.1, k1.2.2.2.2⟩
/-- a level is proved -/
theorem sim_proof (h : Sim c L W m) (hC : Cok c L W) (hu : u < L) {w : Int} (hw : -1 ≤ w ∧ w ≤ 7000) :
    Cok (cu c 10 u (oF [c 10 u 0, c 10 u 1, 0, 0, c 10 u 4, w])) L W ∧ Sim (cu c 10 u (oF [c 10 u 0, c 10 u 1, 0, 0, c 10 u 4, w])) L W (cu m 6 0 (fu (m 6 0) u w)) := by
  obtain ⟨g1, g2, g3⟩ := hC.2.2.1 u hu
  obtain ⟨k1, k2⟩ := h.2.2.1 u hu
  have hO : CLo c (cu c 10 u (oF [c 10 u 0, c 10 u 1, 0, 0, c 10 u 4, w])) u := CLo.rf.cu (by decide)
  have e10 : cu c 10 u (oF [c 10 u 0, c 10 u 1, 0, 0, c 10 u 4, w]) 10 u = oF [c 10 u 0, c 10 u 1, 0, 0, c 10 u 4, w] := cu_s
  refine ⟨hC.lv hO g1 ?_ g3, h.lv hC hu hO (MLo.rf.row (k := 6) (by decide)) ?_ k2⟩
  · unfold OkL at g2 ⊢
    rw [e10]
    exact ⟨g2.1, g2.2.1, g2.2.2.1, by show -2 ≤ w; omega, by show w ≤ 7000; omega⟩
  · unfold SL at k1 ⊢
    rw [e10]
    exact ⟨k1.1, k1.2.1, fu_s, k1.2.2.2.1, k1.2.2.2.2⟩
/-- a cell of a grid, in both -/
theorem sl_cell (k1 : SL c m u) {z k : Int} (hz : 0 ≤ z ∧ z < 96) {m4 : Nat → Int} (e4 : m4 = fu (m 4 0) (96 * u + z.toNat) k) : ∀ y : Nat, y < 96 → m4 (96 * u + y) = fu (c 12 u) z.toNat k y := fun y hy => by
  rw [e4]
  unfold fu
  by_cases q : y = z.toNat
  · rw [if_pos (by omega), if_pos q]
  · rw [if_neg (by omega), if_neg q]; exact k1.2.2.2.2.1 y hy
/-- an edit -/
def edC (c : CS) (u d : Nat) (z k : Int) : CS := cu (cu (cu (cu (cu (cu (cu (cu c 15 u (hrow (c 15 u) d z)) 16 u (hrow (c 16 u) d (c 12 u z.toNat))) 17 u (hrow (c 17 u) d k)) 14 u (oF [0, 0, 0, ((hd40 d + 1 : Nat) : Int), ((0 : Nat) : Int)])) 12 u (fu (c 12 u) z.toNat k)) 13 u (gpq (c 12 u) (c 13 u) z k)) 11 u (oF [0, 0, ((gpa (c 12 u) (c 13 u) ((c 11 u 2).toNat) z k : Nat) : Int)])) 10 u (oF [c 10 u 0, c 10 u 1, 0, 0, c 10 u 4, -2])
def edM (m : CS) (u n : Nat) (z k w : Int) : CS := cu (cu (remM (cu m 4 0 (fu (m 4 0) n k)) u z (10 * w + k)) 11 0 (fu (m 11 0) u 0)) 6 0 (fu (m 6 0) u (-2))
theorem sim_set (h : Sim c L W m) (hC : Cok c L W) (hu : u < L) {z k w : Int} (hz : 0 ≤ z ∧ z < 96) (hk : 0 ≤ k ∧ k ≤ 8) (hw : w = c 12 u z.toNat) (h3 : ¬ (k = 2 ∧ c 12 u z.toNat ≠ 2 ∧ 3 ≤ pc3 (c 11 u 2).toNat)) :
    Cok (edC c u (c 14 u 3).toNat z k) L W ∧ Sim (edC c u (c 14 u 3).toNat z k) L W (edM m u (96 * u + z.toNat) z k w) := by
  subst hw
  obtain ⟨g1, g2, g3⟩ := hC.2.2.1 u hu
  obtain ⟨k1, k2⟩ := h.2.2.1 u hu
  obtain ⟨a1, a2, a3⟩ := id g1
  obtain ⟨b1, b2, b3, b4⟩ := id g3
  obtain ⟨hG, d0, hdd⟩ : GW (c 12 u) (c 13 u) (c 11 u 2) ∧ True ∧ True := ⟨k1.2.2.2.2.2, trivial, trivial⟩
  have hcnt := hG.cnt
  have hP := hG.put (z := z) (k := k) hz (fun ⟨y1, y2, y3⟩ => by
    have := hcnt.2.mpr y3
    rw [hcnt.1] at this
    exact h3 ⟨y1, y2, by omega⟩)
  have hn3 := cnK_3 hP
  obtain ⟨dN, hdN⟩ : ∃ dN : Nat, dN = (c 14 u 3).toNat := ⟨_, rfl⟩
  rw [← hdN]
  have hd9 : dN ≤ 40 := by omega
  have hH := k2.2.2.1.put (z := z) (k := k) (by omega) (by omega) hn3
  rw [← hdN] at hH
  have hO : CLo c (edC c u dN z k) u := (((((((CLo.rf.cu (by decide)).cu (by decide)).cu (by decide)).cu (by decide)).cu (by decide)).cu (by decide)).cu (by decide)).cu (by decide)
  have e10 : edC c u dN z k 10 u = oF [c 10 u 0, c 10 u 1, 0, 0, c 10 u 4, -2] := cu_s
  have e11 : edC c u dN z k 11 u = oF [0, 0, ((gpa (c 12 u) (c 13 u) ((c 11 u 2).toNat) z k : Nat) : Int)] := (cu_n (by omega)).trans cu_s
  have e13 : edC c u dN z k 13 u = gpq (c 12 u) (c 13 u) z k := (cu_n (by omega)).trans ((cu_n (by omega)).trans cu_s)
  have e12 : edC c u dN z k 12 u = fu (c 12 u) z.toNat k := (cu_n (by omega)).trans ((cu_n (by omega)).trans ((cu_n (by omega)).trans cu_s))
  have e14 : edC c u dN z k 14 u = oF [0, 0, 0, ((hd40 dN + 1 : Nat) : Int), ((0 : Nat) : Int)] := (cu_n (by omega)).trans ((cu_n (by omega)).trans ((cu_n (by omega)).trans ((cu_n (by omega)).trans cu_s)))
  have e17 : edC c u dN z k 17 u = hrow (c 17 u) dN k := (cu_n (by omega)).trans ((cu_n (by omega)).trans ((cu_n (by omega)).trans ((cu_n (by omega)).trans ((cu_n (by omega)).trans cu_s))))
  have e16 : edC c u dN z k 16 u = hrow (c 16 u) dN (c 12 u z.toNat) := (cu_n (by omega)).trans ((cu_n (by omega)).trans ((cu_n (by omega)).trans ((cu_n (by omega)).trans ((cu_n (by omega)).trans ((cu_n (by omega)).trans cu_s)))))
  have e15 : edC c u dN z k 15 u = hrow (c 15 u) dN z := (cu_n (by omega)).trans ((cu_n (by omega)).trans ((cu_n (by omega)).trans ((cu_n (by omega)).trans ((cu_n (by omega)).trans ((cu_n (by omega)).trans ((cu_n (by omega)).trans cu_s))))))
  have hq := b3
  have hx39 : hd40 dN + 1 ≤ 40 := by unfold hd40; split <;> omega
  have hm8 : (m 8 0 u).toNat = dN := by rw [k2.1, hdN]
  have hM : MLo m (edM m u (96 * u + z.toNat) z k (c 12 u z.toNat)) u := (((MLo.rf.cell (by omega)).rem).row (k := 11) (by decide)).row (k := 6) (by decide)
  refine ⟨hC.lv hO ?_ ?_ ?_, h.lv hC hu hO hM ?_ ?_⟩
  · rw [e12, e13, e11]
    refine ⟨fu_r a1 hk, gpq_r a2 (by omega), hP.lt⟩
  · unfold OkL at g2 ⊢
    rw [e10]
    exact ⟨g2.1, g2.2.1, g2.2.2.1, by show (-2 : Int) ≤ -2; decide, by show (-2 : Int) ≤ 7000; decide⟩
  · unfold OkH
    rw [e14, e15, e16, e17]
    refine ⟨⟨by show (0 : Int) ≤ ((hd40 dN + 1 : Nat) : Int); omega, by show (0 : Int) ≤ 0; decide, by show ((hd40 dN + 1 : Nat) : Int) + 0 ≤ 40; omega⟩, hrow_r b2 (by omega), hrow_r b3 (a1 _), hrow_r b4 hk⟩
  · unfold SL
    rw [e10, e12, e13, e11]
    refine ⟨k1.1, k1.2.1, fu_s, k1.2.2.2.1, sl_cell k1 hz rfl, hP⟩
  · unfold SH
    rw [e12, e14, e15, e16, e17]
    have r8 : edM m u (96 * u + z.toNat) z k (c 12 u z.toNat) 8 0 u = ((hd40 dN + 1 : Nat) : Int) := by
      show fu (m 8 0) u ((hd40 (m 8 0 u).toNat + 1 : Nat) : Int) u = _
      rw [fu_s, hm8]
    refine ⟨r8, fu_s, hH, fun j hj => ?_, fun r hr => by exfalso; have : (r : Int) < 0 := hr; omega⟩
    have hj2 : j < hd40 dN + 1 := by have : (j : Int) < ((hd40 dN + 1 : Nat) : Int) := hj; omega
    refine ⟨?_, ?_⟩
    · show rmF (m 9 0) (40 * u) (m 8 0 u).toNat z (40 * u + j) = _
      rw [hm8]
      exact rmF_e (fun y hy => (k2.2.2.2.1 y (by omega)).1) hd9 j hj2
    · show rmF (m 10 0) (40 * u) (m 8 0 u).toNat (10 * c 12 u z.toNat + k) (40 * u + j) = _
      rw [hm8, rmF_e (G := fun y => 10 * c 16 u y + c 17 u y) (fun y hy => (k2.2.2.2.1 y (by omega)).2) hd9 j hj2]
      exact hrow_m (fun y _ => rfl) hd9 j hj2
/-- an edit is undone -/
def unC (c : CS) (u d s : Nat) (z k : Int) : CS := cu (cu (cu (cu (cu c 14 u (oF [0, 0, 0, ((d : Nat) : Int), ((s : Nat) : Int)])) 12 u (fu (c 12 u) z.toNat k)) 13 u (gpq (c 12 u) (c 13 u) z k)) 11 u (oF [0, 0, ((gpa (c 12 u) (c 13 u) ((c 11 u 2).toNat) z k : Nat) : Int)])) 10 u (oF [c 10 u 0, c 10 u 1, 0, 0, c 10 u 4, -2])
theorem unC_e {c : CS} {u d s : Nat} {z k : Int} : CLo c (unC c u d s z k) u ∧ unC c u d s z k 10 u = oF [c 10 u 0, c 10 u 1, 0, 0, c 10 u 4, -2] ∧ unC c u d s z k 11 u = oF [0, 0, ((gpa (c 12 u) (c 13 u) ((c 11 u 2).toNat) z k : Nat) : Int)] ∧ unC c u d s z k 13 u = gpq (c 12 u) (c 13 u) z k ∧ unC c u d s z k 12 u = fu (c 12 u) z.toNat k ∧ unC c u d s z k 14 u = oF [0, 0, 0, ((d : Nat) : Int), ((s : Nat) : Int)] ∧ unC c u d s z k 15 u = c 15 u ∧ unC c u d s z k 16 u = c 16 u ∧ unC c u d s z k 17 u = c 17 u :=
  ⟨((((CLo.rf.cu (by decide)).cu (by decide)).cu (by decide)).cu (by decide)).cu (by decide), cu_s, (cu_n (by omega)).trans cu_s, (cu_n (by omega)).trans ((cu_n (by omega)).trans cu_s), (cu_n (by omega)).trans ((cu_n (by omega)).trans ((cu_n (by omega)).trans cu_s)), (cu_n (by omega)).trans ((cu_n (by omega)).trans ((cu_n (by omega)).trans ((cu_n (by omega)).trans cu_s))),
   (cu_n (by omega)).trans ((cu_n (by omega)).trans ((cu_n (by omega)).trans ((cu_n (by omega)).trans (cu_n (by omega))))), (cu_n (by omega)).trans ((cu_n (by omega)).trans ((cu_n (by omega)).trans ((cu_n (by omega)).trans (cu_n (by omega))))), (cu_n (by omega)).trans ((cu_n (by omega)).trans ((cu_n (by omega)).trans ((cu_n (by omega)).trans (cu_n (by omega)))))⟩
/-- a cell is set as the edits told it: the class's side -/
theorem un_cok (h : Sim c L W m) (hC : Cok c L W) (hu : u < L) {c' : CS} {d s : Nat} {z k : Int} (hz : 0 ≤ z ∧ z < 96) (hk : 0 ≤ k ∧ k ≤ 8) (hds : d + s ≤ 40) (h3 : cnK (fu (c 12 u) z.toNat k) 96 ≤ 3) (hO : CLo c c' u) (e10 : c' 10 u = oF [c 10 u 0, c 10 u 1, 0, 0, c 10 u 4, -2]) (e11 : c' 11 u = oF [0, 0, ((gpa (c 12 u) (c 13 u) ((c 11 u 2).toNat) z k : Nat) : Int)]) (e13 : c' 13 u = gpq (c 12 u) (c 13 u) z k) (e12 : c' 12 u = fu (c 12 u) z.toNat k) (e14 : c' 14 u = oF [0, 0, 0, ((d : Nat) : Int), ((s : Nat) : Int)]) (e15 : c' 15 u = c 15 u) (e16 : c' 16 u = c 16 u) (e17 : c' 17 u = c 17 u) :
    Cok c' L W ∧ GW (fu (c 12 u) z.toNat k) (gpq (c 12 u) (c 13 u) z k) ((gpa (c 12 u) (c 13 u) ((c 11 u 2).toNat) z k : Nat) : Int) := by
  obtain ⟨g1, g2, g3⟩ := hC.2.2.1 u hu
  obtain ⟨k1, k2⟩ := h.2.2.1 u hu
  obtain ⟨a1, a2, a3⟩ := id g1
  obtain ⟨b1, b2, b3, b4⟩ := id g3
  have hG : GW (c 12 u) (c 13 u) (c 11 u 2) := k1.2.2.2.2.2
  have hP := hG.put (z := z) (k := k) hz (fun ⟨y1, y2, y3⟩ => by
    have e1 := hG.cnt.2.mpr y3
    have e2 := cnK_fu (f := c 12 u) (z := z.toNat) y2 96 (by omega)
    rw [y1] at h3
    omega)
  refine ⟨hC.lv hO ?_ ?_ ?_, hP⟩
  · rw [e12, e13, e11]
    exact ⟨fu_r a1 hk, gpq_r a2 (by omega), hP.lt⟩
  · unfold OkL at g2 ⊢
    rw [e10]
    exact ⟨g2.1, g2.2.1, g2.2.2.1, by show (-2 : Int) ≤ -2; decide, by show (-2 : Int) ≤ 7000; decide⟩
  · unfold OkH
    rw [e14, e15, e16, e17]
    exact ⟨⟨by show (0 : Int) ≤ ((d : Nat) : Int); omega, by show (0 : Int) ≤ ((s : Nat) : Int); omega, by show ((d : Nat) : Int) + ((s : Nat) : Int) ≤ 40; omega⟩, b2, b3, b4⟩
def unM (m : CS) (u K R n : Nat) (x y : Int) : CS := cu (cu (cu (cu (cu (cu m 8 0 (fu (m 8 0) u (m 8 0 u - 1))) 12 0 (fu (m 12 0) R (m 9 0 K))) 13 0 (fu (m 13 0) R (m 10 0 K))) 11 0 (fu (m 11 0) u (m 11 0 u + 1))) 4 0 (fu (m 4 0) n y)) 6 0 (fu (m 6 0) u (-2))
theorem sim_undo (h : Sim c L W m) (hC : Cok c L W) (hu : u < L) {d s : Nat} (hd : c 14 u 3 = ((d + 1 : Nat) : Int)) (hs : c 14 u 4 = ((s : Nat) : Int)) :
    Cok (unC c u d (s + 1) (c 15 u d) (c 16 u d)) L W ∧ m 9 0 (40 * u + d) = c 15 u d ∧ Sim (unC c u d (s + 1) (c 15 u d) (c 16 u d)) L W (unM m u (40 * u + d) (40 * u + s) (96 * u + (c 15 u d).toNat) 0 (m 10 0 (40 * u + d) / 10)) := by
  obtain ⟨g1, g2, g3⟩ := hC.2.2.1 u hu
  obtain ⟨k1, k2⟩ := h.2.2.1 u hu
  obtain ⟨b1, b2, b3, b4⟩ := id g3
  obtain ⟨t1, t2, t3, t4, t5⟩ := id k2
  have hz := b2 d
  have hk := b3 d
  have hka := b4 d
  have n1 : (c 14 u 3).toNat = d + 1 := by omega
  have n2 : (c 14 u 4).toNat = s := by omega
  rw [n1, n2] at t3
  have hH := t3.un (by omega) (by omega)
  rw [show d + 1 - 1 = d by omega] at hH
  obtain ⟨hO, e10, e11, e13, e12, e14, e15, e16, e17⟩ := unC_e (c := c) (u := u) (d := d) (s := s + 1) (z := c 15 u d) (k := c 16 u d)
  obtain ⟨hok, hP⟩ := un_cok h hC hu (by omega) hk (by omega) (hH.now (by omega)) hO e10 e11 e13 e12 e14 e15 e16 e17
  obtain ⟨f1, f2⟩ := t4 d (by omega)
  have hkk : m 10 0 (40 * u + d) / 10 = c 16 u d := by omega
  refine ⟨hok, f1, ?_⟩
  have hM : MLo m (unM m u (40 * u + d) (40 * u + s) (96 * u + (c 15 u d).toNat) 0 (m 10 0 (40 * u + d) / 10)) u := (((((MLo.rf.row (k := 8) (by decide)).ed (k := 12) (by decide) (by omega)).ed (k := 13) (by decide) (by omega)).row (k := 11) (by decide)).cell (by omega)).row (k := 6) (by decide)
  refine h.lv hC hu hO hM ?_ ?_
  · unfold SL
    rw [e10, e12, e13, e11]
    exact ⟨k1.1, k1.2.1, fu_s, k1.2.2.2.1, sl_cell k1 (z := c 15 u d) (by omega) (by rw [← hkk]; rfl), hP⟩
  · unfold SH
    rw [e12, e14, e15, e16, e17]
    refine ⟨?_, ?_, ?_, fun j hj => ?_, fun r hr => ?_⟩
    · show fu (m 8 0) u (m 8 0 u - 1) u = ((d : Nat) : Int)
      rw [fu_s]; omega
    · show fu (m 11 0) u (m 11 0 u + 1) u = ((s + 1 : Nat) : Int)
      rw [fu_s]; omega
    · show HG _ _ _ _ d (d + (s + 1))
      rw [show d + (s + 1) = d + 1 + s by omega]; exact hH
    · have hj2 : (j : Int) < ((d : Nat) : Int) := hj
      exact t4 j (by omega)
    · have hr2 : (r : Int) < ((s + 1 : Nat) : Int) := hr
      have hx : (oF [0, 0, 0, ((d : Nat) : Int), ((s + 1 : Nat) : Int)] 3 + oF [0, 0, 0, ((d : Nat) : Int), ((s + 1 : Nat) : Int)] 4 - 1 - (r : Int)).toNat = d + s - r := by
        show (((d : Nat) : Int) + ((s + 1 : Nat) : Int) - 1 - (r : Int)).toNat = d + s - r
        omega
      rw [hx]
      by_cases q : r = s
      · subst q
        rw [show d + r - r = d by omega]
        refine ⟨?_, ?_⟩
        · show fu (m 12 0) (40 * u + r) (m 9 0 (40 * u + d)) (40 * u + r) = _
          rw [fu_s]; exact f1
        · show fu (m 13 0) (40 * u + r) (m 10 0 (40 * u + d)) (40 * u + r) = _
          rw [fu_s]; exact f2
      · have t6 := t5 r (by omega)
        rw [show (c 14 u 3 + c 14 u 4 - 1 - (r : Int)).toNat = d + s - r by omega] at t6
        refine ⟨?_, ?_⟩
        · show fu (m 12 0) (40 * u + s) (m 9 0 (40 * u + d)) (40 * u + r) = _
          rw [fu_n (by omega)]; exact t6.1
        · show fu (m 13 0) (40 * u + s) (m 10 0 (40 * u + d)) (40 * u + r) = _
          rw [fu_n (by omega)]; exact t6.2
def reC (c : CS) (u d s : Nat) (z k : Int) : CS := cu (cu (cu (cu (cu c 12 u (fu (c 12 u) z.toNat k)) 13 u (gpq (c 12 u) (c 13 u) z k)) 11 u (oF [0, 0, ((gpa (c 12 u) (c 13 u) ((c 11 u 2).toNat) z k : Nat) : Int)])) 10 u (oF [c 10 u 0, c 10 u 1, 0, 0, c 10 u 4, -2])) 14 u (oF [0, 0, 0, ((d : Nat) : Int), ((s : Nat) : Int)])
theorem reC_e {c : CS} {u d s : Nat} {z k : Int} : CLo c (reC c u d s z k) u ∧ reC c u d s z k 10 u = oF [c 10 u 0, c 10 u 1, 0, 0, c 10 u 4, -2] ∧ reC c u d s z k 11 u = oF [0, 0, ((gpa (c 12 u) (c 13 u) ((c 11 u 2).toNat) z k : Nat) : Int)] ∧ reC c u d s z k 13 u = gpq (c 12 u) (c 13 u) z k ∧ reC c u d s z k 12 u = fu (c 12 u) z.toNat k ∧ reC c u d s z k 14 u = oF [0, 0, 0, ((d : Nat) : Int), ((s : Nat) : Int)] ∧ reC c u d s z k 15 u = c 15 u ∧ reC c u d s z k 16 u = c 16 u ∧ reC c u d s z k 17 u = c 17 u :=
  ⟨((((CLo.rf.cu (by decide)).cu (by decide)).cu (by decide)).cu (by decide)).cu (by decide), (cu_n (by omega)).trans cu_s, (cu_n (by omega)).trans ((cu_n (by omega)).trans cu_s), (cu_n (by omega)).trans ((cu_n (by omega)).trans ((cu_n (by omega)).trans cu_s)), (cu_n (by omega)).trans ((cu_n (by omega)).trans ((cu_n (by omega)).trans ((cu_n (by omega)).trans cu_s))), cu_s,
   (cu_n (by omega)).trans ((cu_n (by omega)).trans ((cu_n (by omega)).trans ((cu_n (by omega)).trans (cu_n (by omega))))), (cu_n (by omega)).trans ((cu_n (by omega)).trans ((cu_n (by omega)).trans ((cu_n (by omega)).trans (cu_n (by omega))))), (cu_n (by omega)).trans ((cu_n (by omega)).trans ((cu_n (by omega)).trans ((cu_n (by omega)).trans (cu_n (by omega)))))⟩
def reM (m : CS) (u K n : Nat) (y : Int) : CS := cu (cu (remM (cu m 11 0 (fu (m 11 0) u (m 11 0 u - 1))) u (m 12 0 K) (m 13 0 K)) 4 0 (fu (m 4 0) n y)) 6 0 (fu (m 6 0) u (-2))
theorem sim_redo (h : Sim c L W m) (hC : Cok c L W) (hu : u < L) {d s : Nat} (hd : c 14 u 3 = ((d : Nat) : Int)) (hs : c 14 u 4 = ((s + 1 : Nat) : Int)) :
    Cok (reC c u (d + 1) s (c 15 u d) (c 17 u d)) L W ∧ m 12 0 (40 * u + s) = c 15 u d ∧ Sim (reC c u (d + 1) s (c 15 u d) (c 17 u d)) L W (reM m u (40 * u + s) (96 * u + (c 15 u d).toNat) (m 13 0 (40 * u + s) % 10)) := by
  obtain ⟨g1, g2, g3⟩ := hC.2.2.1 u hu
  obtain ⟨k1, k2⟩ := h.2.2.1 u hu
  obtain ⟨b1, b2, b3, b4⟩ := id g3
  obtain ⟨t1, t2, t3, t4, t5⟩ := id k2
  have hz := b2 d
  have hk := b4 d
  have hkb := b3 d
  have n1 : (c 14 u 3).toNat = d := by omega
  have n2 : (c 14 u 4).toNat = s + 1 := by omega
  rw [n1, n2] at t3
  have hH := t3.re (by omega)
  obtain ⟨hO, e10, e11, e13, e12, e14, e15, e16, e17⟩ := reC_e (c := c) (u := u) (d := d + 1) (s := s) (z := c 15 u d) (k := c 17 u d)
  obtain ⟨hok, hP⟩ := un_cok h hC hu (by omega) hk (by omega) (hH.now (by omega)) hO e10 e11 e13 e12 e14 e15 e16 e17
  have f0 := t5 s (by omega)
  rw [show (c 14 u 3 + c 14 u 4 - 1 - (s : Int)).toNat = d by omega] at f0
  obtain ⟨f1, f2⟩ := f0
  have hkk : m 13 0 (40 * u + s) % 10 = c 17 u d := by omega
  refine ⟨hok, f1, ?_⟩
  have hM : MLo m (reM m u (40 * u + s) (96 * u + (c 15 u d).toNat) (m 13 0 (40 * u + s) % 10)) u := (((MLo.rf.row (k := 11) (by decide)).rem).cell (by omega)).row (k := 6) (by decide)
  have hdl : d < 40 := by omega
  have hm8 : (m 8 0 u).toNat = d := by omega
  refine h.lv hC hu hO hM ?_ ?_
  · unfold SL
    rw [e10, e12, e13, e11]
    exact ⟨k1.1, k1.2.1, fu_s, k1.2.2.2.1, sl_cell k1 (z := c 15 u d) (by omega) (by rw [← hkk]; rfl), hP⟩
  · unfold SH
    rw [e12, e14, e15, e16, e17]
    have row : ∀ (F G : Nat → Int) (x : Int) (j : Nat), (∀ y, y < d → F (40 * u + y) = G y) → x = G d → j < d + 1 → rmF F (40 * u) (m 8 0 u).toNat x (40 * u + j) = G j := fun F G x j hF hx hj => by
      rw [hm8]
      unfold rmF
      rw [if_pos hdl, hd40_lo hdl]
      by_cases q : j = d
      · subst q; rw [fu_s]; exact hx
      · rw [fu_n (by omega)]; exact hF j (by omega)
    refine ⟨?_, ?_, ?_, fun j hj => ?_, fun r hr => ?_⟩
    · show fu (m 8 0) u ((hd40 (m 8 0 u).toNat + 1 : Nat) : Int) u = ((d + 1 : Nat) : Int)
      rw [fu_s, hm8, hd40_lo hdl]
    · show fu (m 11 0) u (m 11 0 u - 1) u = ((s : Nat) : Int)
      rw [fu_s]; omega
    · show HG _ _ _ _ (d + 1) (d + 1 + s)
      rw [show d + 1 + s = d + (s + 1) by omega]; exact hH
    · have hj2 : (j : Int) < ((d + 1 : Nat) : Int) := hj
      refine ⟨?_, ?_⟩
      · show rmF (m 9 0) (40 * u) (m 8 0 u).toNat (m 12 0 (40 * u + s)) (40 * u + j) = _
        exact row (m 9 0) (c 15 u) _ j (fun y hy => (t4 y (by omega)).1) f1 (by omega)
      · show rmF (m 10 0) (40 * u) (m 8 0 u).toNat (m 13 0 (40 * u + s)) (40 * u + j) = _
        exact row (m 10 0) (fun y => 10 * c 16 u y + c 17 u y) _ j (fun y hy => (t4 y (by omega)).2) f2 (by omega)
    · have hr2 : (r : Int) < ((s : Nat) : Int) := hr
      have t6 := t5 r (by omega)
      have hx : (oF [0, 0, 0, ((d + 1 : Nat) : Int), ((s : Nat) : Int)] 3 + oF [0, 0, 0, ((d + 1 : Nat) : Int), ((s : Nat) : Int)] 4 - 1 - (r : Int)).toNat = (c 14 u 3 + c 14 u 4 - 1 - (r : Int)).toNat := by
        show (((d + 1 : Nat) : Int) + ((s : Nat) : Int) - 1 - (r : Int)).toNat = _
        omega
      rw [hx]
      exact t6
end lev


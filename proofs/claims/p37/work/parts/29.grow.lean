theorem entK_cg {D : va_G} {ad ad' : AD} {f : Nat → Int} {k i : Nat} (hk : k < 25) (A1 : ∀ k', k' < 10 → ad k' 0 = ad' k' 0) (A2 : 10 ≤ k → ∀ k', 10 ≤ k' → (k < 18 ↔ k' < 18) → (k < 23 ↔ k' < 23) → ad k' i = ad' k' i) (A3 : k = 2 → ∀ j, j < (f 0).toNat → ad 10 j = ad' 10 j) (A4 : k = 3 → ∀ j, j < (f 0).toNat → ad 18 j = ad' 18 j) (A5 : k = 4 → ∀ j, j < (f 0).toNat → ad 23 j = ad' 23 j) (A6 : k = 10 → prf ad (f 1) = prf ad' (f 1)) (A7 : k = 18 → prf ad (f 2) = prf ad' (f 2)) (A8 : k = 23 → prf ad (f 1) = prf ad' (f 1)) : entK D ad f k i = entK D ad' f k i := by
  have hk' : k = 0 ∨ k = 1 ∨ k = 2 ∨ k = 3 ∨ k = 4 ∨ k = 5 ∨ k = 6 ∨ k = 7 ∨ k = 8 ∨ k = 9 ∨ k = 10 ∨ k = 11 ∨ k = 12 ∨ k = 13 ∨ k = 14 ∨ k = 15 ∨ k = 16 ∨ k = 17 ∨ k = 18 ∨ k = 19 ∨ k = 20 ∨ k = 21 ∨ k = 22 ∨ k = 23 ∨ k = 24 := by omega
  rcases hk' with rfl | rfl | rfl | rfl | rfl | rfl | rfl | rfl | rfl | rfl | rfl | rfl | rfl | rfl | rfl | rfl | rfl | rfl | rfl | rfl | rfl | rfl | rfl | rfl | rfl
  · show eO 7 [.ref (ad 1 0), .ref (ad 2 0), .ref (ad 3 0), .ref (ad 4 0), .ref (ad 5 0), vI (f 5), vI (f 6)] = eO 7 [.ref (ad' 1 0), .ref (ad' 2 0), .ref (ad' 3 0), .ref (ad' 4 0), .ref (ad' 5 0), vI (f 5), vI (f 6)]
    rw [A1 1 (by decide), A1 2 (by decide), A1 3 (by decide), A1 4 (by decide), A1 5 (by decide)]
  · rfl
  · show eR D 22 12 (fun j => if j < (f 0).toNat then some (ad 10 j) else none) = eR D 22 12 (fun j => if j < (f 0).toNat then some (ad' 10 j) else none)
    have e9 : (fun j => if j < (f 0).toNat then some (ad 10 j) else none) = fun j => if j < (f 0).toNat then some (ad' 10 j) else none := by
      funext j
      by_cases q : j < (f 0).toNat
      · rw [if_pos q, if_pos q, A3 rfl j q]
      · rw [if_neg q, if_neg q]
    rw [e9]
  · show eR D 24 20 (fun j => if j < (f 0).toNat then some (ad 18 j) else none) = eR D 24 20 (fun j => if j < (f 0).toNat then some (ad' 18 j) else none)
    have e9 : (fun j => if j < (f 0).toNat then some (ad 18 j) else none) = fun j => if j < (f 0).toNat then some (ad' 18 j) else none := by
      funext j
      by_cases q : j < (f 0).toNat
      · rw [if_pos q, if_pos q, A4 rfl j q]
      · rw [if_neg q, if_neg q]
    rw [e9]
  · show eR D 23 6 (fun j => if j < (f 0).toNat then some (ad 23 j) else none) = eR D 23 6 (fun j => if j < (f 0).toNat then some (ad' 23 j) else none)
    have e9 : (fun j => if j < (f 0).toNat then some (ad 23 j) else none) = fun j => if j < (f 0).toNat then some (ad' 23 j) else none := by
      funext j
      by_cases q : j < (f 0).toNat
      · rw [if_pos q, if_pos q, A5 rfl j q]
      · rw [if_neg q, if_neg q]
    rw [e9]
  · show eO 5 [.ref (ad 6 0), .ref (ad 7 0), .ref (ad 8 0), .ref (ad 9 0), vI (f 4), vI (((f 5).toNat : Nat) : Int), vI (f 6)] = eO 5 [.ref (ad' 6 0), .ref (ad' 7 0), .ref (ad' 8 0), .ref (ad' 9 0), vI (f 4), vI (((f 5).toNat : Nat) : Int), vI (f 6)]
    rw [A1 6 (by decide), A1 7 (by decide), A1 8 (by decide), A1 9 (by decide)]
  · show eO 0 [.ref (ad 1 0), vI (f 1), vI (f 2), vI (((f 3).toNat : Nat) : Int), vI (f 4)] = eO 0 [.ref (ad' 1 0), vI (f 1), vI (f 2), vI (((f 3).toNat : Nat) : Int), vI (f 4)]
    rw [A1 1 (by decide)]
  · rfl
  · rfl
  · rfl
  · show eO 3 [vI (f 0), va_rf (prf ad (f 1)), .ref (ad 11 i), .ref (ad 14 i), vI (f 4), vI (f 5)] = eO 3 [vI (f 0), va_rf (prf ad' (f 1)), .ref (ad' 11 i), .ref (ad' 14 i), vI (f 4), vI (f 5)]
    rw [A6 rfl, A2 (by decide) 11 (by decide) (by decide) (by decide), A2 (by decide) 14 (by decide) (by decide) (by decide)]
  · show eO 1 [.ref (ad 12 i), .ref (ad 13 i), vI (((f 2).toNat : Nat) : Int)] = eO 1 [.ref (ad' 12 i), .ref (ad' 13 i), vI (((f 2).toNat : Nat) : Int)]
    rw [A2 (by decide) 12 (by decide) (by decide) (by decide), A2 (by decide) 13 (by decide) (by decide) (by decide)]
  · rfl
  · rfl
  · show eO 2 [.ref (ad 15 i), .ref (ad 16 i), .ref (ad 17 i), vI (((f 3).toNat : Nat) : Int), vI (((f 4).toNat : Nat) : Int)] = eO 2 [.ref (ad' 15 i), .ref (ad' 16 i), .ref (ad' 17 i), vI (((f 3).toNat : Nat) : Int), vI (((f 4).toNat : Nat) : Int)]
    rw [A2 (by decide) 15 (by decide) (by decide) (by decide), A2 (by decide) 16 (by decide) (by decide) (by decide), A2 (by decide) 17 (by decide) (by decide) (by decide)]
  · rfl
  · rfl
  · rfl
  · show eO 6 [vI (f 0), vI (f 1), va_rf (prf ad (f 2)), .ref (ad 19 i), vI (f 4), .ref (ad 22 i), vI (f 6), vI (f 7)] = eO 6 [vI (f 0), vI (f 1), va_rf (prf ad' (f 2)), .ref (ad' 19 i), vI (f 4), .ref (ad' 22 i), vI (f 6), vI (f 7)]
    rw [A7 rfl, A2 (by decide) 19 (by decide) (by decide) (by decide), A2 (by decide) 22 (by decide) (by decide) (by decide)]
  · show eO 1 [.ref (ad 20 i), .ref (ad 21 i), vI (((f 2).toNat : Nat) : Int)] = eO 1 [.ref (ad' 20 i), .ref (ad' 21 i), vI (((f 2).toNat : Nat) : Int)]
    rw [A2 (by decide) 20 (by decide) (by decide) (by decide), A2 (by decide) 21 (by decide) (by decide) (by decide)]
  · rfl
  · rfl
  · rfl
  · show eO 4 [.ref (ad 24 i), va_rf (prf ad (f 1)), vI (f 2), vI (f 3)] = eO 4 [.ref (ad' 24 i), va_rf (prf ad' (f 1)), vI (f 2), vI (f 3)]
    rw [A2 (by decide) 24 (by decide) (by decide) (by decide), A8 rfl]
  · show eO 0 [.ref (ad 1 0), vI (f 1), vI (f 2), vI (((f 3).toNat : Nat) : Int), vI (f 4)] = eO 0 [.ref (ad' 1 0), vI (f 1), vI (f 2), vI (((f 3).toNat : Nat) : Int), vI (f 4)]
    rw [A1 1 (by decide)]
/-- the kinds from lo to hi get a new number n -/
def adG (ad : AD) (lo hi n : Nat) (nw : Nat → Nat) : AD := fun k i => if (lo ≤ k ∧ k < hi) ∧ i = n then nw k else ad k i
def cG (c : CS) (lo hi n : Nat) (F : Nat → Nat → Int) : CS := fun k i => if (lo ≤ k ∧ k < hi) ∧ i = n then F k else c k i
theorem adG_s {ad : AD} {lo hi n k : Nat} {nw : Nat → Nat} (h : lo ≤ k ∧ k < hi) : adG ad lo hi n nw k n = nw k := if_pos ⟨h, rfl⟩
theorem adG_k {ad : AD} {lo hi n k i : Nat} {nw : Nat → Nat} (h : ¬ (lo ≤ k ∧ k < hi)) : adG ad lo hi n nw k i = ad k i := if_neg (fun z => h z.1)
theorem adG_i {ad : AD} {lo hi n k i : Nat} {nw : Nat → Nat} (h : i ≠ n) : adG ad lo hi n nw k i = ad k i := if_neg (fun z => h z.2)
theorem cG_s {c : CS} {lo hi n k : Nat} {F : Nat → Nat → Int} (h : lo ≤ k ∧ k < hi) : cG c lo hi n F k n = F k := if_pos ⟨h, rfl⟩
theorem cG_k {c : CS} {lo hi n k i : Nat} {F : Nat → Nat → Int} (h : ¬ (lo ≤ k ∧ k < hi)) : cG c lo hi n F k i = c k i := if_neg (fun z => h z.1)
theorem cG_i {c : CS} {lo hi n k i : Nat} {F : Nat → Nat → Int} (h : i ≠ n) : cG c lo hi n F k i = c k i := if_neg (fun z => h z.2)
theorem prf_cg {ad ad' : AD} {z : Int} (h : ∀ w : Nat, z = (w : Int) + 1 → ad 18 w = ad' 18 w) : prf ad z = prf ad' z := by
  cases z with
  | ofNat n =>
    cases n with
    | zero => rfl
    | succ n => show some (ad 18 n) = some (ad' 18 n); rw [h n rfl]
  | negSucc n => rfl
/-- growth: what is new lies at cells that were free; the counts are L', W' -/
theorem RepC.grow {D : va_G} {ad : AD} {c : CS} {L W L' W' lo hi n : Nat} {h h1 : vh} {nw : Nat → Nat} {F : Nat → Nat → Int} (hR : RepC D ad c L W h) (hlo : 10 ≤ lo ∧ hi ≤ 25)
    (hlv : ∀ k i, lv L' W' k i → (lv L W k i ∧ ¬ ((lo ≤ k ∧ k < hi) ∧ i = n)) ∨ ((lo ≤ k ∧ k < hi) ∧ i = n))
    (hn : ∀ k, lo ≤ k → k < hi → h (nw k) = none) (hd : ∀ k k', lo ≤ k → k < hi → lo ≤ k' → k' < hi → k ≠ k' → nw k ≠ nw k')
    (hF : ∀ k, lo ≤ k → k < hi → h1 (nw k) = some (entK D (adG ad lo hi n nw) (F k) k n)) (hk : ∀ b e, h b = some e → h1 b = some e)
    (B3 : lo ≤ 10 → ∀ j, j < (c 2 0 0).toNat → j ≠ n) (B4 : 10 < lo → ∀ j, j < (c 3 0 0).toNat → j ≠ n) (hcase : (lo = 10 ∧ hi = 18) ∨ (lo = 18 ∧ hi = 23))
    (B6 : lo = 18 → ∀ i, lv L W 10 i → c 10 i 1 ≠ (n : Int) + 1) (B7 : lo = 18 → ∀ i, lv L W 18 i → c 18 i 2 ≠ (n : Int) + 1) (B8 : lo = 18 → ∀ i, lv L W 23 i → c 23 i 1 ≠ (n : Int) + 1) : CP D (adG ad lo hi n nw) L' W' h (cG c lo hi n F) h1 := by
  refine ⟨⟨fun k i hl => ?_, fun k i k' i' l1 l2 e => ?_⟩, fun b hb _ => ?_⟩
  · rcases hlv k i hl with ⟨l0, hne⟩ | ⟨⟨g1, g2⟩, rfl⟩
    · have e1 : adG ad lo hi n nw k i = ad k i := if_neg hne
      have e2 : cG c lo hi n F k i = c k i := if_neg hne
      rw [e1, e2, hk _ _ (hR.1 k i l0)]
      congr 1
      have hp : ∀ z : Int, (lo = 18 → z ≠ (n : Int) + 1) → prf ad z = prf (adG ad lo hi n nw) z := fun z hz => prf_cg (fun w hw => by
        by_cases q : (lo ≤ 18 ∧ 18 < hi) ∧ w = n
        · exfalso
          rcases hcase with ⟨r1, r2⟩ | ⟨r1, r2⟩
          · omega
          · exact hz r1 (by rw [hw, q.2])
        · exact (if_neg q).symm)
      have h2 := lv_or l0
      rcases Nat.lt_or_ge k 10 with hk10 | hk10
      · refine entK_cg (by omega) (fun k' hk' => (adG_k (by omega)).symm) (fun z => by omega) (fun z j hj => ?_) (fun z j hj => ?_) (fun z j hj => (adG_k (by omega)).symm) (fun z => by omega) (fun z => by omega) (fun z => by omega)
        · obtain rfl : i = 0 := by omega
          subst z
          rcases hcase with ⟨r1, r2⟩ | ⟨r1, r2⟩
          · exact (adG_i (B3 (by omega) j hj)).symm
          · exact (adG_k (by omega)).symm
        · obtain rfl : i = 0 := by omega
          subst z
          rcases hcase with ⟨r1, r2⟩ | ⟨r1, r2⟩
          · exact (adG_k (by omega)).symm
          · exact (adG_i (B4 (by omega) j hj)).symm
      · refine entK_cg l0.1 (fun k' hk' => (adG_k (by omega)).symm) (fun z k' hk' z1 z2 => ?_) (fun z => by omega) (fun z => by omega) (fun z => by omega) (fun z => hp _ (fun r => ?_)) (fun z => hp _ (fun r => ?_)) (fun z => hp _ (fun r => ?_))
        · exact (if_neg (fun q => by
            rcases hcase with ⟨r1, r2⟩ | ⟨r1, r2⟩
            · exact hne ⟨by omega, q.2⟩
            · exact hne ⟨by omega, q.2⟩)).symm
        · subst z; exact B6 r i l0
        · subst z; exact B7 r i l0
        · subst z; exact B8 r i l0
    · rw [adG_s ⟨g1, g2⟩, cG_s ⟨g1, g2⟩]
      exact hF k g1 g2
  · rcases hlv k i l1 with ⟨l0, hne⟩ | ⟨⟨g1, g2⟩, rfl⟩ <;> rcases hlv k' i' l2 with ⟨l0', hne'⟩ | ⟨⟨g1', g2'⟩, rfl⟩
    · rw [show adG ad lo hi n nw k i = ad k i from if_neg hne, show adG ad lo hi n nw k' i' = ad k' i' from if_neg hne'] at e
      exact hR.2 k i k' i' l0 l0' e
    · rw [show adG ad lo hi i' nw k i = ad k i from if_neg hne, adG_s ⟨g1', g2'⟩] at e
      exact absurd e (vnn (hR.1 k i l0) (hn k' g1' g2'))
    · rw [show adG ad lo hi i nw k' i' = ad k' i' from if_neg hne', adG_s ⟨g1, g2⟩] at e
      exact absurd e.symm (vnn (hR.1 k' i' l0') (hn k g1 g2))
    · rw [adG_s ⟨g1, g2⟩, adG_s ⟨g1', g2'⟩] at e
      by_cases q : k = k'
      · exact ⟨q, rfl⟩
      · exact absurd e (hd k k' g1 g2 g1' g2' q)
  · cases hb9 : h b with
    | none => exact absurd hb9 hb
    | some e => exact hk b e hb9


def naW (q g ak aq gi : Nat) : Nat → Nat := fun k => match k with
  | 18 => q
  | 19 => g
  | 20 => ak
  | 21 => aq
  | _ => gi
def FW (nu au pr st pf : Int) (f : Nat → Int) : Nat → Nat → Int := fun k => match k with
  | 18 => oF [nu, au, pr, 0, st, 0, pf, -1]
  | 19 => oF [0, 0, ((gna f (fun _ => 0) (fun j => if j < 3 then -1 else 0) 0 96 : Nat) : Int)]
  | 20 => gnf f (fun _ => 0) 96
  | 21 => gnq f (fun _ => 0) (fun j => if j < 3 then -1 else 0) 96
  | _ => fun _ => 0
theorem growWork {D : va_G} {ad : AD} {c : CS} {L W : Nat} {h h2 h3 : vh} {nu au pr st pf : Int} {q g ak aq gi : Nat} {f : Nat → Int} {PAR : Value} {e0 : va_E} (hR : RepC D ad c L W h) (hc : c 3 0 0 = (W : Int)) (hL : ∀ i, i < L → c 10 i 1 ≤ (W : Int)) (hW : ∀ i, i < W → c 18 i 2 ≤ (i : Int)) (hRn : ∀ i, i < 6 → c 23 i 1 ≤ (W : Int)) (hpr : pr ≤ (W : Int)) (hPAR : va_rf (prf ad pr) = PAR) (hq : h q = none) (h2e : h2 = hu h q e0)
    (hn : h2 g = none ∧ h2 ak = none ∧ h2 aq = none ∧ h2 gi = none)
    (hE : h3 q = some (eO 6 [vI nu, vI au, PAR, .ref g, vI st, .ref gi, vI pf, vI (-1)]) ∧ h3 g = some (eO 1 [.ref ak, .ref aq, vI ((gna f (fun _ => 0) (fun j => if j < 3 then -1 else 0) 0 96 : Nat) : Int)]) ∧ h3 ak = some (eI D 96 (gnf f (fun _ => 0) 96)) ∧ h3 aq = some (eI D 3 (gnq f (fun _ => 0) (fun j => if j < 3 then -1 else 0) 96)) ∧ h3 gi = some (eI D 6 (fun _ => 0)))
    (keep : ∀ (b9 : Nat) (e9 : va_E), b9 ≠ q → h2 b9 = some e9 → h3 b9 = some e9) : CP D (adG ad 18 23 W (naW q g ak aq gi)) L (W + 1) h (cG c 18 23 W (FW nu au pr st pf f)) h3 ∧ Grown ad (adG ad 18 23 W (naW q g ak aq gi)) L W L (W + 1) h := by
  subst h2e
  obtain ⟨n1, n2, n3, n4⟩ := hn
  obtain ⟨E0, E1, E2, E3, E4⟩ := hE
  have hz : ∀ x, hu h q e0 x = none → h x = none ∧ x ≠ q := fun x hx => hu_none hx
  have hnn : ∀ k, 18 ≤ k → k < 23 → h (naW q g ak aq gi k) = none := fun k k1 k2 => by
    rcases (show k = 18 ∨ k = 19 ∨ k = 20 ∨ k = 21 ∨ k = 22 by omega) with rfl | rfl | rfl | rfl | rfl
    · exact hq
    · exact (hz _ n1).1
    · exact (hz _ n2).1
    · exact (hz _ n3).1
    · exact (hz _ n4).1
  have ha : ∀ k, 18 ≤ k → k < 23 → adG ad 18 23 W (naW q g ak aq gi) k W = naW q g ak aq gi k := fun k k1 k2 => adG_s ⟨k1, k2⟩
  refine ⟨RepC.grow hR ⟨by decide, by decide⟩ (fun k i hl => lvW_s hl) hnn (fun k k' k1 k2 k3 k4 hne => ?_) (fun k k1 k2 => ?_) (fun b e hb => keep b e (vnn hb hq) (by rw [hu_n (vnn hb hq)]; exact hb)) (fun z => absurd z (by decide)) (fun _ j hj => by rw [hc] at hj; omega) (Or.inr ⟨rfl, rfl⟩) (fun _ i hi => ?_) (fun _ i hi => ?_) (fun _ i hi => ?_), fun k i hl => ?_, fun k i hl => ?_⟩
  · have hne' : ∀ a b : Nat, (a = 18 ∨ a = 19 ∨ a = 20 ∨ a = 21 ∨ a = 22) → (b = 18 ∨ b = 19 ∨ b = 20 ∨ b = 21 ∨ b = 22) → a < b → naW q g ak aq gi a ≠ naW q g ak aq gi b := by
      rintro a b (rfl | rfl | rfl | rfl | rfl) (rfl | rfl | rfl | rfl | rfl) hab <;> first
        | exact absurd hab (by decide)
        | exact vnt E0 E1 (p := (3, 6)) (q := (3, 1)) rfl rfl (by decide)
        | exact vnt E0 E2 (p := (3, 6)) (q := (0, 96)) rfl rfl (by decide)
        | exact vnt E0 E3 (p := (3, 6)) (q := (0, 3)) rfl rfl (by decide)
        | exact vnt E0 E4 (p := (3, 6)) (q := (0, 6)) rfl rfl (by decide)
        | exact vnt E1 E2 (p := (3, 1)) (q := (0, 96)) rfl rfl (by decide)
        | exact vnt E1 E3 (p := (3, 1)) (q := (0, 3)) rfl rfl (by decide)
        | exact vnt E1 E4 (p := (3, 1)) (q := (0, 6)) rfl rfl (by decide)
        | exact vnt E2 E3 (p := (0, 96)) (q := (0, 3)) rfl rfl (by decide)
        | exact vnt E2 E4 (p := (0, 96)) (q := (0, 6)) rfl rfl (by decide)
        | exact vnt E3 E4 (p := (0, 3)) (q := (0, 6)) rfl rfl (by decide)
    rcases Nat.lt_or_gt_of_ne hne with z | z
    · exact hne' k k' (by omega) (by omega) z
    · exact (hne' k' k (by omega) (by omega) z).symm
  · have hp : va_rf (prf (adG ad 18 23 W (naW q g ak aq gi)) pr) = PAR := by rw [← hPAR]; exact congrArg va_rf (prf_cg (fun w hw => (adG_i (show w ≠ W by omega)).symm)).symm
    rcases (show k = 18 ∨ k = 19 ∨ k = 20 ∨ k = 21 ∨ k = 22 by omega) with rfl | rfl | rfl | rfl | rfl
    · show h3 q = some (eO 6 [vI nu, vI au, va_rf (prf (adG ad 18 23 W (naW q g ak aq gi)) pr), .ref (adG ad 18 23 W (naW q g ak aq gi) 19 W), vI st, .ref (adG ad 18 23 W (naW q g ak aq gi) 22 W), vI pf, vI (-1)])
      rw [hp, ha 19 (by decide) (by decide), ha 22 (by decide) (by decide)]; exact E0
    · show h3 g = some (eO 1 [.ref (adG ad 18 23 W (naW q g ak aq gi) 20 W), .ref (adG ad 18 23 W (naW q g ak aq gi) 21 W), vI ((gna f (fun _ => 0) (fun j => if j < 3 then -1 else 0) 0 96 : Nat) : Int)])
      rw [ha 20 (by decide) (by decide), ha 21 (by decide) (by decide)]; exact E1
    · exact E2
    · exact E3
    · exact E4
  · rcases lv_or hi with q1 | q1 | q1 | q1
    · exfalso; omega
    · have := hL i q1.2; omega
    · exfalso; omega
    · exfalso; omega
  · rcases lv_or hi with q1 | q1 | q1 | q1
    · exfalso; omega
    · exfalso; omega
    · have := hW i q1.2; omega
    · exfalso; omega
  · rcases lv_or hi with q1 | q1 | q1 | q1
    · exfalso; omega
    · exfalso; omega
    · exfalso; omega
    · have := hRn i q1.2; omega
  · by_cases z : (18 ≤ k ∧ k < 23) ∧ i = W
    · rcases lv_or hl with q1 | q1 | q1 | q1 <;> exfalso <;> omega
    · exact if_neg z
  · rcases lvW_s hl with z | ⟨z1, rfl⟩
    · exact Or.inl z.1
    · exact Or.inr (by rw [ha k z1.1 z1.2]; exact hnn k z1.1 z1.2)
/-- the row of levels, of works, with one more -/
theorem rowLev {D : va_G} {ad : AD} {nw : Nat → Nat} {L q : Nat} {z : Int} (hz : z = (L : Int)) (hq : nw 10 = q) : eR D 22 12 (va_up (fun j => if j < z.toNat then some (ad 10 j) else none) L (some q)) = entK D (adG ad 10 18 L nw) (oF [((L + 1 : Nat) : Int)]) 2 0 := by
  have e : va_up (fun j => if j < z.toNat then some (ad 10 j) else none) L (some q) = fun j => if j < L + 1 then some (adG ad 10 18 L nw 10 j) else none := by
    funext j
    unfold va_up
    by_cases h1 : j = L
    · subst h1; rw [if_pos rfl, if_pos (Nat.lt_succ_self _), adG_s ⟨by decide, by decide⟩, hq]
    · rw [if_neg h1, adG_i h1]
      show (if j < z.toNat then some (ad 10 j) else none) = _
      by_cases  h2 : j < z.toNat
      · rw [if_pos h2, if_pos (by omega)]
      · rw [if_neg h2, if_neg (by omega)]
  rw [e]; rfl
theorem rowWrk {D : va_G} {ad : AD} {nw : Nat → Nat} {W q : Nat} {z : Int} (hz : z = (W : Int)) (hq : nw 18 = q) : eR D 24 20 (va_up (fun j => if j < z.toNat then some (ad 18 j) else none) W (some q)) = entK D (adG ad 18 23 W nw) (oF [((W + 1 : Nat) : Int)]) 3 0 := by
  have e : va_up (fun j => if j < z.toNat then some (ad 18 j) else none) W (some q) = fun j => if j < W + 1 then some (adG ad 18 23 W nw 18 j) else none := by
    funext j
    unfold va_up
    by_cases h1 : j = W
    · subst h1; rw [if_pos rfl, if_pos (Nat.lt_succ_self _), adG_s ⟨by decide, by decide⟩, hq]
    · rw [if_neg h1, adG_i h1]
      show (if j < z.toNat then some (ad 18 j) else none) = _
      by_cases  h2 : j < z.toNat
      · rw [if_pos h2, if_pos (by omega)]
      · rw [if_neg h2, if_neg (by omega)]
  rw [e]; rfl

def Grown (ad ad' : AD) (L W L' W' : Nat) (h : vh) : Prop := (∀ k i, lv L W k i → ad' k i = ad k i) ∧ ∀ k i, lv L' W' k i → lv L W k i ∨ h (ad' k i) = none
def naL (q g ak aq hi oc ob oa : Nat) : Nat → Nat := fun k => match k with
  | 10 => q
  | 11 => g
  | 12 => ak
  | 13 => aq
  | 14 => hi
  | 15 => oc
  | 16 => ob
  | _ => oa
def FL (au pr : Int) : Nat → Nat → Int := fun k => match k with
  | 10 => oF [au, pr, 0, 0, 72, -2]
  | 13 => fun j => if j < 3 then -1 else 0
  | _ => fun _ => 0
theorem lvL_s {L W k i : Nat} (h : lv (L + 1) W k i) : (lv L W k i ∧ ¬ ((10 ≤ k ∧ k < 18) ∧ i = L)) ∨ ((10 ≤ k ∧ k < 18) ∧ i = L) := by
  rcases lv_or h with ⟨h1, rfl⟩ | ⟨h1, h2⟩ | ⟨h1, h2⟩ | ⟨h1, h2⟩
  · exact Or.inl ⟨lv0 h1, by omega⟩
  · by_cases q : i = L
    · exact Or.inr ⟨h1, q⟩
    · exact Or.inl ⟨lvL h1 (by omega), by omega⟩
  · exact Or.inl ⟨lvW h1 h2, by omega⟩
  · exact Or.inl ⟨lvR h1 h2, by omega⟩
theorem lvW_s {L W k i : Nat} (h : lv L (W + 1) k i) : (lv L W k i ∧ ¬ ((18 ≤ k ∧ k < 23) ∧ i = W)) ∨ ((18 ≤ k ∧ k < 23) ∧ i = W) := by
  rcases lv_or h with ⟨h1, rfl⟩ | ⟨h1, h2⟩ | ⟨h1, h2⟩ | ⟨h1, h2⟩
  · exact Or.inl ⟨lv0 h1, by omega⟩
  · exact Or.inl ⟨lvL h1 h2, by omega⟩
  · by_cases q : i = W
    · exact Or.inr ⟨h1, q⟩
    · exact Or.inl ⟨lvW h1 (by omega), by omega⟩
  · exact Or.inl ⟨lvR h1 h2, by omega⟩
theorem growLevel {D : va_G} {ad : AD} {c : CS} {L W : Nat} {h h2 h3 : vh} {au pr : Int} {q g ak aq hi oc ob oa : Nat} {PAR : Value} {e0 : va_E} (hR : RepC D ad c L W h) (hc : c 2 0 0 = (L : Int)) (hPAR : va_rf (prf ad pr) = PAR) (hq : h q = none) (h2e : h2 = hu h q e0)
    (hn : h2 g = none ∧ h2 ak = none ∧ h2 aq = none ∧ h2 hi = none ∧ h2 oc = none ∧ h2 ob = none ∧ h2 oa = none) (hd : oc ≠ ob ∧ oc ≠ oa ∧ ob ≠ oa)
    (hE : h3 q = some (eO 3 [vI au, PAR, .ref g, .ref hi, vI 72, vI (-2)]) ∧ h3 g = some (eO 1 [.ref ak, .ref aq, vI ((0 : Nat) : Int)]) ∧ h3 ak = some (eI D 96 (fun _ => 0)) ∧ h3 aq = some (eI D 3 (fun j => if j < 3 then -1 else 0)) ∧ h3 hi = some (eO 2 [.ref oc, .ref ob, .ref oa, vI ((0 : Nat) : Int), vI ((0 : Nat) : Int)]) ∧ h3 oc = some (eI D 40 (fun _ => 0)) ∧ h3 ob = some (eI D 40 (fun _ => 0)) ∧ h3 oa = some (eI D 40 (fun _ => 0)))
    (keep : ∀ (b9 : Nat) (e9 : va_E), b9 ≠ q → h2 b9 = some e9 → h3 b9 = some e9) : CP D (adG ad 10 18 L (naL q g ak aq hi oc ob oa)) (L + 1) W h (cG c 10 18 L (FL au pr)) h3 ∧ Grown ad (adG ad 10 18 L (naL q g ak aq hi oc ob oa)) L W (L + 1) W h := by
  subst h2e
  obtain ⟨n1, n2, n3, n4, n5, n6, n7⟩ := hn
  obtain ⟨E0, E1, E2, E3, E4, E5, E6, E7⟩ := hE
  obtain ⟨d1, d2, d3⟩ := hd
  have hz : ∀ x, hu h q e0 x = none → h x = none ∧ x ≠ q := fun x hx => hu_none hx
  have t10 : vtag (eO 3 [vI au, PAR, .ref g, .ref hi, vI 72, vI (-2)]) = (3, 3) := rfl
  have hnn : ∀ k, 10 ≤ k → k < 18 → h (naL q g ak aq hi oc ob oa k) = none := fun k k1 k2 => by
    rcases (show k = 10 ∨ k = 11 ∨ k = 12 ∨ k = 13 ∨ k = 14 ∨ k = 15 ∨ k = 16 ∨ k = 17 by omega) with rfl | rfl | rfl | rfl | rfl | rfl | rfl | rfl
    · exact hq
    · exact (hz _ n1).1
    · exact (hz _ n2).1
    · exact (hz _ n3).1
    · exact (hz _ n4).1
    · exact (hz _ n5).1
    · exact (hz _ n6).1
    · exact (hz _ n7).1
  have ha : ∀ k, 10 ≤ k → k < 18 → adG ad 10 18 L (naL q g ak aq hi oc ob oa) k L = naL q g ak aq hi oc ob oa k := fun k k1 k2 => adG_s ⟨k1, k2⟩
  refine ⟨RepC.grow hR ⟨by decide, by decide⟩ (fun k i hl => lvL_s hl) hnn (fun k k' k1 k2 k3 k4 hne => ?_) (fun k k1 k2 => ?_) (fun b e hb => keep b e (vnn hb hq) (by rw [hu_n (vnn hb hq)]; exact hb)) (fun _ j hj => by rw [hc] at hj; omega) (fun z => absurd z (by decide)) (Or.inl ⟨rfl, rfl⟩) (fun z => absurd z (by decide)) (fun z => absurd z (by decide)) (fun z => absurd z (by decide)), fun k i hl => ?_, fun k i hl => ?_⟩
  · have hne' : ∀ a b : Nat, (a = 10 ∨ a = 11 ∨ a = 12 ∨ a = 13 ∨ a = 14 ∨ a = 15 ∨ a = 16 ∨ a = 17) → (b = 10 ∨ b = 11 ∨ b = 12 ∨ b = 13 ∨ b = 14 ∨ b = 15 ∨ b = 16 ∨ b = 17) → a < b → naL q g ak aq hi oc ob oa a ≠ naL q g ak aq hi oc ob oa b := by
      rintro a b (rfl | rfl | rfl | rfl | rfl | rfl | rfl | rfl) (rfl | rfl | rfl | rfl | rfl | rfl | rfl | rfl) hab <;> first
        | exact absurd hab (by decide)
        | exact vnt E0 E1 (p := (3, 3)) (q := (3, 1)) rfl rfl (by decide)
        | exact vnt E0 E2 (p := (3, 3)) (q := (0, 96)) rfl rfl (by decide)
        | exact vnt E0 E3 (p := (3, 3)) (q := (0, 3)) rfl rfl (by decide)
        | exact vnt E0 E4 (p := (3, 3)) (q := (3, 2)) rfl rfl (by decide)
        | exact vnt E0 E5 (p := (3, 3)) (q := (0, 40)) rfl rfl (by decide)
        | exact vnt E0 E6 (p := (3, 3)) (q := (0, 40)) rfl rfl (by decide)
        | exact vnt E0 E7 (p := (3, 3)) (q := (0, 40)) rfl rfl (by decide)
        | exact vnt E1 E2 (p := (3, 1)) (q := (0, 96)) rfl rfl (by decide)
        | exact vnt E1 E3 (p := (3, 1)) (q := (0, 3)) rfl rfl (by decide)
        | exact vnt E1 E4 (p := (3, 1)) (q := (3, 2)) rfl rfl (by decide)
        | exact vnt E1 E5 (p := (3, 1)) (q := (0, 40)) rfl rfl (by decide)
        | exact vnt E1 E6 (p := (3, 1)) (q := (0, 40)) rfl rfl (by decide)
        | exact vnt E1 E7 (p := (3, 1)) (q := (0, 40)) rfl rfl (by decide)
        | exact vnt E2 E3 (p := (0, 96)) (q := (0, 3)) rfl rfl (by decide)
        | exact vnt E2 E4 (p := (0, 96)) (q := (3, 2)) rfl rfl (by decide)
        | exact vnt E2 E5 (p := (0, 96)) (q := (0, 40)) rfl rfl (by decide)
        | exact vnt E2 E6 (p := (0, 96)) (q := (0, 40)) rfl rfl (by decide)
        | exact vnt E2 E7 (p := (0, 96)) (q := (0, 40)) rfl rfl (by decide)
        | exact vnt E3 E4 (p := (0, 3)) (q := (3, 2)) rfl rfl (by decide)
        | exact vnt E3 E5 (p := (0, 3)) (q := (0, 40)) rfl rfl (by decide)
        | exact vnt E3 E6 (p := (0, 3)) (q := (0, 40)) rfl rfl (by decide)
        | exact vnt E3 E7 (p := (0, 3)) (q := (0, 40)) rfl rfl (by decide)
        | exact vnt E4 E5 (p := (3, 2)) (q := (0, 40)) rfl rfl (by decide)
        | exact vnt E4 E6 (p := (3, 2)) (q := (0, 40)) rfl rfl (by decide)
        | exact vnt E4 E7 (p := (3, 2)) (q := (0, 40)) rfl rfl (by decide)
        | exact d1
        | exact d2
        | exact d3
    rcases Nat.lt_or_gt_of_ne hne with z | z
    · exact hne' k k' (by omega) (by omega) z
    · exact (hne' k' k (by omega) (by omega) z).symm
  · have b18 : ∀ w, adG ad 10 18 L (naL q g ak aq hi oc ob oa) 18 w = ad 18 w := fun w => adG_k (by decide)
    have hp : va_rf (prf (adG ad 10 18 L (naL q g ak aq hi oc ob oa)) pr) = PAR := by rw [← hPAR, prf_cg (fun w _ => (b18 w).symm)]
    rcases (show k = 10 ∨ k = 11 ∨ k = 12 ∨ k = 13 ∨ k = 14 ∨ k = 15 ∨ k = 16 ∨ k = 17 by omega) with rfl | rfl | rfl | rfl | rfl | rfl | rfl | rfl
    · show h3 q = some (eO 3 [vI au, va_rf (prf (adG ad 10 18 L (naL q g ak aq hi oc ob oa)) pr), .ref (adG ad 10 18 L (naL q g ak aq hi oc ob oa) 11 L), .ref (adG ad 10 18 L (naL q g ak aq hi oc ob oa) 14 L), vI 72, vI (-2)])
      rw [hp, ha 11 (by decide) (by decide), ha 14 (by decide) (by decide)]; exact E0
    · show h3 g = some (eO 1 [.ref (adG ad 10 18 L (naL q g ak aq hi oc ob oa) 12 L), .ref (adG ad 10 18 L (naL q g ak aq hi oc ob oa) 13 L), vI ((0 : Nat) : Int)])
      rw [ha 12 (by decide) (by decide), ha 13 (by decide) (by decide)]; exact E1
    · exact E2
    · exact E3
    · show h3 hi = some (eO 2 [.ref (adG ad 10 18 L (naL q g ak aq hi oc ob oa) 15 L), .ref (adG ad 10 18 L (naL q g ak aq hi oc ob oa) 16 L), .ref (adG ad 10 18 L (naL q g ak aq hi oc ob oa) 17 L), vI ((0 : Nat) : Int), vI ((0 : Nat) : Int)])
      rw [ha 15 (by decide) (by decide), ha 16 (by decide) (by decide), ha 17 (by decide) (by decide)]; exact E4
    · exact E5
    · exact E6
    · exact E7
  · by_cases z : (10 ≤ k ∧ k < 18) ∧ i = L
    · rcases lv_or hl with q1 | q1 | q1 | q1 <;> exfalso <;> omega
    · exact if_neg z
  · rcases lvL_s hl with z | ⟨z1, rfl⟩
    · exact Or.inl z.1
    · exact Or.inr (by rw [ha k z1.1 z1.2]; exact hnn k z1.1 z1.2)

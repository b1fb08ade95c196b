/-! ===== the start of the law: its tables' words, its classes ===== -/
set_option maxRecDepth 20000 in
theorem nw_in : ∀ w ∈ nwAll, w ∈ lw_tbl := by decide +kernel
set_option maxRecDepth 20000 in
theorem sw_in : ∀ q ∈ swL, Cond.stringRef q.1 q.2.1 q.2.2 ∈ lw_tbl := by decide +kernel
theorem sw_cls : ∀ q ∈ swL, q.1 = "LedgeLevels" := by decide +kernel
def stL : List Cond := [.arrayClass .int, .arrayClass .boolean, .arrayClass .long, .arrayOver (.object RX3), .arrayOver (.object RX4), .arrayOver (.object RX6), .instantiable RX0 5, .instantiable RX1 3, .instantiable RX2 5, .instantiable RX3 6, .instantiable RX4 4, .instantiable RX5 7, .instantiable RX6 8, .instantiable RX7 7, .instantiable RX8 38, .laysStatic Bundle.tN "UNASSIGNED_STACK" Bundle.steD, .laysStatic Bundle.tN "SUPPRESSED_SENTINEL" Bundle.listD, .initialized Bundle.tN]
set_option maxRecDepth 20000 in
theorem st_in : ∀ w ∈ stL, w ∈ lw_tbl := by decide +kernel
def stG : List Cond := [.not (.castable "java/lang/IllegalArgumentException" "java/lang/IndexOutOfBoundsException"), .not (.castable "java/lang/IllegalStateException" "java/lang/IndexOutOfBoundsException"), .not (.castable "java/lang/IllegalStateException" "java/lang/IllegalArgumentException"), .isRef (.static Bundle.tN "UNASSIGNED_STACK" Bundle.steD), .isRef (.static Bundle.tN "SUPPRESSED_SENTINEL" Bundle.listD)]
set_option maxRecDepth 20000 in
theorem st_gv : ∀ w ∈ stG, w ∈ flatC (Jvm.Cond.and given_1 narrow_1) := by decide +kernel
def stR : List Cond := [.classLink RL 8 RX7, .instantiable RX7 7, .initialized RX7, .classLink RL 116 RX8, .instantiable RX8 38, .initialized RX8, .arrayClass .long, .methodLink RL 115 yX7_init, .instanceMethod yX7_init, .methodLink RL 118 yX8_init, .instanceMethod yX8_init]
theorem st_r : ∀ w ∈ stR, w ∈ wsL_law := List.forall_mem_cons.mpr ⟨List.mem_of_getElem? (i := 0) (by decide +kernel), List.forall_mem_cons.mpr ⟨List.mem_of_getElem? (i := 1) (by decide +kernel), List.forall_mem_cons.mpr ⟨List.mem_of_getElem? (i := 2) (by decide +kernel), List.forall_mem_cons.mpr ⟨List.mem_of_getElem? (i := 3) (by decide +kernel), List.forall_mem_cons.mpr ⟨List.mem_of_getElem? (i := 4) (by decide +kernel), List.forall_mem_cons.mpr ⟨List.mem_of_getElem? (i := 5) (by decide +kernel), List.forall_mem_cons.mpr ⟨List.mem_of_getElem? (i := 6) (by decide +kernel), List.forall_mem_cons.mpr ⟨List.mem_of_getElem? (i := 7) (by decide +kernel), List.forall_mem_cons.mpr ⟨List.mem_of_getElem? (i := 8) (by decide +kernel), List.forall_mem_cons.mpr ⟨List.mem_of_getElem? (i := 63) (by decide +kernel), List.forall_mem_cons.mpr ⟨List.mem_of_getElem? (i := 64) (by decide +kernel), fun _ h => absurd h List.not_mem_nil⟩⟩⟩⟩⟩⟩⟩⟩⟩⟩⟩
theorem st_rk (k : Nat) {w : Cond} (h : stR[k]? = some w) : w ∈ wsL_law := st_r w (List.mem_of_getElem? h)
theorem st_lk (k : Nat) {w : Cond} (h : stL[k]? = some w) : w ∈ lw_tbl := st_in w (List.mem_of_getElem? h)
theorem st_gk (k : Nat) {w : Cond} (h : stG[k]? = some w) : w ∈ flatC (Jvm.Cond.and given_1 narrow_1) := st_gv w (List.mem_of_getElem? h)
theorem nw_of {w : Cond} (h : nwK w = true) {B : Array Value} {U : State} (hb : w.before B U = true) : va_Nw w U := by
  cases w <;> first | exact va_Nw.of rfl hb | (simp [nwK] at h; done) | exact hb
theorem st_arr {s : State} {B : Array Value} {ty : FieldType} (hp : ∀ C : String, ty ≠ .object C) (h : (Cond.arrayClass ty).before B s = true) : ∃ cA : ClassId, ArrOfT s cA ty ∧ va_RA s cA ty := by
  obtain ⟨c, k, comp, h1, h2, h3⟩ := Cond.arrayClass_spec h
  refine ⟨c, fun n z => ⟨fun q e => (by cases e), k, h2, comp, h3⟩, ?_⟩
  cases ty with
  | object C => exact absurd rfl (hp C)
  | _ => exact h1
theorem st_arrO {s : State} {B : Array Value} {C : String} (h : (Cond.arrayOver (.object C)).before B s = true) : ∃ cA : ClassId, ArrOfT s cA (.object C) ∧ va_RA s cA (.object C) := by
  obtain ⟨comp, c, k, h1, h2, h3, h4, h5⟩ := Cond.arrayOver_spec h
  exact ⟨c, fun n z => ⟨fun q e => (by cases e), k, h3, comp, h4⟩, k, comp, h3, h4, h1, h5⟩
theorem st_K {s : State} {B : Array Value} (hts : ∀ w ∈ lw_tbl, w.before B s = true) : ∃ D : va_G, va_K D vwCl (tyL D) s := by
  have F : ∀ c : Nat, ∃ x : ClassId × (Nat → Nat), ∀ q, vwCl[c]? = some q → u_Kn s q.1 q.2.1 q.2.2 x.1 x.2 := fun c => by
    match c with
    | 0 => obtain ⟨a, i, h⟩ := u_known hts inX0 (hts _ (st_lk 6 rfl)); exact ⟨(a, i), fun q hq => by cases hq; exact h⟩
    | 1 => obtain ⟨a, i, h⟩ := u_known hts inX1 (hts _ (st_lk 7 rfl)); exact ⟨(a, i), fun q hq => by cases hq; exact h⟩
    | 2 => obtain ⟨a, i, h⟩ := u_known hts inX2 (hts _ (st_lk 8 rfl)); exact ⟨(a, i), fun q hq => by cases hq; exact h⟩
    | 3 => obtain ⟨a, i, h⟩ := u_known hts inX3 (hts _ (st_lk 9 rfl)); exact ⟨(a, i), fun q hq => by cases hq; exact h⟩
    | 4 => obtain ⟨a, i, h⟩ := u_known hts inX4 (hts _ (st_lk 10 rfl)); exact ⟨(a, i), fun q hq => by cases hq; exact h⟩
    | 5 => obtain ⟨a, i, h⟩ := u_known hts inX5 (hts _ (st_lk 11 rfl)); exact ⟨(a, i), fun q hq => by cases hq; exact h⟩
    | 6 => obtain ⟨a, i, h⟩ := u_known hts inX6 (hts _ (st_lk 12 rfl)); exact ⟨(a, i), fun q hq => by cases hq; exact h⟩
    | 7 => obtain ⟨a, i, h⟩ := u_known hts inX7 (hts _ (st_lk 13 rfl)); exact ⟨(a, i), fun q hq => by cases hq; exact h⟩
    | 8 => obtain ⟨a, i, h⟩ := u_known hts inX8 (hts _ (st_lk 14 rfl)); exact ⟨(a, i), fun q hq => by cases hq; exact h⟩
    | c + 9 => exact ⟨(0, fun _ => 0), fun q hq => by simp at hq⟩
  have hf : ∀ c q, vwCl[c]? = some q → u_Kn s q.1 q.2.1 q.2.2 (Classical.choose (F c)).1 (Classical.choose (F c)).2 := fun c => Classical.choose_spec (F c)
  obtain ⟨a0, p0, q0⟩ := st_arr (ty := .int) (fun C e => by cases e) (hts _ (st_lk 0 rfl))
  obtain ⟨a1, p1, q1⟩ := st_arr (ty := .boolean) (fun C e => by cases e) (hts _ (st_lk 1 rfl))
  obtain ⟨a5, p5, q5⟩ := st_arr (ty := .long) (fun C e => by cases e) (hts _ (st_lk 2 rfl))
  obtain ⟨a2, p2, q2⟩ := st_arrO (C := RX3) (hts _ (st_lk 3 rfl))
  obtain ⟨a3, p3, q3⟩ := st_arrO (C := RX4) (hts _ (st_lk 4 rfl))
  obtain ⟨a4, p4, q4⟩ := st_arrO (C := RX6) (hts _ (st_lk 5 rfl))
  refine ⟨(fun k => if k < 20 then (Classical.choose (F k)).1 else if k = 20 then a0 else if k = 21 then a1 else if k = 22 then a2 else if k = 23 then a3 else if k = 24 then a4 else a5, fun k => (Classical.choose (F k)).2), fun c q hc => ?_, fun k q hk => ?_⟩
  · have hlt : c < 9 := (List.getElem?_eq_some_iff.mp hc).1
    have h9 := hf c q hc
    show u_Kn s q.1 q.2.1 q.2.2 (if c < 20 then _ else _) _
    rw [if_pos (by omega)]
    exact h9
  · match k, hk with
    | 0, hk => cases hk; exact ⟨p0, q0⟩
    | 1, hk => cases hk; exact ⟨p1, q1⟩
    | 2, hk => cases hk; exact ⟨p2, q2⟩
    | 3, hk => cases hk; exact ⟨p3, q3⟩
    | 4, hk => cases hk; exact ⟨p4, q4⟩
    | 5, hk => cases hk; exact ⟨p5, q5⟩
    | k + 6, hk => simp [tyL] at hk
theorem and63 (a : Int32) : ∃ z : Nat, z ≤ 63 ∧ a &&& iI 63 = iI ((z : Nat) : Int) := by
  have e : a = iI ((a.toBitVec.toNat : Nat) : Int) := by
    apply Int32.toBitVec_inj.mp
    rw [iI_tB]
    simp
  refine ⟨a.toBitVec.toNat &&& 63, Nat.and_le_right, ?_⟩
  exact (congrArg (fun x => x &&& iI 63) e).trans (iI_and _ 63)
theorem sb_init : SB cI (21 * ((0 : Nat) : Int)) := ⟨⟨by decide, fun j => ⟨Int.le_refl _, (by decide : (0 : Int) ≤ 6143)⟩, fun j => ⟨Int.le_refl _, Int.le_refl _⟩, fun j => ⟨Int.le_refl _, (by decide : (0 : Int) ≤ 1)⟩, by decide, by decide⟩, by decide, by decide⟩
set_option maxRecDepth 20000 in
set_option maxHeartbeats 4000000 in
theorem law_loop {κ : KX} {D : va_G} {A : Nat → Prop} {nm : String} (C : CX κ "LedgeLevelsLaw" nm cL_law wsL_law { frames := 12, cells := 601024, slots := 7293034, locals := 438 } D A 7) (kn : KN κ) {b x mm ao nS : Nat} {sc : Nat → Int} (xs0 : XS κ b nS sc) (hnS : nS ≤ 2048) (hsc : ∀ j, -2147483648 ≤ sc j ∧ sc j ≤ 2147483647) (E : ∀ (h : vh) (n1 n2 : Nat) (ls : List (Nat × Value)), n1 ≤ 601024 → n2 ≤ 7293034 → X κ n1 n2 h ls 2172 []) : ∀ (N t : Nat) (h : vh) (n1 n2 : Nat), 513 ≤ N + t → 4 * t ≤ nS + 3 → Sy D x mm ao h t → n1 ≤ 1000 + 500 * t → n2 ≤ 31000 + 3000 * t → X κ n1 n2 h [(0, .ref b), (1, .ref x), (2, .ref mm), (3, .ref ao), (4, vI ((4 * t : Nat) : Int))] 23 [] := by
  intro N
  induction N with
  | zero => intro t h n1 n2 h1 h2; exfalso; omega
  | succ N ih =>
  intro t h n1 n2 hN ht4 hS hn1 hn2
  refine x_iload C dL_law_23 4 rfl ?_
  refine x_aload_n C dL_law_25 0 rfl ?_
  refine x_slen C xs0 ((nS : Nat) : Int) (iI_nat nS).symm dL_law_26 ?_
  refine x_iconst C dL_law_27 4 (by decide) ?_
  refine x_isub C dL_law_28 ?_
  refine x_icmp_gt (tgt := 2172) C dL_law_29 (by decide) (by omega) (by omega) (fun _ => E h n1 n2 _ (by omega) (by omega)) (fun hi0 => ?_)
  have hi : 4 * t + 3 < nS := by omega
  have ht : t < 512 := by omega
  have K : ∀ h9, Sy D x mm ao h9 (t + 1) → X κ (n1 + 500) (n2 + 3000) h9 [(0, .ref b), (1, .ref x), (2, .ref mm), (3, .ref ao), (4, vI ((4 * t : Nat) : Int))] 2166 [] := fun h9 hS9 => by
    refine x_iinc (ls' := [(0, .ref b), (1, .ref x), (2, .ref mm), (3, .ref ao), (4, vI ((4 * (t + 1) : Nat) : Int))]) C dL_law_2166 4 rfl (by decide) (by rw [show (((4 * t : Nat) : Int) + 4) = ((4 * (t + 1) : Nat) : Int) by omega]; rfl) ?_
    refine x_goto (tgt := 23) C dL_law_2169 (by decide) ?_
    exact ih (t + 1) h9 _ _ (by omega) (by omega) hS9 (by omega) (by omega)
  have hn : n1 + 500 ≤ 601024 ∧ n2 + 3000 ≤ 7293034 := ⟨by omega, by omega⟩
  refine x_aload_n C dL_law_32 0 rfl ?_
  refine x_iload C dL_law_33 4 rfl ?_
  refine x_sld C xs0 ⟨by omega, by omega⟩ (by omega) dL_law_35 ?_
  refine x_bipush C dL_law_36 63 (by decide) ?_
  obtain ⟨z, hz, ez⟩ := and63 (iI (sc (Int.toNat ((4 * t : Nat) : Int))))
  refine x_iandv C ((z : Nat) : Int) ez dL_law_38 ?_
  refine x_tsw C dL_law_39 ⟨by omega, by omega⟩ (by decide) (by decide) (fun j j1 j2 => by show (j - 0).toNat < 34; omega) (fun _ => ?_) (fun hin off hoff => ?_)
  · show X κ n1 n2 h _ 2166 []
    refine x_widen (m1 := n1 + 500) (m2 := n2 + 3000) (by omega) (by omega) ?_
    obtain ⟨ad, c, L, W, am, m, fo, s1, s2, s3, s4, s5, s6, s7⟩ := hS
    exact K h ⟨ad, c, L, W, am, m, fo, s1, s2, s3, s4, s5, s6, s7.le (by omega)⟩
  · have hz2 : z < 34 := by omega
    have ey : (((z : Nat) : Int) - 0).toNat = z := by omega
    rw [ey] at hoff
    clear ez hin ey hz
    match z, hz2, hoff with
    | 0, _, hoff => have e9 : off = 149 := (Option.some.inj hoff).symm; subst e9; show X κ n1 n2 h _ 188 []; exact lc_begin (i := 4 * t) C kn xs0 hS ht hi hnS hsc hn K
    | 1, _, hoff => have e9 : off = 205 := (Option.some.inj hoff).symm; subst e9; show X κ n1 n2 h _ 244 []; exact lc_set (i := 4 * t) C kn xs0 hS ht hi hnS hsc hn K
    | 2, _, hoff => have e9 : off = 285 := (Option.some.inj hoff).symm; subst e9; show X κ n1 n2 h _ 324 []; exact lc_setStart (i := 4 * t) C kn xs0 hS ht hi hnS hsc hn K
    | 3, _, hoff => have e9 : off = 353 := (Option.some.inj hoff).symm; subst e9; show X κ n1 n2 h _ 392 []; exact lc_undo (i := 4 * t) C kn xs0 hS ht hi hnS hsc hn K
    | 4, _, hoff => have e9 : off = 409 := (Option.some.inj hoff).symm; subst e9; show X κ n1 n2 h _ 448 []; exact lc_redo (i := 4 * t) C kn xs0 hS ht hi hnS hsc hn K
    | 5, _, hoff => have e9 : off = 465 := (Option.some.inj hoff).symm; subst e9; show X κ n1 n2 h _ 504 []; exact lc_setSpring (i := 4 * t) C kn xs0 hS ht hi hnS hsc hn K
    | 6, _, hoff => have e9 : off = 533 := (Option.some.inj hoff).symm; subst e9; show X κ n1 n2 h _ 572 []; exact lc_prove (i := 4 * t) C kn xs0 hS ht hi hnS hsc hn K
    | 7, _, hoff => have e9 : off = 589 := (Option.some.inj hoff).symm; subst e9; show X κ n1 n2 h _ 628 []; exact lc_offer (i := 4 * t) C kn xs0 hS ht hi hnS hsc hn K
    | 8, _, hoff => have e9 : off = 645 := (Option.some.inj hoff).symm; subst e9; show X κ n1 n2 h _ 684 []; exact lc_copy (i := 4 * t) C kn xs0 hS ht hi hnS hsc hn K
    | 9, _, hoff => have e9 : off = 713 := (Option.some.inj hoff).symm; subst e9; show X κ n1 n2 h _ 752 []; exact lc_star (i := 4 * t) C kn xs0 hS ht hi hnS hsc hn K
    | 10, _, hoff => have e9 : off = 793 := (Option.some.inj hoff).symm; subst e9; show X κ n1 n2 h _ 832 []; exact lc_run (i := 4 * t) C kn xs0 hS ht hi hnS hsc hn K
    | 11, _, hoff => have e9 : off = 861 := (Option.some.inj hoff).symm; subst e9; show X κ n1 n2 h _ 900 []; exact lc_step (i := 4 * t) C kn xs0 hS ht hi hnS hsc hn K
    | 12, _, hoff => have e9 : off = 929 := (Option.some.inj hoff).symm; subst e9; show X κ n1 n2 h _ 968 []; exact lc_levels (i := 4 * t) C kn xs0 hS ht hi hnS hsc hn K
    | 13, _, hoff => have e9 : off = 942 := (Option.some.inj hoff).symm; subst e9; show X κ n1 n2 h _ 981 []; exact lc_at (i := 4 * t) C kn xs0 hS ht hi hnS hsc hn K
    | 14, _, hoff => have e9 : off = 1010 := (Option.some.inj hoff).symm; subst e9; show X κ n1 n2 h _ 1049 []; exact lc_start (i := 4 * t) C kn xs0 hS ht hi hnS hsc hn K
    | 15, _, hoff => have e9 : off = 1066 := (Option.some.inj hoff).symm; subst e9; show X κ n1 n2 h _ 1105 []; exact lc_edits (i := 4 * t) C kn xs0 hS ht hi hnS hsc hn K
    | 16, _, hoff => have e9 : off = 1150 := (Option.some.inj hoff).symm; subst e9; show X κ n1 n2 h _ 1189 []; exact lc_proof (i := 4 * t) C kn xs0 hS ht hi hnS hsc hn K
    | 17, _, hoff => have e9 : off = 1206 := (Option.some.inj hoff).symm; subst e9; show X κ n1 n2 h _ 1245 []; exact lc_shortest (i := 4 * t) C kn xs0 hS ht hi hnS hsc hn K
    | 18, _, hoff => have e9 : off = 1274 := (Option.some.inj hoff).symm; subst e9; show X κ n1 n2 h _ 1313 []; exact lc_reach (i := 4 * t) C kn xs0 hS ht hi hnS hsc hn K
    | 19, _, hoff => have e9 : off = 1330 := (Option.some.inj hoff).symm; subst e9; show X κ n1 n2 h _ 1369 []; exact lc_farthest (i := 4 * t) C kn xs0 hS ht hi hnS hsc hn K
    | 20, _, hoff => have e9 : off = 1386 := (Option.some.inj hoff).symm; subst e9; show X κ n1 n2 h _ 1425 []; exact lc_strength (i := 4 * t) C kn xs0 hS ht hi hnS hsc hn K
    | 21, _, hoff => have e9 : off = 1442 := (Option.some.inj hoff).symm; subst e9; show X κ n1 n2 h _ 1481 []; exact lc_works (i := 4 * t) C kn xs0 hS ht hi hnS hsc hn K
    | 22, _, hoff => have e9 : off = 1455 := (Option.some.inj hoff).symm; subst e9; show X κ n1 n2 h _ 1494 []; exact lc_author (i := 4 * t) C kn xs0 hS ht hi hnS hsc hn K
    | 23, _, hoff => have e9 : off = 1511 := (Option.some.inj hoff).symm; subst e9; show X κ n1 n2 h _ 1550 []; exact lc_best (i := 4 * t) C kn xs0 hS ht hi hnS hsc hn K
    | 24, _, hoff => have e9 : off = 1567 := (Option.some.inj hoff).symm; subst e9; show X κ n1 n2 h _ 1606 []; exact lc_parent (i := 4 * t) C kn xs0 hS ht hi hnS hsc hn K
    | 25, _, hoff => have e9 : off = 1623 := (Option.some.inj hoff).symm; subst e9; show X κ n1 n2 h _ 1662 []; exact lc_line (i := 4 * t) C kn xs0 hS ht hi hnS hsc hn K
    | 26, _, hoff => have e9 : off = 1679 := (Option.some.inj hoff).symm; subst e9; show X κ n1 n2 h _ 1718 []; exact lc_stars (i := 4 * t) C kn xs0 hS ht hi hnS hsc hn K
    | 27, _, hoff => have e9 : off = 1735 := (Option.some.inj hoff).symm; subst e9; show X κ n1 n2 h _ 1774 []; exact lc_credit (i := 4 * t) C kn xs0 hS ht hi hnS hsc hn K
    | 28, _, hoff => have e9 : off = 1791 := (Option.some.inj hoff).symm; subst e9; show X κ n1 n2 h _ 1830 []; exact lc_record (i := 4 * t) C kn xs0 hS ht hi hnS hsc hn K
    | 29, _, hoff => have e9 : off = 1847 := (Option.some.inj hoff).symm; subst e9; show X κ n1 n2 h _ 1886 []; exact lc_runState (i := 4 * t) C kn xs0 hS ht hi hnS hsc hn K
    | 30, _, hoff => have e9 : off = 1903 := (Option.some.inj hoff).symm; subst e9; show X κ n1 n2 h _ 1942 []; exact lc_body (i := 4 * t) C kn xs0 hS ht hi hnS hsc hn K
    | 31, _, hoff => have e9 : off = 1959 := (Option.some.inj hoff).symm; subst e9; show X κ n1 n2 h _ 1998 []; exact lc_speed (i := 4 * t) C kn xs0 hS ht hi hnS hsc hn K
    | 32, _, hoff => have e9 : off = 2015 := (Option.some.inj hoff).symm; subst e9; show X κ n1 n2 h _ 2054 []; exact lc_keys (i := 4 * t) C kn xs0 hS ht hi hnS hsc hn K
    | 33, _, hoff => have e9 : off = 2071 := (Option.some.inj hoff).symm; subst e9; show X κ n1 n2 h _ 2110 []; exact lc_stepsOf (i := 4 * t) C kn xs0 hS ht hi hnS hsc hn K
    | z + 34, hz2, _ => exfalso; omega
/-! THE CLAIM OUT OF ONE WALK OF THE LAW'S BODY. Your part is whole_start (and what it stands on); all else here is the same for every law, but numbers. -/
def R_law : String := "LedgeLevelsLaw"
def lw_P (b : Addr) (xs : List Int32) (args : Array Value) (s : State) : Prop := args = #[.ref b] ∧ s.IntsAt b xs ∧ xs.length ≤ 2048 ∧ (Jvm.Cond.and given_1 narrow_1).before args s = true
def lw_Q (_ : Array Value) (s : State) (o : Outcome) (t : State) : Prop := o = .returned (some (.int 1)) ∧ Framed s o t [] 601024 7293034
def lw_Z (below : List Frame) (a : Array Value) (s : State) : State → Prop := fun t => ∃ o, t.status = .running ∧ Ended t below o ∧ lw_Q a s o t
/-- the law's own end, with 1 on the stack, nothing written that was there before, its room as the claim has it -/
theorem lw_ret {p : Program} {l : Launch} {e : Env} {s : State} {m : MethodId} {below : List Frame} {meth : Method} {c : Code} {b : Nat} (hx : p.tables.exec = Jvm.exec) (hb : c.code = code) (hr : meth.sig.returnType = ret) (hlocks : meth.locks = false) {pc : Nat} {H : Heap} {ls : Array Slot} (hdg : decode code pc = .ok (.ireturn, 1)) : W p l e room_1 s m #[Value.ref b] below meth c H [] 601024 7293034 (lw_Z below #[Value.ref b] s) (F0 m pc ls [.int 1]) := by
  intro T hT X
  obtain ⟨fs, hret, hrun, hended, hW, hframe⟩ := X.leave (v := some (.int 1)) (hlocks := hlocks) (fun h => by rw [hr] at h; cases h)
  have hmeth' : T.vm.method? m = some meth := X.method'
  refine ⟨T.setFrames fs, ?_, .returned (some (.int 1)), hrun, hended, rfl, ⟨_, rfl⟩, hW, hframe⟩
  jvm_step X.here [X.here.top, hx, hb, hdg, hmeth', hr, ret, narrow_b1]
  (try refine ⟨rfl, ?_⟩); (try refine ⟨rfl, ?_⟩)
  first | (intro acts; rw [hret _ acts rfl rfl rfl]) | rw [hret _ _ rfl rfl rfl]
  exact Steps.refl _
/-- what holds at the law's entry: the machine, the code, the tables' words (any of lw_tbl by 'hts w (by decide +kernel)'), the script of L ints xs at the cell b, what the Statement gives of the start (any of its parts by flat_of_before) -/
def lw_At (p : Program) (s : State) (m : MethodId) (meth : Method) (c : Code) (b L : Nat) (xs : Nat → Int32) : Prop :=
  p.tables.exec = Jvm.exec ∧ c.code = code ∧ meth.sig.returnType = ret ∧ c.maxLocals = 7 ∧ s.vm.findClass R_law = some m.cls ∧ (∀ w ∈ lw_tbl, w.before #[Value.ref b] s = true) ∧ va_X b L xs s s.heap ∧ b < s.heap.size ∧ meth.locks = false ∧ (Jvm.Cond.and given_1 narrow_1).before #[Value.ref b] s = true
theorem whole_start {p : Program} {e : Env} {s : State} {m : MethodId} {below : List Frame} {meth : Method} {c : Code} (l : Launch) (hflags : l.flags = flags0) {b L : Nat} {xs : Nat → Int32} (hL : L ≤ 2048) (C0 : lw_At p s m meth c b L xs) : W p l e room_1 s m #[Value.ref b] below meth c s.heap [] 0 0 (lw_Z below #[Value.ref b] s) (entryFrame m ([Value.ref b] : List Value).toArray 7) := by
  obtain ⟨hx, hcb, hret, hml, hown, hts, hX, hbl, hlk, hgv⟩ := C0
  obtain ⟨D, hK⟩ := st_K hts
  have hfl := flat_of_before _ hgv
  obtain ⟨A, hA⟩ : ∃ A : Nat → Prop, A = fun q => s.heap.size ≤ q := ⟨_, rfl⟩
  have nA : ∀ a : Nat, a < s.heap.size → ¬ A a := fun a ha => by rw [hA]; exact Nat.not_le.mpr ha
  have yA : ∀ q, s.heap.size ≤ q → A q := fun q hq => by rw [hA]; exact hq
  have hNC : NC s := ⟨va_Nc.of (hfl _ (st_gk 0 rfl)), va_Nc.of (hfl _ (st_gk 1 rfl)), va_Nc.of (hfl _ (st_gk 2 rfl))⟩
  have hc7 : s.vm.findClass "LedgeLevels" = some (D.1 7) := (hK.1 7 _ rfl).2.1
  have hE : EV l D A s s.heap := by
    refine ⟨?_, hK, fun w hw => nw_of (nw_all w hw) (hts w (nw_in w hw)), fun q hq => ?_, vx_Zqof (hts _ (st_lk 15 rfl)) (hts _ (st_lk 17 rfl)) (hfl _ (st_gk 3 rfl)) nA, vx_Zqof (hts _ (st_lk 16 rfl)) (hts _ (st_lk 17 rfl)) (hfl _ (st_gk 4 rfl)) nA, yA⟩
    · show (!l.flags.contains noTraceFlag) = false
      rw [hflags]; decide +kernel
    · have hw := hts _ (sw_in q hq)
      obtain ⟨k, cf, i, a, -, -, -, -, -, hev⟩ := Cond.stringRef_spec (cur := D.1 7) (by rw [sw_cls q hq]; exact hc7) hw
      exact ⟨a, vk_R.of hw hev⟩
  obtain ⟨κ, hκ⟩ : ∃ κ : KX, κ = (p, l, e, room_1, s, m, #[Value.ref b], below, meth, c, lw_Z below #[Value.ref b] s, D, A, 7) := ⟨_, rfl⟩
  have C : CX κ "LedgeLevelsLaw" meth.name cL_law wsL_law { frames := 12, cells := 601024, slots := 7293034, locals := 438 } D A 7 := by
    subst hκ
    exact ⟨hx, hcb, hml, hown, fun w hw => hts w (wsL_law_in w hw), hlk, rfl, hE, rfl, rfl, rfl, rfl⟩
  have kn : KN κ := by subst hκ; exact hNC
  have xs0 : XS κ b L (fun j => (xs j).toInt) := by subst hκ; exact ⟨xs, hX, hbl, nA b hbl, fun j => (Int32.ofInt_toInt (xs j)).symm⟩
  have hsc : ∀ j, -2147483648 ≤ (xs j).toInt ∧ (xs j).toInt ≤ 2147483647 := fun j => ⟨Int32.le_toInt (xs j), by have := Int32.toInt_lt (xs j); omega⟩
  have hEnd : ∀ (h : vh) (n1 n2 : Nat) (ls : List (Nat × Value)), n1 ≤ 601024 → n2 ≤ 7293034 → X κ n1 n2 h ls 2172 [] := fun h n1 n2 ls h1 h2 => by
    refine x_iconst C dL_law_2172 1 (by decide) ?_
    refine x_st (st' := [.int 1]) (congrArg (fun q => [Value.int q]) (show iI 1 = (1 : Int32) from by decide)) ?_
    subst hκ
    exact fun H locs la hS hP hl => va_forget (fun q hq => (by have := hS.2.2 q hq; rw [hA] at this; exact this)) (W.widen h1 h2 (lw_ret hx hcb hret hlk dL_law_2173))
  have GO : X κ 0 0 (fun _ => none) [(0, .ref b)] 0 [] := by
    refine x_new C (ci := 7) (T := TX7) (fs := [.null, .null, .null, .null, .null, vI 0, vI 0]) rfl tyX7_ok inlX7 (st_rk 0 rfl) (st_rk 1 rfl) (st_rk 2 rfl) (by intro j hj; rcases (show j = 0 ∨ j = 1 ∨ j = 2 ∨ j = 3 ∨ j = 4 ∨ j = 5 ∨ j = 6 by omega) with rfl | rfl | rfl | rfl | rfl | rfl | rfl <;> rfl) (by decide) (by decide) dL_law_0 (fun x _ => ?_)
    refine x_dup C dL_law_3 rfl ?_
    refine x_callI C (n := 0) (As := []) (rest := [.ref x]) (c_X7_init hu_s) gL_law_X7_init (st_rk 2 rfl) (st_rk 7 rfl) (st_rk 8 rfl) rfl (by decide +kernel) rfl rfl rfl (Nat.le_of_ble_eq_true rfl) ⟨by decide, by decide⟩ ⟨by decide, by decide⟩ dL_law_4 (fun rv h1 hp => ?_)
    obtain ⟨rfl, a, ha0, hR1, -, -⟩ := hp
    refine x_astore_n (ls' := [(0, .ref b), (1, .ref x)]) C dL_law_7 (by decide) rfl ?_
    refine x_new C (ci := 8) (T := TX8) (fs := [vI 0, .null, vI 0, .null, .null, .null, .null, .null, .null, .null, .null, .null, .null, .null, vI 0, .null, .null, .null, .null, .null, .null, .null, .null, .null, .null, .null, .null, .null, .null, .null, vI ((0 : Nat) : Int), vI 0, vI 0, vI ((0 : Nat) : Int), vI 0, .null, .null, .null]) rfl tyX8_ok inlX8 (st_rk 3 rfl) (st_rk 4 rfl) (st_rk 5 rfl) (by intro j hj; rcases (show j = 0 ∨ j = 1 ∨ j = 2 ∨ j = 3 ∨ j = 4 ∨ j = 5 ∨ j = 6 ∨ j = 7 ∨ j = 8 ∨ j = 9 ∨ j = 10 ∨ j = 11 ∨ j = 12 ∨ j = 13 ∨ j = 14 ∨ j = 15 ∨ j = 16 ∨ j = 17 ∨ j = 18 ∨ j = 19 ∨ j = 20 ∨ j = 21 ∨ j = 22 ∨ j = 23 ∨ j = 24 ∨ j = 25 ∨ j = 26 ∨ j = 27 ∨ j = 28 ∨ j = 29 ∨ j = 30 ∨ j = 31 ∨ j = 32 ∨ j = 33 ∨ j = 34 ∨ j = 35 ∨ j = 36 ∨ j = 37 by omega) with rfl | rfl | rfl | rfl | rfl | rfl | rfl | rfl | rfl | rfl | rfl | rfl | rfl | rfl | rfl | rfl | rfl | rfl | rfl | rfl | rfl | rfl | rfl | rfl | rfl | rfl | rfl | rfl | rfl | rfl | rfl | rfl | rfl | rfl | rfl | rfl | rfl | rfl <;> rfl) (by decide) (by decide) dL_law_8 (fun mm hmm => ?_)
    refine x_dup C dL_law_11 rfl ?_
    refine x_callI C (n := 0) (As := []) (rest := [.ref mm]) (c_X8_init hu_s) gL_law_X8_init (st_rk 5 rfl) (st_rk 9 rfl) (st_rk 10 rfl) rfl (by decide +kernel) rfl rfl rfl (Nat.le_of_ble_eq_true rfl) ⟨by decide, by decide⟩ ⟨by decide, by decide⟩ dL_law_12 (fun rv2 h2 hp2 => ?_)
    obtain ⟨rfl, am, ham0, hM, hn2, hk2⟩ := hp2
    refine x_astore_n (ls' := [(0, .ref b), (1, .ref x), (2, .ref mm)]) C dL_law_15 (by decide) rfl ?_
    refine x_iconst C dL_law_16 1 (by decide) ?_
    refine x_newJ C (N := 1) (st_rk 6 rfl) rfl (by decide) (by decide) (by decide) dL_law_17 (fun ao hao => ?_)
    refine x_astore_n (ls' := [(0, .ref b), (1, .ref x), (2, .ref mm), (3, .ref ao)]) C dL_law_19 (by decide) rfl ?_
    refine x_iconst C dL_law_20 0 (by decide) ?_
    refine x_istore (ls' := [(0, .ref b), (1, .ref x), (2, .ref mm), (3, .ref ao), (4, vI ((4 * 0 : Nat) : Int))]) C dL_law_21 (by decide) rfl ?_
    have k1 : ∀ (q : Nat) (e9 : va_E), h1 q = some e9 → q ≠ mm := fun q e9 hq z9 => (by rw [z9, hmm] at hq; cases hq)
    have k2 : ∀ (q : Nat) (e9 : va_E), h1 q = some e9 → h2 q = some e9 := fun q e9 hq => hk2 q e9 (k1 q e9 hq) (by rw [hu_n (k1 q e9 hq)]; exact hq)
    have k3 : ∀ (q : Nat) (e9 : va_E), h2 q = some e9 → q ≠ ao := fun q e9 hq z9 => (by rw [z9, hao] at hq; cases hq)
    have k4 : ∀ (q : Nat) (e9 : va_E), h2 q = some e9 → hu h2 ao (eJ D 1 (fun _ => 0)) q = some e9 := fun q e9 hq => (by rw [hu_n (k3 q e9 hq)]; exact hq)
    refine law_loop C kn xs0 hL hsc hEnd 513 0 _ _ _ (by omega) (by omega) ⟨adI a, cI, 0, 0, am, mI, fun _ => 0, ⟨fun k i hl => k4 _ _ (k2 _ _ (hR1.1 k i hl)), hR1.2⟩, ⟨⟨fun k i hl => k4 _ _ (hM.1 k i hl), hM.2⟩, hu_s, fun k i hl => ⟨k3 _ _ (k2 _ _ (hR1.1 k i hl)), fun k' i' hl' z9 => ?_⟩, fun k i hl => k3 _ _ (hM.1 k i hl)⟩, ha0, ham0, sim_init.1, sim_init.2, sb_init⟩ (by decide) (by decide)
    have q1 := hR1.1 k i hl
    have q2 := k1 _ _ q1
    by_cases hk0 : k' = 0
    · subst hk0
      rw [hl'.2.1] at z9
      exact q2 (z9.trans ham0)
    · have q3 := hn2 k' i' hl' hk0
      rw [← z9, hu_n q2, q1] at q3
      cases q3
  subst hκ
  rw [lg_entry_eq]
  exact GO s.heap [] _ va_S.rf (fun a e9 h9 => by simp at h9) (lv_entry [Value.ref b] (Nat.le_of_ble_eq_true rfl))
-- ===== YOUR PART ENDS =====
set_option maxHeartbeats 4000000 in
theorem lw_walk (l : Launch) (hflags : l.flags = flags0) (b : Addr) (xs : List Int32) : MetFree l x (headSpec (Jvm.Cond.code x code maxLocals ret :: tables_1) room_1) (lw_P b xs) (fun _ _ _ _ _ => True) lw_Q := by
  refine MetFree.of_bodyS (code := code) (maxLocals := maxLocals) (ret := ret) (by decide) ?_ ?_
  · intro args s m h hn
    obtain ⟨meth, c, h1, h2, h3, h4, h5, h6, -, -⟩ := Cond.code_spec hn (atoms_spec (ws := Jvm.Cond.code x code maxLocals ret :: tables_1) h _ List.mem_cons_self)
    exact ⟨meth, c, h1, h2, h3, h4, h5, h6⟩
  · intro p e s m args below meth c s₁ B hml0 hP _
    obtain ⟨rfl, hx, hbd, hgv⟩ := hP
    obtain ⟨scr, harrAt, hlist, hof, hsmall⟩ := hx
    obtain ⟨hcb, hkn, -, -⟩ := State.arrayAt?_spec harrAt
    have hown : s.vm.findClass R_law = some m.cls := findClass_of_methodNamed B.named
    have hts0 : ∀ c ∈ (Jvm.Cond.code x code maxLocals ret :: tables_1), c.before #[Value.ref b] s = true := atoms_spec (ws := Jvm.Cond.code x code maxLocals ret :: tables_1) B.pre
    have hts : ∀ w ∈ lw_tbl, w.before #[Value.ref b] s = true := k2_hts_sels lw_privs (fun w hw => hts0 w (List.mem_cons_of_mem _ hw)) lw_privs_ok
    have hml : c.maxLocals = 7 := B.maxLocals_eq (hts0 _ List.mem_cons_self)
    have X₀ : Stand p l e room_1 s m #[Value.ref b] below meth c s₁ [] 0 0 := Stand.of_body B
    have hh0 : s₁.heap = s.heap := by rw [B.state]; rfl
    have hsz : scr.slots.size = xs.length := by rw [← Array.length_toList, hlist, List.length_map]
    have hval : ∀ j : Nat, j < xs.length → scr.slots[j]? = some (.int (xs.getD j 0)) := fun j hj => by
      rw [← Array.getElem?_toList, hlist]
      simp [hj]
    have hbl : b < s.heap.size := (Array.getElem?_eq_some_iff.mp hcb).1
    have hX : va_X b xs.length (fun j => xs.getD j 0) s s.heap := ⟨scr, hcb, hof, hkn, hsz, hval⟩
    have K : W p l e room_1 s m #[Value.ref b] below meth c s₁.heap [] 0 0 (lw_Z below #[Value.ref b] s) (entryFrame m ([Value.ref b] : List Value).toArray 7) := by
      rw [hh0]
      exact whole_start l hflags hbd ⟨B.exec, B.bytes, B.returns, hml, hown, hts, hX, hbl, B.notSynchronized, hgv⟩
    obtain ⟨t, a1, o, b1, b2, b3⟩ := K s₁ rfl X₀
    exact ⟨t, o, a1, b1, b2, b3⟩
theorem lw_pre_spec {args : Array Value} {s : State} (h : (Jvm.Cond.and given_1 narrow_1).before args s = true) (hr : rest_1_c.before args s = true) : ∃ (b : Addr) (xs : List Int32), lw_P b xs args s := by
  have hs := flat_of_before _ h
  have hq := flat_of_before _ hr
  have hc : (Cond.count 1).before args s = true := hs _ (by decide +kernel)
  have harr : (Cond.arrayOf (.arg 0) .int).before args s = true := hs _ (by decide +kernel)
  have hle : (Cond.le (.length (.arg 0)) (.int 2048)).before args s = true := hs _ (by decide +kernel)
  have hlen : (Cond.isInt (.length (.arg 0))).before args s = true := hq _ (by decide +kernel)
  have hall : (Cond.all (.arg 0) (.isInt (.elem (.arg 0) (.index 0)))).before args s = true := hq _ (by decide +kernel)
  obtain ⟨b, xs, hb, hx⟩ := State.ints_of_pre rfl harr hlen hall
  have hsm : xs.length < 2 ^ 31 := hx.choose_spec.2.2.2
  have hev : (Term.length (.arg 0)).eval args s none [] s = some (.int xs.length.toInt32) := hx.length_eval hb
  have hv := Cond.le_ints hev (show (Term.int 2048).eval args s none [] s = some (.int 2048) from rfl)
  have hd : xs.length.toInt32 ≤ 2048 := by
    simpa [Cond.before, Cond.holds, hv] using hle
  have hN : xs.length ≤ 2048 := (Int32.ofNat_le_ofNat hsm (by decide)).mp (show Int32.ofNat xs.length ≤ Int32.ofNat 2048 from hd)
  exact ⟨b, xs, Cond.one_arg hc (show args[0]? = some (.ref b) from hb), hx, hN, h⟩
theorem lw_comes (l : Launch) (hflags : l.flags = flags0) : Comes l x (Jvm.Cond.code x code maxLocals ret :: tables_1) room_1 (fun tb e args s => Calls_1 tb e args s ∧ rest_1 tb e args s ∧ Pre_1 tb e args s)
    (fun _ _ args s o t => lw_Q args s o t) := by
  intro p e ha hc hk s m args below hf hfit hheap happ hpre
  obtain ⟨b, xs, hP⟩ := lw_pre_spec hpre.2.2 hpre.2.1
  obtain ⟨k, o, h1, h2, h3, hQ⟩ := lw_walk l hflags b xs p e ha hc hk s m args below hf ((Spec.applies_iff_loose hf).mp happ).1 hP trivial
  exact ⟨k, o, h1, h2, h3, hQ⟩
theorem lw_frame {s t : State} {o : Outcome} {args : Array Value} (h : Framed s o t [] 601024 7293034) :
    Framed s o t (fieldLocs frame_1_writes args s ++ arrayLocs frame_1_arrays args s ++ staticLocs frame_1_statics s) 601024 7293034 := h
theorem lw_limb (L : Cond) (hL : ∀ (args : Array Value) (s t : State), L.after args s (.returned (some (.int 1))) t = true) :
    ArmFor flags0 classFile x code maxLocals ret World_1 tables_1 room_1 Calls_1 rest_1 Pre_1
      (fun tb e a s o t => postC L tb e a s o t ∧ Framed s o t (fieldLocs frame_1_writes a s ++ arrayLocs frame_1_arrays a s ++ staticLocs frame_1_statics s) 601024 7293034) := by
  intro l hflags _ _ p e ha hc hk s m args below hf hfit hheap happ hpre
  obtain ⟨k, o, h1, h2, h3, rfl, hF⟩ := lw_comes l hflags p e ha hc hk s m args below hf hfit hheap happ hpre
  exact ⟨k, _, h1, h2, h3, hL args s _, lw_frame hF⟩
theorem i_vc : Claimed_1_1 ∧ Claimed_1_2 := ⟨lw_limb limb_1_1 (fun args s t => by simp [limb_1_1, Cond.after, Cond.holds, Cond.value]), lw_limb limb_1_2 (fun args s t => Cond.after_iff.mpr (by
  first | (rw [show limb_1_2 = Cond.eq .result (.int 1) from rfl, Cond.eq_ints (x := 1) (y := 1) rfl rfl]; simp; done) | (simp [limb_1_2, Cond.value, Term.eval]; done)))⟩


/-! ===== the start of the law: its tables' words, its classes ===== -/
set_option maxRecDepth 20000 in
theorem nw_in : ∀ w ∈ nwAll, w ∈ lw_tbl := by decide +kernel
set_option maxRecDepth 20000 in
theorem sw_in : ∀ q ∈ swL, Cond.stringRef q.1 q.2.1 q.2.2 ∈ lw_tbl := by decide +kernel
theorem sw_cls : ∀ q ∈ swL, q.1 = "LedgeLevels" := by decide +kernel
def stL : List Cond := [.arrayClass .int, .arrayClass .boolean, .arrayClass .long, .arrayOver (.object RX3), .arrayOver (.object RX4), .arrayOver (.object RX6), .instantiable RX0 5, .instantiable RX1 3, .instantiable RX2 5, .instantiable RX3 6, .instantiable RX4 4, .instantiable RX5 7, .instantiable RX6 8, .instantiable RX7 7, .laysStatic Bundle.tN "UNASSIGNED_STACK" Bundle.steD, .laysStatic Bundle.tN "SUPPRESSED_SENTINEL" Bundle.listD, .initialized Bundle.tN]
set_option maxRecDepth 20000 in
theorem st_in : ∀ w ∈ stL, w ∈ lw_tbl := by decide +kernel
def stG : List Cond := [.not (.castable "java/lang/IndexOutOfBoundsException" "java/lang/IllegalStateException"), .not (.castable "java/lang/IllegalArgumentException" "java/lang/IllegalStateException"), .isRef (.static Bundle.tN "UNASSIGNED_STACK" Bundle.steD), .isRef (.static Bundle.tN "SUPPRESSED_SENTINEL" Bundle.listD)]
set_option maxRecDepth 20000 in
theorem st_gv : ∀ w ∈ stG, w ∈ flatC (Jvm.Cond.and given_1 narrow_1) := by decide +kernel
def stR : List Cond := [.classLink RL 11 RX7, .instantiable RX7 7, .initialized RX7, .arrayClass .int, .arrayClass .long, .methodLink RL 169 yX7_init, .instanceMethod yX7_init]
theorem st_r : ∀ w ∈ stR, w ∈ wsL_law := List.forall_mem_cons.mpr ⟨List.mem_of_getElem? (i := 0) (by decide +kernel), List.forall_mem_cons.mpr ⟨List.mem_of_getElem? (i := 1) (by decide +kernel), List.forall_mem_cons.mpr ⟨List.mem_of_getElem? (i := 2) (by decide +kernel), List.forall_mem_cons.mpr ⟨List.mem_of_getElem? (i := 3) (by decide +kernel), List.forall_mem_cons.mpr ⟨List.mem_of_getElem? (i := 4) (by decide +kernel), List.forall_mem_cons.mpr ⟨List.mem_of_getElem? (i := 5) (by decide +kernel), List.forall_mem_cons.mpr ⟨List.mem_of_getElem? (i := 6) (by decide +kernel), fun _ h => absurd h List.not_mem_nil⟩⟩⟩⟩⟩⟩⟩
theorem st_rk (k : Nat) {w : Cond} (h : stR[k]? = some w) : w ∈ wsL_law := st_r w (List.mem_of_getElem? h)
theorem st_lk (k : Nat) {w : Cond} (h : stL[k]? = some w) : w ∈ lw_tbl := st_in w (List.mem_of_getElem? h)
theorem st_gk (k : Nat) {w : Cond} (h : stG[k]? = some w) : w ∈ flatC (Jvm.Cond.and given_1 narrow_1) := st_gv w (List.mem_of_getElem? h)
theorem nw_of {w : Cond} (h : nwK w = true) {B : Array Value} {U : State} (hb : w.before B U = true) : va_Nw w U := by
  cases w <;> first | exact va_Nw.of rfl hb | (simp [nwK] at h; done) | exact hb
theorem st_arr {s : State} {B : Array Value} {ty : FieldType} (hp : ∀ C : String, ty ≠ .object C) (h : (Cond.arrayClass ty).before B s = true) : ∃ cA : ClassId, ArrOfT s cA ty ∧ va_RA s cA ty := by
  obtain ⟨c, k, comp, h1, h2, h3⟩ := Cond.arrayClass_spec h
  refine ⟨c, fun n z => ⟨fun q e => (by cases e), k, h2, comp, h3⟩, ?_⟩
  cases ty with
  | object C => exact absurd rfl (hp C)
  | _ => exact h1
theorem st_arrO {s : State} {B : Array Value} {C : String} (h : (Cond.arrayOver (.object C)).before B s = true) : ∃ cA : ClassId, ArrOfT s cA (.object C) ∧ va_RA s cA (.object C) := by
  obtain ⟨comp, c, k, h1, h2, h3, h4, h5⟩ := Cond.arrayOver_spec h
  exact ⟨c, fun n z => ⟨fun q e => (by cases e), k, h3, comp, h4⟩, k, comp, h3, h4, h1, h5⟩
theorem sb_init : SB cI (21 * ((0 : Nat) : Int)) := ⟨⟨by decide, fun j => ⟨Int.le_refl _, (by decide : (0 : Int) ≤ 6143)⟩, fun j => ⟨Int.le_refl _, Int.le_refl _⟩, fun j => ⟨Int.le_refl _, (by decide : (0 : Int) ≤ 1)⟩, by decide, by decide⟩, by decide, by decide⟩

theorem inlX0 : ∀ w ∈ wsX00, w ∈ wsL_law := fun _ h => List.mem_append_left _ (List.mem_append_left _ (List.mem_append_left _ (List.mem_append_left _ (List.mem_append_left _ (List.mem_append_left _ (List.mem_append_left _ (List.mem_append_left _ (List.mem_append_right _ h))))))))
theorem inlX1 : ∀ w ∈ wsX10, w ∈ wsL_law := fun _ h => List.mem_append_left _ (List.mem_append_left _ (List.mem_append_left _ (List.mem_append_left _ (List.mem_append_left _ (List.mem_append_left _ (List.mem_append_right _ h))))))
theorem inlX2 : ∀ w ∈ wsX20, w ∈ wsL_law := fun _ h => List.mem_append_left _ (List.mem_append_left _ (List.mem_append_left _ (List.mem_append_left _ (List.mem_append_left _ (List.mem_append_right _ h)))))
theorem inlX3 : ∀ w ∈ wsX30, w ∈ wsL_law := fun _ h => List.mem_append_left _ (List.mem_append_left _ (List.mem_append_left _ (List.mem_append_left _ (List.mem_append_left _ (List.mem_append_left _ (List.mem_append_left _ (List.mem_append_right _ h)))))))
theorem inlX4 : ∀ w ∈ wsX40, w ∈ wsL_law := fun _ h => List.mem_append_left _ (List.mem_append_left _ (List.mem_append_left _ (List.mem_append_left _ (List.mem_append_left _ (List.mem_append_left _ (List.mem_append_left _ (List.mem_append_left _ (List.mem_append_left _ (List.mem_append_right _ h)))))))))
theorem inlX5 : ∀ w ∈ wsX50, w ∈ wsL_law := fun _ h => List.mem_append_left _ (List.mem_append_left _ (List.mem_append_left _ (List.mem_append_left _ (List.mem_append_left _ (List.mem_append_left _ (List.mem_append_left _ (List.mem_append_left _ (List.mem_append_left _ (List.mem_append_left _ (List.mem_append_right _ h))))))))))
theorem inlX6 : ∀ w ∈ wsX60, w ∈ wsL_law := fun _ h => List.mem_append_left _ (List.mem_append_left _ (List.mem_append_left _ (List.mem_append_left _ (List.mem_append_right _ h))))
theorem inlX7 : ∀ w ∈ wsX70, w ∈ wsL_law := fun _ h => List.mem_append_left _ (List.mem_append_left _ (List.mem_append_left _ (List.mem_append_left _ (List.mem_append_left _ (List.mem_append_left _ (List.mem_append_left _ (List.mem_append_left _ (List.mem_append_left _ (List.mem_append_left _ (List.mem_append_left _ (List.mem_append_right _ h)))))))))))
def esA (D : va_G) : Nat → va_E
  | 0 => eI D 5 (fun _ => 0)
  | 1 => eJ D 60 (fun _ => 0)
  | 2 => eI D 20 (fun _ => 0)
  | 3 => eI D 60 (fun _ => 0)
  | 4 => eI D 60 (fun _ => 0)
  | 5 => eI D 10 (fun _ => 0)
  | 6 => eI D 25 (fun _ => 0)
  | 7 => eI D 15 (fun _ => 0)
  | 8 => eI D 18 (fun _ => 0)
  | 9 => eJ D 64 (fun _ => 0)
  | 10 => eJ D 64 (fun _ => 0)
  | 11 => eJ D 64 (fun _ => 0)
  | 12 => eJ D 64 (fun _ => 0)
  | 13 => eJ D 64 (fun _ => 0)
  | 14 => eJ D 64 (fun _ => 0)
  | _ => eJ D 2 (fun _ => 0)
def FR (D : va_G) (n : Nat) (ar : Nat → Nat) (h0 h : vh) : Prop := (∀ j, j < n → h (ar j) = some (esA D j)) ∧ (∀ i j, i < n → j < n → ar i = ar j → i = j) ∧ ∀ (q : Nat) (e : va_E), h0 q = some e → h q = some e ∧ ∀ j, j < n → q ≠ ar j
theorem FR.z {D : va_G} {ar : Nat → Nat} {h0 : vh} : FR D 0 ar h0 h0 := ⟨fun j hj => absurd hj (Nat.not_lt_zero _), fun i j hi => absurd hi (Nat.not_lt_zero _), fun q e he => ⟨he, fun j hj => absurd hj (Nat.not_lt_zero _)⟩⟩
def arp (ar : Nat → Nat) (n q : Nat) : Nat → Nat := fun j => if j = n then q else ar j
theorem FR.s {D : va_G} {n q : Nat} {ar : Nat → Nat} {h0 h : vh} (F : FR D n ar h0 h) (hq : h q = none) : FR D (n + 1) (arp ar n q) h0 (hu h q (esA D n)) := by
  obtain ⟨f1, f2, f3⟩ := F
  have ne : ∀ j, j < n → ar j ≠ q := fun j hj z => by
    have y := f1 j hj
    rw [z, hq] at y; cases y
  have e0 : ∀ j, j < n → arp ar n q j = ar j := fun j hj => if_neg (by omega)
  have e1 : arp ar n q n = q := if_pos rfl
  refine ⟨fun j hj => ?_, fun i j hi hj e => ?_, fun p e he => ?_⟩
  · by_cases c : j = n
    · rw [c, e1]; exact hu_s
    · rw [e0 j (by omega), hu_n (ne j (by omega))]; exact f1 j (by omega)
  · by_cases c : i = n
    · by_cases d : j = n
      · omega
      · rw [c, e1, e0 j (by omega)] at e
        exact absurd e.symm (ne j (by omega))
    · by_cases d : j = n
      · rw [d, e1, e0 i (by omega)] at e
        exact absurd e (ne i (by omega))
      · rw [e0 i (by omega), e0 j (by omega)] at e
        exact f2 i j (by omega) (by omega) e
  · have hp : p ≠ q := fun z => by
      have y := (f3 p e he).1
      rw [z, hq] at y; cases y
    refine ⟨by rw [hu_n hp]; exact (f3 p e he).1, fun j hj => ?_⟩
    by_cases c : j = n
    · rw [c, e1]; exact hp
    · rw [e0 j (by omega)]; exact (f3 p e he).2 j (by omega)
theorem nbz0 (j : Nat) : nb 0 j = 0 := by
  have y : (0 : Int64).toBitVec.toNat = 0 := by decide
  unfold nb
  rw [y, Nat.zero_div]
theorem gkz0 (o z : Nat) : gk (fun _ => 0) o z = 0 := by
  unfold gk
  by_cases c : z < 96
  · rw [if_pos c]
    exact (congrArg (fun k : Nat => (k : Int)) (nbz0 (z % 16))).trans rfl
  · rw [if_neg c]
theorem wd_init {D : va_G} {x : Nat} {a ar : Nat → Nat} {h1 h : vh} {q : Nat → Int} (ha0 : a 0 = x) (hR : RepC D (adI a) cI 0 0 h1) (F : FR D 16 ar h1 h) (hq0 : q 0 = 0) (hq1 : q 1 = 0) (hq : ∀ s, s < 3 → q (2 + s) = S0 s) : WD D x ar 0 (hu h (ar 0) (eI D 5 q)) := by
  obtain ⟨f1, f2, f3⟩ := F
  have o : ∀ j, 0 < j → j < 16 → hu h (ar 0) (eI D 5 q) (ar j) = some (esA D j) := fun j h0 hj => by
    rw [hu_n (fun z => by have y := f2 j 0 hj (by decide) z; omega)]; exact f1 j hj
  refine ⟨mI, 0, 0, q, fun _ => 0, fun _ => 0, fun _ => 0, fun _ => 0, fun _ => 0, fun _ => 0, fun _ => 0, fun _ => 0, ?_, ?_, ?_, ?_, ?_⟩
  · refine ⟨adI a, cI, ⟨fun k i hl => ?_, hR.2⟩, ha0, sim_init.1, sim_init.2, sb_init, fun j hj k i hl => (f3 _ _ (hR.1 k i hl)).2 j hj⟩
    rw [hu_n ((f3 _ _ (hR.1 k i hl)).2 0 (by decide))]
    exact (f3 _ _ (hR.1 k i hl)).1
  · refine ⟨rfl, rfl, fun y hy z => ?_⟩
    have z2 : (0 : Int) = 1 := z
    omega
  · exact ⟨⟨by decide, by decide, hq0, hq1⟩, hq, fun i hi => absurd hi (Nat.not_lt_zero _), fun i _ _ => ⟨rfl, rfl, fun z _ => gkz0 _ z⟩, fun i hi => absurd hi (Nat.not_lt_zero _), fun i _ _ y _ => rfl, fun y _ => ⟨rfl, rfl, rfl, rfl, rfl, rfl⟩⟩
  · exact ⟨hu_s, o 1 (by decide) (by decide), o 2 (by decide) (by decide), o 3 (by decide) (by decide), o 4 (by decide) (by decide), o 5 (by decide) (by decide), o 6 (by decide) (by decide), o 7 (by decide) (by decide), o 8 (by decide) (by decide)⟩
  · exact ⟨_, _, _, _, _, _, _, o 9 (by decide) (by decide), o 10 (by decide) (by decide), o 11 (by decide) (by decide), o 12 (by decide) (by decide), o 13 (by decide) (by decide), o 14 (by decide) (by decide), o 15 (by decide) (by decide)⟩
theorem dL_law_103 : decode cL_law 103 = .ok (.iload 18, 2) := by decide +kernel
theorem dL_law_105 : decode cL_law 105 = .ok (.iconst 3, 1) := by decide +kernel
theorem dL_law_106 : decode cL_law 106 = .ok (.if_icmp .ge 19, 3) := by decide +kernel
theorem dL_law_109 : decode cL_law 109 = .ok (.aload_n 2, 1) := by decide +kernel
theorem dL_law_110 : decode cL_law 110 = .ok (.iconst 2, 1) := by decide +kernel
theorem dL_law_111 : decode cL_law 111 = .ok (.iload 18, 2) := by decide +kernel
theorem dL_law_113 : decode cL_law 113 = .ok (.iadd, 1) := by decide +kernel
theorem dL_law_114 : decode cL_law 114 = .ok (.iconst 2, 1) := by decide +kernel
theorem dL_law_115 : decode cL_law 115 = .ok (.iload 18, 2) := by decide +kernel
theorem dL_law_117 : decode cL_law 117 = .ok (.iadd, 1) := by decide +kernel
theorem dL_law_118 : decode cL_law 118 = .ok (.iastore, 1) := by decide +kernel
theorem dL_law_119 : decode cL_law 119 = .ok (.iinc 18 1, 3) := by decide +kernel
theorem dL_law_122 : decode cL_law 122 = .ok (.goto (-19), 3) := by decide +kernel
theorem dL_law_100 : decode cL_law 100 = .ok (.iconst 0, 1) := by decide +kernel
theorem dL_law_101 : decode cL_law 101 = .ok (.istore 18, 2) := by decide +kernel
theorem dL_law_125 : decode cL_law 125 = .ok (.iconst 0, 1) := by decide +kernel
theorem dL_law_126 : decode cL_law 126 = .ok (.istore 18, 2) := by decide +kernel
theorem dL_law_0 : decode cL_law 0 = .ok (.new 11, 3) := by decide +kernel
theorem dL_law_3 : decode cL_law 3 = .ok (.dup, 1) := by decide +kernel
set_option maxRecDepth 20000 in
theorem ggL_law_X7_init : GoodIn wsL_law wsX7_init := goodIn_r _ [7, 8, 9, 10, 3, 11, 12, 13, 14, 15, 16, 17, 18, 19, 20, 21, 22, 23, 24, 25, 26, 27, 28, 29, 30, 31, 32, 33, 34, 35, 36, 37, 38, 39, 40, 41, 42, 43, 44, 45, 46, 47, 48, 49, 50, 51, 52, 53, 54, 55, 56, 57, 58, 59, 561, 562, 563, 564, 565, 566, 567, 568, 569, 570, 571, 572, 573, 574, 575, 576, 577, 578, 579, 580, 581, 582, 583] (by decide +kernel) (by decide +kernel)
set_option maxRecDepth 20000 in
theorem gL_law_X7_init : GoodIn wsL_law (wsX7_init) := ggL_law_X7_init
theorem dL_law_4 : decode cL_law 4 = .ok (.invokespecial 169, 3) := by decide +kernel
theorem dL_law_7 : decode cL_law 7 = .ok (.astore_n 1, 1) := by decide +kernel
theorem dL_law_8 : decode cL_law 8 = .ok (.iconst 5, 1) := by decide +kernel
theorem dL_law_9 : decode cL_law 9 = .ok (.newarray .int, 2) := by decide +kernel
theorem dL_law_11 : decode cL_law 11 = .ok (.astore_n 2, 1) := by decide +kernel
theorem dL_law_12 : decode cL_law 12 = .ok (.bipush 60, 2) := by decide +kernel
theorem dL_law_14 : decode cL_law 14 = .ok (.newarray .long, 2) := by decide +kernel
theorem dL_law_16 : decode cL_law 16 = .ok (.astore_n 3, 1) := by decide +kernel
theorem dL_law_17 : decode cL_law 17 = .ok (.bipush 20, 2) := by decide +kernel
theorem dL_law_19 : decode cL_law 19 = .ok (.newarray .int, 2) := by decide +kernel
theorem dL_law_21 : decode cL_law 21 = .ok (.astore 4, 2) := by decide +kernel
theorem dL_law_23 : decode cL_law 23 = .ok (.bipush 60, 2) := by decide +kernel
theorem dL_law_25 : decode cL_law 25 = .ok (.newarray .int, 2) := by decide +kernel
theorem dL_law_27 : decode cL_law 27 = .ok (.astore 5, 2) := by decide +kernel
theorem dL_law_29 : decode cL_law 29 = .ok (.bipush 60, 2) := by decide +kernel
theorem dL_law_31 : decode cL_law 31 = .ok (.newarray .int, 2) := by decide +kernel
theorem dL_law_33 : decode cL_law 33 = .ok (.astore 6, 2) := by decide +kernel
theorem dL_law_35 : decode cL_law 35 = .ok (.bipush 10, 2) := by decide +kernel
theorem dL_law_37 : decode cL_law 37 = .ok (.newarray .int, 2) := by decide +kernel
theorem dL_law_39 : decode cL_law 39 = .ok (.astore 7, 2) := by decide +kernel
theorem dL_law_41 : decode cL_law 41 = .ok (.bipush 25, 2) := by decide +kernel
theorem dL_law_43 : decode cL_law 43 = .ok (.newarray .int, 2) := by decide +kernel
theorem dL_law_45 : decode cL_law 45 = .ok (.astore 8, 2) := by decide +kernel
theorem dL_law_47 : decode cL_law 47 = .ok (.bipush 15, 2) := by decide +kernel
theorem dL_law_49 : decode cL_law 49 = .ok (.newarray .int, 2) := by decide +kernel
theorem dL_law_51 : decode cL_law 51 = .ok (.astore 9, 2) := by decide +kernel
theorem dL_law_53 : decode cL_law 53 = .ok (.bipush 18, 2) := by decide +kernel
theorem dL_law_55 : decode cL_law 55 = .ok (.newarray .int, 2) := by decide +kernel
theorem dL_law_57 : decode cL_law 57 = .ok (.astore 10, 2) := by decide +kernel
theorem dL_law_59 : decode cL_law 59 = .ok (.bipush 64, 2) := by decide +kernel
theorem dL_law_61 : decode cL_law 61 = .ok (.newarray .long, 2) := by decide +kernel
theorem dL_law_63 : decode cL_law 63 = .ok (.astore 11, 2) := by decide +kernel
theorem dL_law_65 : decode cL_law 65 = .ok (.bipush 64, 2) := by decide +kernel
theorem dL_law_67 : decode cL_law 67 = .ok (.newarray .long, 2) := by decide +kernel
theorem dL_law_69 : decode cL_law 69 = .ok (.astore 12, 2) := by decide +kernel
theorem dL_law_71 : decode cL_law 71 = .ok (.bipush 64, 2) := by decide +kernel
theorem dL_law_73 : decode cL_law 73 = .ok (.newarray .long, 2) := by decide +kernel
theorem dL_law_75 : decode cL_law 75 = .ok (.astore 13, 2) := by decide +kernel
theorem dL_law_77 : decode cL_law 77 = .ok (.bipush 64, 2) := by decide +kernel
theorem dL_law_79 : decode cL_law 79 = .ok (.newarray .long, 2) := by decide +kernel
theorem dL_law_81 : decode cL_law 81 = .ok (.astore 14, 2) := by decide +kernel
theorem dL_law_83 : decode cL_law 83 = .ok (.bipush 64, 2) := by decide +kernel
theorem dL_law_85 : decode cL_law 85 = .ok (.newarray .long, 2) := by decide +kernel
theorem dL_law_87 : decode cL_law 87 = .ok (.astore 15, 2) := by decide +kernel
theorem dL_law_89 : decode cL_law 89 = .ok (.bipush 64, 2) := by decide +kernel
theorem dL_law_91 : decode cL_law 91 = .ok (.newarray .long, 2) := by decide +kernel
theorem dL_law_93 : decode cL_law 93 = .ok (.astore 16, 2) := by decide +kernel
theorem dL_law_95 : decode cL_law 95 = .ok (.iconst 2, 1) := by decide +kernel
theorem dL_law_96 : decode cL_law 96 = .ok (.newarray .long, 2) := by decide +kernel
theorem dL_law_98 : decode cL_law 98 = .ok (.astore 17, 2) := by decide +kernel

theorem lt_set {κ : KX} {D : va_G} {A : Nat → Prop} {nm : String} (C : CX κ "LedgeLevelsLaw" nm cL_law wsL_law { frames := 12, cells := 600130, slots := 7301080, locals := 472 } D A 28) {b x i n1 n2 : Nat} {ar : Nat → Nat} {h : vh} {q : Nat → Int} (hi : i < 3) (hq : h (ar 0) = some (eI D 5 q)) (K : X κ n1 n2 (hu h (ar 0) (eI D 5 (fu q (2 + i) ((2 + i : Nat) : Int)))) [(0, .ref b), (1, .ref x), (2, .ref (ar 0)), (3, .ref (ar 1)), (4, .ref (ar 2)), (5, .ref (ar 3)), (6, .ref (ar 4)), (7, .ref (ar 5)), (8, .ref (ar 6)), (9, .ref (ar 7)), (10, .ref (ar 8)), (11, .ref (ar 9)), (12, .ref (ar 10)), (13, .ref (ar 11)), (14, .ref (ar 12)), (15, .ref (ar 13)), (16, .ref (ar 14)), (17, .ref (ar 15)), (18, vI ((i + 1 : Nat) : Int))] 103 []) : X κ n1 n2 h [(0, .ref b), (1, .ref x), (2, .ref (ar 0)), (3, .ref (ar 1)), (4, .ref (ar 2)), (5, .ref (ar 3)), (6, .ref (ar 4)), (7, .ref (ar 5)), (8, .ref (ar 6)), (9, .ref (ar 7)), (10, .ref (ar 8)), (11, .ref (ar 9)), (12, .ref (ar 10)), (13, .ref (ar 11)), (14, .ref (ar 12)), (15, .ref (ar 13)), (16, .ref (ar 14)), (17, .ref (ar 15)), (18, vI ((i : Nat) : Int))] 103 [] := by
  refine x_iload C dL_law_103 18 rfl ?_
  refine x_iconst C dL_law_105 3 (by decide) ?_
  refine x_icmp_ge (tgt := 125) C dL_law_106 (by decide) (by omega) (by omega) (fun c1 => ?_) (fun c1 => ?_)
  · exfalso; omega
  · refine x_aload_n C dL_law_109 2 rfl ?_
    refine x_iconst C dL_law_110 2 (by decide) ?_
    refine x_iload C dL_law_111 18 rfl ?_
    refine x_iadd C dL_law_113 ?_
    refine x_iconst C dL_law_114 2 (by decide) ?_
    refine x_iload C dL_law_115 18 rfl ?_
    refine x_iadd C dL_law_117 ?_
    refine x_iast C hq ⟨by omega, by omega⟩ (by decide) dL_law_118 ?_
    refine x_iinc (ls' := [(0, .ref b), (1, .ref x), (2, .ref (ar 0)), (3, .ref (ar 1)), (4, .ref (ar 2)), (5, .ref (ar 3)), (6, .ref (ar 4)), (7, .ref (ar 5)), (8, .ref (ar 6)), (9, .ref (ar 7)), (10, .ref (ar 8)), (11, .ref (ar 9)), (12, .ref (ar 10)), (13, .ref (ar 11)), (14, .ref (ar 12)), (15, .ref (ar 13)), (16, .ref (ar 14)), (17, .ref (ar 15)), (18, vI ((i + 1 : Nat) : Int))]) C dL_law_119 18 rfl (by decide) rfl ?_
    refine x_goto (tgt := 103) C dL_law_122 (by decide) ?_
    rw [show (2 + ((i : Nat) : Int)).toNat = 2 + i by omega, show (2 + ((i : Nat) : Int)) = ((2 + i : Nat) : Int) by omega]
    exact K
theorem lt_sets {κ : KX} {D : va_G} {A : Nat → Prop} {nm : String} (C : CX κ "LedgeLevelsLaw" nm cL_law wsL_law { frames := 12, cells := 600130, slots := 7301080, locals := 472 } D A 28) {b x n1 n2 : Nat} {a ar : Nat → Nat} {h1 h : vh} (ha0 : a 0 = x) (hR : RepC D (adI a) cI 0 0 h1) (F : FR D 16 ar h1 h) (K : ∀ h9, WD D x ar 0 h9 → X κ n1 n2 h9 [(0, .ref b), (1, .ref x), (2, .ref (ar 0)), (3, .ref (ar 1)), (4, .ref (ar 2)), (5, .ref (ar 3)), (6, .ref (ar 4)), (7, .ref (ar 5)), (8, .ref (ar 6)), (9, .ref (ar 7)), (10, .ref (ar 8)), (11, .ref (ar 9)), (12, .ref (ar 10)), (13, .ref (ar 11)), (14, .ref (ar 12)), (15, .ref (ar 13)), (16, .ref (ar 14)), (17, .ref (ar 15)), (18, vI ((0 : Nat) : Int))] 128 []) : X κ n1 n2 h [(0, .ref b), (1, .ref x), (2, .ref (ar 0)), (3, .ref (ar 1)), (4, .ref (ar 2)), (5, .ref (ar 3)), (6, .ref (ar 4)), (7, .ref (ar 5)), (8, .ref (ar 6)), (9, .ref (ar 7)), (10, .ref (ar 8)), (11, .ref (ar 9)), (12, .ref (ar 10)), (13, .ref (ar 11)), (14, .ref (ar 12)), (15, .ref (ar 13)), (16, .ref (ar 14)), (17, .ref (ar 15))] 100 [] := by
  refine x_iconst C dL_law_100 0 (by decide) ?_
  refine x_istore (ls' := [(0, .ref b), (1, .ref x), (2, .ref (ar 0)), (3, .ref (ar 1)), (4, .ref (ar 2)), (5, .ref (ar 3)), (6, .ref (ar 4)), (7, .ref (ar 5)), (8, .ref (ar 6)), (9, .ref (ar 7)), (10, .ref (ar 8)), (11, .ref (ar 9)), (12, .ref (ar 10)), (13, .ref (ar 11)), (14, .ref (ar 12)), (15, .ref (ar 13)), (16, .ref (ar 14)), (17, .ref (ar 15)), (18, vI ((0 : Nat) : Int))]) C dL_law_101 (by decide) rfl ?_
  refine lt_set C (i := 0) (by decide) (F.1 0 (by decide)) ?_
  refine lt_set C (i := 1) (by decide) hu_s ?_
  refine lt_set C (i := 2) (by decide) hu_s ?_
  refine x_iload C dL_law_103 18 rfl ?_
  refine x_iconst C dL_law_105 3 (by decide) ?_
  refine x_icmp_ge (tgt := 125) C dL_law_106 (by decide) (by omega) (by omega) (fun _ => ?_) (fun c => by exfalso; omega)
  refine x_iconst C dL_law_125 0 (by decide) ?_
  refine x_istore (ls' := [(0, .ref b), (1, .ref x), (2, .ref (ar 0)), (3, .ref (ar 1)), (4, .ref (ar 2)), (5, .ref (ar 3)), (6, .ref (ar 4)), (7, .ref (ar 5)), (8, .ref (ar 6)), (9, .ref (ar 7)), (10, .ref (ar 8)), (11, .ref (ar 9)), (12, .ref (ar 10)), (13, .ref (ar 11)), (14, .ref (ar 12)), (15, .ref (ar 13)), (16, .ref (ar 14)), (17, .ref (ar 15)), (18, vI ((0 : Nat) : Int))]) C dL_law_126 (by decide) rfl ?_
  rw [hu_u, hu_u]
  exact K _ (wd_init ha0 hR F rfl rfl (fun s hs => by
    rcases (show s = 0 ∨ s = 1 ∨ s = 2 by omega) with rfl | rfl | rfl
    · rfl
    · rfl
    · rfl))
set_option maxRecDepth 20000 in
set_option maxHeartbeats 4000000 in
theorem lt_go {κ : KX} {D : va_G} {A : Nat → Prop} {nm : String} (C : CX κ "LedgeLevelsLaw" nm cL_law wsL_law { frames := 12, cells := 600130, slots := 7301080, locals := 472 } D A 28) (kn : KN κ) {b nS : Nat} {sc : Nat → Int} (xs0 : XS κ b nS sc) (hL : nS ≤ 260) (hEnd : ∀ (h : vh) (n1 n2 : Nat) (ls : List (Nat × Value)), n1 ≤ 600130 → n2 ≤ 7301080 → X κ n1 n2 h ls 1001 []) : X κ 0 0 (fun _ => none) [(0, .ref b)] 0 [] := by
  refine x_new C (ci := 7) (T := TX7) (fs := [.null, .null, .null, .null, .null, vI 0, vI 0]) rfl tyX7_ok inlX7 (st_rk 0 rfl) (st_rk 1 rfl) (st_rk 2 rfl) (by intro j hj; rcases (show j = 0 ∨ j = 1 ∨ j = 2 ∨ j = 3 ∨ j = 4 ∨ j = 5 ∨ j = 6 by omega) with rfl | rfl | rfl | rfl | rfl | rfl | rfl <;> rfl) (by decide) (by decide) dL_law_0 (fun x _ => ?_)
  refine x_dup C dL_law_3 rfl ?_
  refine x_callI C (n := 0) (As := []) (rest := [.ref x]) (c_X7_init hu_s) gL_law_X7_init (st_rk 2 rfl) (st_rk 5 rfl) (st_rk 6 rfl) rfl (by decide +kernel) rfl rfl rfl (Nat.le_of_ble_eq_true rfl) ⟨by decide, by decide⟩ ⟨by decide, by decide⟩ dL_law_4 (fun rv h1 hp => ?_)
  obtain ⟨rfl, a, ha0, hR1, -, -⟩ := hp
  refine x_astore_n (ls' := [(0, .ref b), (1, .ref x)]) C dL_law_7 (by decide) rfl ?_
  have F0 := FR.z (D := D) (ar := fun _ => 0) (h0 := h1)
  refine x_iconst C dL_law_8 5 (by decide) ?_
  refine x_newI C (N := 5) (st_rk 3 rfl) rfl (by decide) (by decide) (by decide) dL_law_9 (fun a0 q0 => ?_)
  refine x_astore_n (ls' := [(0, .ref b), (1, .ref x), (2, .ref a0)]) C dL_law_11 (by decide) rfl ?_
  have F1 : FR D 1 (arp (fun _ => 0) 0 a0) h1 (hu h1 a0 (eI D 5 (fun _ => 0))) := F0.s q0
  generalize hu h1 a0 (eI D 5 (fun _ => 0)) = g0 at F1 ⊢
  obtain ⟨r1, er1⟩ : ∃ r : Nat → Nat, r = arp (fun _ => 0) 0 a0 := ⟨_, rfl⟩
  rw [← er1] at F1
  refine x_bipush C dL_law_12 60 (by decide) ?_
  refine x_newJ C (N := 60) (st_rk 4 rfl) rfl (by decide) (by decide) (by decide) dL_law_14 (fun a1 q1 => ?_)
  refine x_astore_n (ls' := [(0, .ref b), (1, .ref x), (2, .ref a0), (3, .ref a1)]) C dL_law_16 (by decide) rfl ?_
  have F2 : FR D 2 (arp r1 1 a1) h1 (hu g0 a1 (eJ D 60 (fun _ => 0))) := F1.s q1
  generalize hu g0 a1 (eJ D 60 (fun _ => 0)) = g1 at F2 ⊢
  obtain ⟨r2, er2⟩ : ∃ r : Nat → Nat, r = arp r1 1 a1 := ⟨_, rfl⟩
  rw [← er2] at F2
  refine x_bipush C dL_law_17 20 (by decide) ?_
  refine x_newI C (N := 20) (st_rk 3 rfl) rfl (by decide) (by decide) (by decide) dL_law_19 (fun a2 q2 => ?_)
  refine x_astore (ls' := [(0, .ref b), (1, .ref x), (2, .ref a0), (3, .ref a1), (4, .ref a2)]) C dL_law_21 (by decide) rfl ?_
  have F3 : FR D 3 (arp r2 2 a2) h1 (hu g1 a2 (eI D 20 (fun _ => 0))) := F2.s q2
  generalize hu g1 a2 (eI D 20 (fun _ => 0)) = g2 at F3 ⊢
  obtain ⟨r3, er3⟩ : ∃ r : Nat → Nat, r = arp r2 2 a2 := ⟨_, rfl⟩
  rw [← er3] at F3
  refine x_bipush C dL_law_23 60 (by decide) ?_
  refine x_newI C (N := 60) (st_rk 3 rfl) rfl (by decide) (by decide) (by decide) dL_law_25 (fun a3 q3 => ?_)
  refine x_astore (ls' := [(0, .ref b), (1, .ref x), (2, .ref a0), (3, .ref a1), (4, .ref a2), (5, .ref a3)]) C dL_law_27 (by decide) rfl ?_
  have F4 : FR D 4 (arp r3 3 a3) h1 (hu g2 a3 (eI D 60 (fun _ => 0))) := F3.s q3
  generalize hu g2 a3 (eI D 60 (fun _ => 0)) = g3 at F4 ⊢
  obtain ⟨r4, er4⟩ : ∃ r : Nat → Nat, r = arp r3 3 a3 := ⟨_, rfl⟩
  rw [← er4] at F4
  refine x_bipush C dL_law_29 60 (by decide) ?_
  refine x_newI C (N := 60) (st_rk 3 rfl) rfl (by decide) (by decide) (by decide) dL_law_31 (fun a4 q4 => ?_)
  refine x_astore (ls' := [(0, .ref b), (1, .ref x), (2, .ref a0), (3, .ref a1), (4, .ref a2), (5, .ref a3), (6, .ref a4)]) C dL_law_33 (by decide) rfl ?_
  have F5 : FR D 5 (arp r4 4 a4) h1 (hu g3 a4 (eI D 60 (fun _ => 0))) := F4.s q4
  generalize hu g3 a4 (eI D 60 (fun _ => 0)) = g4 at F5 ⊢
  obtain ⟨r5, er5⟩ : ∃ r : Nat → Nat, r = arp r4 4 a4 := ⟨_, rfl⟩
  rw [← er5] at F5
  refine x_bipush C dL_law_35 10 (by decide) ?_
  refine x_newI C (N := 10) (st_rk 3 rfl) rfl (by decide) (by decide) (by decide) dL_law_37 (fun a5 q5 => ?_)
  refine x_astore (ls' := [(0, .ref b), (1, .ref x), (2, .ref a0), (3, .ref a1), (4, .ref a2), (5, .ref a3), (6, .ref a4), (7, .ref a5)]) C dL_law_39 (by decide) rfl ?_
  have F6 : FR D 6 (arp r5 5 a5) h1 (hu g4 a5 (eI D 10 (fun _ => 0))) := F5.s q5
  generalize hu g4 a5 (eI D 10 (fun _ => 0)) = g5 at F6 ⊢
  obtain ⟨r6, er6⟩ : ∃ r : Nat → Nat, r = arp r5 5 a5 := ⟨_, rfl⟩
  rw [← er6] at F6
  refine x_bipush C dL_law_41 25 (by decide) ?_
  refine x_newI C (N := 25) (st_rk 3 rfl) rfl (by decide) (by decide) (by decide) dL_law_43 (fun a6 q6 => ?_)
  refine x_astore (ls' := [(0, .ref b), (1, .ref x), (2, .ref a0), (3, .ref a1), (4, .ref a2), (5, .ref a3), (6, .ref a4), (7, .ref a5), (8, .ref a6)]) C dL_law_45 (by decide) rfl ?_
  have F7 : FR D 7 (arp r6 6 a6) h1 (hu g5 a6 (eI D 25 (fun _ => 0))) := F6.s q6
  generalize hu g5 a6 (eI D 25 (fun _ => 0)) = g6 at F7 ⊢
  obtain ⟨r7, er7⟩ : ∃ r : Nat → Nat, r = arp r6 6 a6 := ⟨_, rfl⟩
  rw [← er7] at F7
  refine x_bipush C dL_law_47 15 (by decide) ?_
  refine x_newI C (N := 15) (st_rk 3 rfl) rfl (by decide) (by decide) (by decide) dL_law_49 (fun a7 q7 => ?_)
  refine x_astore (ls' := [(0, .ref b), (1, .ref x), (2, .ref a0), (3, .ref a1), (4, .ref a2), (5, .ref a3), (6, .ref a4), (7, .ref a5), (8, .ref a6), (9, .ref a7)]) C dL_law_51 (by decide) rfl ?_
  have F8 : FR D 8 (arp r7 7 a7) h1 (hu g6 a7 (eI D 15 (fun _ => 0))) := F7.s q7
  generalize hu g6 a7 (eI D 15 (fun _ => 0)) = g7 at F8 ⊢
  obtain ⟨r8, er8⟩ : ∃ r : Nat → Nat, r = arp r7 7 a7 := ⟨_, rfl⟩
  rw [← er8] at F8
  refine x_bipush C dL_law_53 18 (by decide) ?_
  refine x_newI C (N := 18) (st_rk 3 rfl) rfl (by decide) (by decide) (by decide) dL_law_55 (fun a8 q8 => ?_)
  refine x_astore (ls' := [(0, .ref b), (1, .ref x), (2, .ref a0), (3, .ref a1), (4, .ref a2), (5, .ref a3), (6, .ref a4), (7, .ref a5), (8, .ref a6), (9, .ref a7), (10, .ref a8)]) C dL_law_57 (by decide) rfl ?_
  have F9 : FR D 9 (arp r8 8 a8) h1 (hu g7 a8 (eI D 18 (fun _ => 0))) := F8.s q8
  generalize hu g7 a8 (eI D 18 (fun _ => 0)) = g8 at F9 ⊢
  obtain ⟨r9, er9⟩ : ∃ r : Nat → Nat, r = arp r8 8 a8 := ⟨_, rfl⟩
  rw [← er9] at F9
  refine x_bipush C dL_law_59 64 (by decide) ?_
  refine x_newJ C (N := 64) (st_rk 4 rfl) rfl (by decide) (by decide) (by decide) dL_law_61 (fun a9 q9 => ?_)
  refine x_astore (ls' := [(0, .ref b), (1, .ref x), (2, .ref a0), (3, .ref a1), (4, .ref a2), (5, .ref a3), (6, .ref a4), (7, .ref a5), (8, .ref a6), (9, .ref a7), (10, .ref a8), (11, .ref a9)]) C dL_law_63 (by decide) rfl ?_
  have F10 : FR D 10 (arp r9 9 a9) h1 (hu g8 a9 (eJ D 64 (fun _ => 0))) := F9.s q9
  generalize hu g8 a9 (eJ D 64 (fun _ => 0)) = g9 at F10 ⊢
  obtain ⟨r10, er10⟩ : ∃ r : Nat → Nat, r = arp r9 9 a9 := ⟨_, rfl⟩
  rw [← er10] at F10
  refine x_bipush C dL_law_65 64 (by decide) ?_
  refine x_newJ C (N := 64) (st_rk 4 rfl) rfl (by decide) (by decide) (by decide) dL_law_67 (fun a10 q10 => ?_)
  refine x_astore (ls' := [(0, .ref b), (1, .ref x), (2, .ref a0), (3, .ref a1), (4, .ref a2), (5, .ref a3), (6, .ref a4), (7, .ref a5), (8, .ref a6), (9, .ref a7), (10, .ref a8), (11, .ref a9), (12, .ref a10)]) C dL_law_69 (by decide) rfl ?_
  have F11 : FR D 11 (arp r10 10 a10) h1 (hu g9 a10 (eJ D 64 (fun _ => 0))) := F10.s q10
  generalize hu g9 a10 (eJ D 64 (fun _ => 0)) = g10 at F11 ⊢
  obtain ⟨r11, er11⟩ : ∃ r : Nat → Nat, r = arp r10 10 a10 := ⟨_, rfl⟩
  rw [← er11] at F11
  refine x_bipush C dL_law_71 64 (by decide) ?_
  refine x_newJ C (N := 64) (st_rk 4 rfl) rfl (by decide) (by decide) (by decide) dL_law_73 (fun a11 q11 => ?_)
  refine x_astore (ls' := [(0, .ref b), (1, .ref x), (2, .ref a0), (3, .ref a1), (4, .ref a2), (5, .ref a3), (6, .ref a4), (7, .ref a5), (8, .ref a6), (9, .ref a7), (10, .ref a8), (11, .ref a9), (12, .ref a10), (13, .ref a11)]) C dL_law_75 (by decide) rfl ?_
  have F12 : FR D 12 (arp r11 11 a11) h1 (hu g10 a11 (eJ D 64 (fun _ => 0))) := F11.s q11
  generalize hu g10 a11 (eJ D 64 (fun _ => 0)) = g11 at F12 ⊢
  obtain ⟨r12, er12⟩ : ∃ r : Nat → Nat, r = arp r11 11 a11 := ⟨_, rfl⟩
  rw [← er12] at F12
  refine x_bipush C dL_law_77 64 (by decide) ?_
  refine x_newJ C (N := 64) (st_rk 4 rfl) rfl (by decide) (by decide) (by decide) dL_law_79 (fun a12 q12 => ?_)
  refine x_astore (ls' := [(0, .ref b), (1, .ref x), (2, .ref a0), (3, .ref a1), (4, .ref a2), (5, .ref a3), (6, .ref a4), (7, .ref a5), (8, .ref a6), (9, .ref a7), (10, .ref a8), (11, .ref a9), (12, .ref a10), (13, .ref a11), (14, .ref a12)]) C dL_law_81 (by decide) rfl ?_
  have F13 : FR D 13 (arp r12 12 a12) h1 (hu g11 a12 (eJ D 64 (fun _ => 0))) := F12.s q12
  generalize hu g11 a12 (eJ D 64 (fun _ => 0)) = g12 at F13 ⊢
  obtain ⟨r13, er13⟩ : ∃ r : Nat → Nat, r = arp r12 12 a12 := ⟨_, rfl⟩
  rw [← er13] at F13
  refine x_bipush C dL_law_83 64 (by decide) ?_
  refine x_newJ C (N := 64) (st_rk 4 rfl) rfl (by decide) (by decide) (by decide) dL_law_85 (fun a13 q13 => ?_)
  refine x_astore (ls' := [(0, .ref b), (1, .ref x), (2, .ref a0), (3, .ref a1), (4, .ref a2), (5, .ref a3), (6, .ref a4), (7, .ref a5), (8, .ref a6), (9, .ref a7), (10, .ref a8), (11, .ref a9), (12, .ref a10), (13, .ref a11), (14, .ref a12), (15, .ref a13)]) C dL_law_87 (by decide) rfl ?_
  have F14 : FR D 14 (arp r13 13 a13) h1 (hu g12 a13 (eJ D 64 (fun _ => 0))) := F13.s q13
  generalize hu g12 a13 (eJ D 64 (fun _ => 0)) = g13 at F14 ⊢
  obtain ⟨r14, er14⟩ : ∃ r : Nat → Nat, r = arp r13 13 a13 := ⟨_, rfl⟩
  rw [← er14] at F14
  refine x_bipush C dL_law_89 64 (by decide) ?_
  refine x_newJ C (N := 64) (st_rk 4 rfl) rfl (by decide) (by decide) (by decide) dL_law_91 (fun a14 q14 => ?_)
  refine x_astore (ls' := [(0, .ref b), (1, .ref x), (2, .ref a0), (3, .ref a1), (4, .ref a2), (5, .ref a3), (6, .ref a4), (7, .ref a5), (8, .ref a6), (9, .ref a7), (10, .ref a8), (11, .ref a9), (12, .ref a10), (13, .ref a11), (14, .ref a12), (15, .ref a13), (16, .ref a14)]) C dL_law_93 (by decide) rfl ?_
  have F15 : FR D 15 (arp r14 14 a14) h1 (hu g13 a14 (eJ D 64 (fun _ => 0))) := F14.s q14
  generalize hu g13 a14 (eJ D 64 (fun _ => 0)) = g14 at F15 ⊢
  obtain ⟨r15, er15⟩ : ∃ r : Nat → Nat, r = arp r14 14 a14 := ⟨_, rfl⟩
  rw [← er15] at F15
  refine x_iconst C dL_law_95 2 (by decide) ?_
  refine x_newJ C (N := 2) (st_rk 4 rfl) rfl (by decide) (by decide) (by decide) dL_law_96 (fun a15 q15 => ?_)
  refine x_astore (ls' := [(0, .ref b), (1, .ref x), (2, .ref a0), (3, .ref a1), (4, .ref a2), (5, .ref a3), (6, .ref a4), (7, .ref a5), (8, .ref a6), (9, .ref a7), (10, .ref a8), (11, .ref a9), (12, .ref a10), (13, .ref a11), (14, .ref a12), (15, .ref a13), (16, .ref a14), (17, .ref a15)]) C dL_law_98 (by decide) rfl ?_
  have F16 : FR D 16 (arp r15 15 a15) h1 (hu g14 a15 (eJ D 2 (fun _ => 0))) := F15.s q15
  generalize hu g14 a15 (eJ D 2 (fun _ => 0)) = g15 at F16 ⊢
  obtain ⟨r16, er16⟩ : ∃ r : Nat → Nat, r = arp r15 15 a15 := ⟨_, rfl⟩
  rw [← er16] at F16
  have E0 : r16 0 = a0 := by rw [er16, er15, er14, er13, er12, er11, er10, er9, er8, er7, er6, er5, er4, er3, er2, er1]; rfl
  have E1 : r16 1 = a1 := by rw [er16, er15, er14, er13, er12, er11, er10, er9, er8, er7, er6, er5, er4, er3, er2]; rfl
  have E2 : r16 2 = a2 := by rw [er16, er15, er14, er13, er12, er11, er10, er9, er8, er7, er6, er5, er4, er3]; rfl
  have E3 : r16 3 = a3 := by rw [er16, er15, er14, er13, er12, er11, er10, er9, er8, er7, er6, er5, er4]; rfl
  have E4 : r16 4 = a4 := by rw [er16, er15, er14, er13, er12, er11, er10, er9, er8, er7, er6, er5]; rfl
  have E5 : r16 5 = a5 := by rw [er16, er15, er14, er13, er12, er11, er10, er9, er8, er7, er6]; rfl
  have E6 : r16 6 = a6 := by rw [er16, er15, er14, er13, er12, er11, er10, er9, er8, er7]; rfl
  have E7 : r16 7 = a7 := by rw [er16, er15, er14, er13, er12, er11, er10, er9, er8]; rfl
  have E8 : r16 8 = a8 := by rw [er16, er15, er14, er13, er12, er11, er10, er9]; rfl
  have E9 : r16 9 = a9 := by rw [er16, er15, er14, er13, er12, er11, er10]; rfl
  have E10 : r16 10 = a10 := by rw [er16, er15, er14, er13, er12, er11]; rfl
  have E11 : r16 11 = a11 := by rw [er16, er15, er14, er13, er12]; rfl
  have E12 : r16 12 = a12 := by rw [er16, er15, er14, er13]; rfl
  have E13 : r16 13 = a13 := by rw [er16, er15, er14]; rfl
  have E14 : r16 14 = a14 := by rw [er16, er15]; rfl
  have E15 : r16 15 = a15 := by rw [er16]; rfl
  rw [← E0, ← E1, ← E2, ← E3, ← E4, ← E5, ← E6, ← E7, ← E8, ← E9, ← E10, ← E11, ← E12, ← E13, ← E14, ← E15]
  refine x_widen (m1 := 1000) (m2 := 20000) (by decide) (by decide) ?_
  exact lt_sets C (x := x) ha0 hR1 F16 (fun h9 hW9 => lt_loop C kn xs0 hL F16.2.1 hEnd 61 0 0 h9 _ _ (by decide) (by decide) (by decide) hW9 (by decide) (by decide))


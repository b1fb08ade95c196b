/-! ===== the law: its turn, its loop ===== -/
set_option maxRecDepth 20000 in
theorem gi_isSo_m : Cond.code yL_isSo cL_isSo 15 (some .boolean) ∈ wsL_law := List.mem_append_left _ (List.mem_append_left _ (List.mem_append_left _ (List.mem_append_left _ (List.mem_append_left _ (List.mem_append_left _ (List.mem_append_left _ (List.mem_append_left _ (List.mem_append_left _ (List.mem_append_left _ (List.mem_append_left _ (List.mem_append_left _ (List.mem_append_right _ (List.mem_append_right _ (List.mem_append_right _ (List.mem_append_right _ (List.mem_append_right _ (List.mem_append_right _ (List.mem_append_right _ (List.mem_append_right _ (List.mem_append_right _ (List.mem_append_right _ (List.mem_append_right _ (List.mem_append_right _ (List.mem_append_right _ (List.mem_append_right _ (List.mem_append_right _ (List.mem_append_right _ (List.mem_append_right _ (List.mem_append_right _ (List.mem_append_right _ (List.mem_append_left _ (List.mem_of_getElem? (i := 9) rfl))))))))))))))))))))))))))))))))
set_option maxRecDepth 20000 in
theorem gi_isSo_0 : GoodIn wsL_law [Cond.code yL_isSo cL_isSo 15 (some .boolean)] := goodIn_sub (fun w h => by rw [List.mem_singleton.mp h]; exact gi_isSo_m) (by decide +kernel)
set_option maxRecDepth 20000 in
theorem gi_isSo_1 : GoodIn wsL_law wsL_isSo_r1 := goodIn_r _ [466, 467, 468, 2, 469, 22, 470, 471, 472, 473, 23, 474, 475, 476, 477, 11, 365, 366, 367, 82, 83, 66, 67, 62] (by decide +kernel) (by decide +kernel)
set_option maxRecDepth 20000 in
theorem gi_isSo_2 : GoodIn wsL_law wsL_isSo_r2 := goodIn_r _ [68, 69, 478, 479, 480, 481, 154, 155, 156, 157, 13, 158, 159, 160, 161, 126, 127, 162, 163, 164, 98, 165, 111, 138] (by decide +kernel) (by decide +kernel)
set_option maxRecDepth 20000 in
theorem gi_isSo_3 : GoodIn wsL_law wsL_isSo_r3 := goodIn_r _ [139, 140, 73, 482, 483, 484, 485, 486, 487, 488, 489, 490, 491, 492, 493, 494, 495, 496, 497, 498, 499, 500, 251, 252] (by decide +kernel) (by decide +kernel)
set_option maxRecDepth 20000 in
theorem gi_isSo_4 : GoodIn wsL_law wsL_isSo_r4 := goodIn_r _ [253, 254, 15, 501, 502, 503, 504, 505, 506, 507, 508, 509, 510, 511, 512, 513, 514, 515, 227, 516, 238, 517, 518, 519] (by decide +kernel) (by decide +kernel)
set_option maxRecDepth 20000 in
theorem gi_isSo_5 : GoodIn wsL_law wsL_isSo_r5 := goodIn_r _ [520, 521, 522, 523, 524, 234, 525, 526, 527, 528, 529, 530, 531, 532, 533, 534, 535, 79, 80, 81, 536, 537, 538, 539] (by decide +kernel) (by decide +kernel)
set_option maxRecDepth 20000 in
theorem gi_isSo_6 : GoodIn wsL_law wsL_isSo_r6 := goodIn_r _ [237, 540, 541, 542, 543, 267, 268, 269, 270, 17, 544, 545, 546, 547, 548, 549, 550, 551, 552, 553, 554, 555, 556, 171] (by decide +kernel) (by decide +kernel)
set_option maxRecDepth 20000 in
theorem gi_isSo_7 : GoodIn wsL_law wsL_isSo_r7 := goodIn_r _ [172, 173, 174, 175, 176, 557, 558, 559, 560] (by decide +kernel) (by decide +kernel)
set_option maxRecDepth 20000 in
theorem gi_isSo_x7 : GoodIn wsL_law wsX70 := goodIn_r _ [561, 562, 563, 564, 565, 566, 567] (by decide +kernel) (by decide +kernel)
set_option maxRecDepth 20000 in
theorem gi_isSo_x3 : GoodIn wsL_law wsX30 := goodIn_r _ [584, 585, 586, 587, 588, 589] (by decide +kernel) (by decide +kernel)
set_option maxRecDepth 20000 in
theorem gi_isSo_x1 : GoodIn wsL_law wsX10 := goodIn_r _ [590, 591, 592] (by decide +kernel) (by decide +kernel)
set_option maxRecDepth 20000 in
theorem gi_isSo_x2 : GoodIn wsL_law wsX20 := goodIn_r _ [593, 594, 595, 596, 597] (by decide +kernel) (by decide +kernel)
set_option maxRecDepth 20000 in
theorem gi_isSo_x6 : GoodIn wsL_law wsX60 := goodIn_r _ [598, 599, 600, 601, 602, 603, 604, 605] (by decide +kernel) (by decide +kernel)
set_option maxRecDepth 20000 in
theorem gi_isSo_x4 : GoodIn wsL_law wsX40 := goodIn_r _ [575, 576, 577, 578] (by decide +kernel) (by decide +kernel)
set_option maxRecDepth 20000 in
theorem gi_isSo_x0 : GoodIn wsL_law wsX00 := goodIn_r _ [579, 580, 581, 582, 583] (by decide +kernel) (by decide +kernel)
set_option maxRecDepth 20000 in
theorem ggL_law_L_isSo : GoodIn wsL_law wsL_isSo := gi_cons gi_isSo_0 (gi_app (gi_app (gi_app (gi_app (gi_app (gi_app (gi_app (gi_app (gi_app gi_isSo_1 (gi_app gi_isSo_2 (gi_app gi_isSo_3 (gi_app gi_isSo_4 (gi_app gi_isSo_5 (gi_app gi_isSo_6 (gi_isSo_7))))))) gi_isSo_x7) gi_isSo_x3) gi_isSo_x1) gi_isSo_x2) gi_isSo_x6) gi_isSo_x4) gi_isSo_x0) (goodIn_sub (fun _ h => List.mem_append_left _ (List.mem_append_left _ (List.mem_append_right _ h))) (by decide +kernel)))
theorem dL_law_965 : decode cL_law 965 = .ok (.iload 21, 2) := by decide +kernel
theorem dL_law_967 : decode cL_law 967 = .ok (.ifCond .eq 26, 3) := by decide +kernel
theorem dL_law_970 : decode cL_law 970 = .ok (.aload_n 1, 1) := by decide +kernel
theorem dL_law_971 : decode cL_law 971 = .ok (.iload 19, 2) := by decide +kernel
theorem dL_law_973 : decode cL_law 973 = .ok (.iconst 3, 1) := by decide +kernel
theorem dL_law_974 : decode cL_law 974 = .ok (.ishr, 1) := by decide +kernel
theorem dL_law_975 : decode cL_law 975 = .ok (.aload_n 2, 1) := by decide +kernel
theorem dL_law_976 : decode cL_law 976 = .ok (.aload_n 3, 1) := by decide +kernel
theorem dL_law_977 : decode cL_law 977 = .ok (.aload 4, 2) := by decide +kernel
theorem dL_law_979 : decode cL_law 979 = .ok (.aload 7, 2) := by decide +kernel
theorem dL_law_981 : decode cL_law 981 = .ok (.aload 8, 2) := by decide +kernel
theorem dL_law_983 : decode cL_law 983 = .ok (.aload 9, 2) := by decide +kernel
theorem dL_law_985 : decode cL_law 985 = .ok (.aload 10, 2) := by decide +kernel
set_option maxRecDepth 20000 in
theorem gL_law_L_isSo : GoodIn wsL_law (va_wsS RL 209 yL_isSo wsL_isSo) := goodIn_app (goodIn_of _ (by decide +kernel)) ggL_law_L_isSo
theorem dL_law_987 : decode cL_law 987 = .ok (.invokestatic 209, 3) := by decide +kernel
theorem dL_law_990 : decode cL_law 990 = .ok (.ifCond .ne 5, 3) := by decide +kernel
theorem dL_law_995 : decode cL_law 995 = .ok (.iinc 18 1, 3) := by decide +kernel
theorem dL_law_998 : decode cL_law 998 = .ok (.goto (-870), 3) := by decide +kernel
theorem dL_law_135 : decode cL_law 135 = .ok (.aload_n 0, 1) := by decide +kernel
theorem dL_law_136 : decode cL_law 136 = .ok (.iload 18, 2) := by decide +kernel
set_option maxRecDepth 20000 in
theorem ggL_law_L_cell : GoodIn wsL_law wsL_cell := goodIn_r _ [63, 64, 65] (by decide +kernel) (by decide +kernel)
set_option maxRecDepth 20000 in
theorem gL_law_L_cell : GoodIn wsL_law (va_wsS RL 170 yL_cell wsL_cell) := goodIn_app (goodIn_of _ (by decide +kernel)) ggL_law_L_cell
theorem dL_law_138 : decode cL_law 138 = .ok (.invokestatic 170, 3) := by decide +kernel
theorem dL_law_141 : decode cL_law 141 = .ok (.istore 19, 2) := by decide +kernel
theorem dL_law_143 : decode cL_law 143 = .ok (.iload 19, 2) := by decide +kernel
theorem dL_law_145 : decode cL_law 145 = .ok (.bipush 25, 2) := by decide +kernel
theorem dL_law_147 : decode cL_law 147 = .ok (.invokestatic 78, 3) := by decide +kernel
theorem dL_law_150 : decode cL_law 150 = .ok (.istore 20, 2) := by decide +kernel
theorem dL_law_152 : decode cL_law 152 = .ok (.iconst 1, 1) := by decide +kernel
theorem dL_law_153 : decode cL_law 153 = .ok (.istore 21, 2) := by decide +kernel
theorem dL_law_243 : decode cL_law 243 = .ok (.iload 20, 2) := by decide +kernel
theorem dL_law_245 : decode cL_law 245 = .ok (.bipush 10, 2) := by decide +kernel
theorem dL_law_247 : decode cL_law 247 = .ok (.if_icmp .ge 42, 3) := by decide +kernel
theorem dL_law_289 : decode cL_law 289 = .ok (.iload 20, 2) := by decide +kernel
theorem dL_law_291 : decode cL_law 291 = .ok (.bipush 10, 2) := by decide +kernel
theorem dL_law_293 : decode cL_law 293 = .ok (.if_icmp .ne 123, 3) := by decide +kernel
theorem dL_law_416 : decode cL_law 416 = .ok (.iload 20, 2) := by decide +kernel
theorem dL_law_418 : decode cL_law 418 = .ok (.bipush 11, 2) := by decide +kernel
theorem dL_law_420 : decode cL_law 420 = .ok (.if_icmp .ne 331, 3) := by decide +kernel
theorem dL_law_751 : decode cL_law 751 = .ok (.iload 20, 2) := by decide +kernel
theorem dL_law_753 : decode cL_law 753 = .ok (.bipush 16, 2) := by decide +kernel
theorem dL_law_755 : decode cL_law 755 = .ok (.if_icmp .ge 114, 3) := by decide +kernel
theorem dL_law_869 : decode cL_law 869 = .ok (.iload 20, 2) := by decide +kernel
theorem dL_law_871 : decode cL_law 871 = .ok (.bipush 18, 2) := by decide +kernel
theorem dL_law_873 : decode cL_law 873 = .ok (.if_icmp .lt 9, 3) := by decide +kernel
theorem dL_law_876 : decode cL_law 876 = .ok (.aload_n 2, 1) := by decide +kernel
theorem dL_law_877 : decode cL_law 877 = .ok (.iconst 1, 1) := by decide +kernel
theorem dL_law_878 : decode cL_law 878 = .ok (.iaload, 1) := by decide +kernel
theorem dL_law_879 : decode cL_law 879 = .ok (.ifCond .ne 25, 3) := by decide +kernel
theorem dL_law_904 : decode cL_law 904 = .ok (.iload 20, 2) := by decide +kernel
theorem dL_law_906 : decode cL_law 906 = .ok (.bipush 20, 2) := by decide +kernel
theorem dL_law_908 : decode cL_law 908 = .ok (.if_icmp .ge 29, 3) := by decide +kernel
theorem dL_law_155 : decode cL_law 155 = .ok (.aload_n 2, 1) := by decide +kernel
theorem dL_law_156 : decode cL_law 156 = .ok (.iconst 0, 1) := by decide +kernel
theorem dL_law_157 : decode cL_law 157 = .ok (.iaload, 1) := by decide +kernel
theorem dL_law_158 : decode cL_law 158 = .ok (.ifCond .eq 15, 3) := by decide +kernel
theorem dL_law_161 : decode cL_law 161 = .ok (.iload 20, 2) := by decide +kernel
theorem dL_law_163 : decode cL_law 163 = .ok (.ifCond .ne 80, 3) := by decide +kernel
theorem dL_law_166 : decode cL_law 166 = .ok (.aload_n 2, 1) := by decide +kernel
theorem dL_law_167 : decode cL_law 167 = .ok (.iconst 0, 1) := by decide +kernel
theorem dL_law_168 : decode cL_law 168 = .ok (.iaload, 1) := by decide +kernel
theorem dL_law_169 : decode cL_law 169 = .ok (.iconst 5, 1) := by decide +kernel
theorem dL_law_170 : decode cL_law 170 = .ok (.if_icmp .ge 73, 3) := by decide +kernel
theorem dL_law_128 : decode cL_law 128 = .ok (.iload 18, 2) := by decide +kernel
theorem dL_law_130 : decode cL_law 130 = .ok (.bipush 60, 2) := by decide +kernel
theorem dL_law_132 : decode cL_law 132 = .ok (.if_icmp .ge 869, 3) := by decide +kernel

set_option maxRecDepth 100000 in
set_option maxHeartbeats 20000000 in
theorem lt_tail {κ : KX} {D : va_G} {A : Nat → Prop} {nm : String} (C : CX κ "LedgeLevelsLaw" nm cL_law wsL_law { frames := 12, cells := 600130, slots := 7301080, locals := 472 } D A 28) {b x t turn n1 n2 act : Nat} {ar : Nat → Nat} {zz : Int32} {h : vh} (htn : turn < 60) (hrm : n1 + 500 ≤ 600130 ∧ n2 + 3000 ≤ 7301080) (hW : WD D x ar t h) (K : X κ (n1 + 500) (n2 + 3000) h [(0, .ref b), (1, .ref x), (2, .ref (ar 0)), (3, .ref (ar 1)), (4, .ref (ar 2)), (5, .ref (ar 3)), (6, .ref (ar 4)), (7, .ref (ar 5)), (8, .ref (ar 6)), (9, .ref (ar 7)), (10, .ref (ar 8)), (11, .ref (ar 9)), (12, .ref (ar 10)), (13, .ref (ar 11)), (14, .ref (ar 12)), (15, .ref (ar 13)), (16, .ref (ar 14)), (17, .ref (ar 15)), (18, vI ((turn + 1 : Nat) : Int))] 128 []) : X κ n1 n2 h [(0, .ref b), (1, .ref x), (2, .ref (ar 0)), (3, .ref (ar 1)), (4, .ref (ar 2)), (5, .ref (ar 3)), (6, .ref (ar 4)), (7, .ref (ar 5)), (8, .ref (ar 6)), (9, .ref (ar 7)), (10, .ref (ar 8)), (11, .ref (ar 9)), (12, .ref (ar 10)), (13, .ref (ar 11)), (14, .ref (ar 12)), (15, .ref (ar 13)), (16, .ref (ar 14)), (17, .ref (ar 15)), (18, vI ((turn : Nat) : Int)), (19, .int zz), (20, vI ((act : Nat) : Int)), (21, vI 1)] 965 [] := by
  have hiz : nq (D.1 20) (D.1 21) := cx_iz C
  obtain ⟨m, L, W, q, g, l0, u, v, n, w, p, r, hSy, hEX, hPK, ⟨hq, hg, hl0, hu, hv, hn, hw, hp, hr⟩, hSC⟩ := hW
  refine x_iload C dL_law_965 21 rfl ?_
  refine x_if_eq (tgt := 993) C dL_law_967 (by decide) (by omega) (fun c1 => ?_) (fun c1 => ?_)
  · exfalso; omega
  · skip
    refine x_aload_n C dL_law_970 1 rfl ?_
    refine x_iload C dL_law_971 19 rfl ?_
    refine x_iconst C dL_law_973 3 (by decide) ?_
    refine x_ishr C dL_law_974 _ rfl ?_
    refine x_aload_n C dL_law_975 2 rfl ?_
    refine x_aload_n C dL_law_976 3 rfl ?_
    refine x_aload C dL_law_977 4 rfl ?_
    refine x_aload C dL_law_979 7 rfl ?_
    refine x_aload C dL_law_981 8 rfl ?_
    refine x_aload C dL_law_983 9 rfl ?_
    refine x_aload C dL_law_985 10 rfl ?_
    refine x_callSJ C (n := 9) (As := [.ref x, .int (zz >>> ((iI 3) &&& 31)), .ref (ar 0), .ref (ar 1), .ref (ar 2), .ref (ar 5), .ref (ar 6), .ref (ar 7), .ref (ar 8)]) (rest := []) (c_L_isSo hq hg hl0 hu hv hn hw hp hr hSy hPK) gL_law_L_isSo (by decide +kernel) rfl rfl rfl (Nat.le_of_ble_eq_true rfl) ⟨by decide, by decide⟩ ⟨(by first | omega | (dsimp only; omega)), (by first | omega | (dsimp only; omega))⟩ dL_law_987 (fun rv1 h9 hp3 => ?_)
    obtain ⟨rfl, e4⟩ := hp3
    obtain rfl := e4.symm
    refine x_if_ne (tgt := 995) C dL_law_990 (by decide) (by decide) (fun _ => ?_) (fun c2 => ?_)
    · refine x_iinc (ls' := [(0, .ref b), (1, .ref x), (2, .ref (ar 0)), (3, .ref (ar 1)), (4, .ref (ar 2)), (5, .ref (ar 3)), (6, .ref (ar 4)), (7, .ref (ar 5)), (8, .ref (ar 6)), (9, .ref (ar 7)), (10, .ref (ar 8)), (11, .ref (ar 9)), (12, .ref (ar 10)), (13, .ref (ar 11)), (14, .ref (ar 12)), (15, .ref (ar 13)), (16, .ref (ar 14)), (17, .ref (ar 15)), (18, vI ((turn + 1 : Nat) : Int)), (19, .int zz), (20, vI ((act : Nat) : Int)), (21, vI 1)]) C dL_law_995 18 rfl (by decide) rfl ?_
      refine x_goto (tgt := 128) C dL_law_998 (by decide) ?_
      refine x_sub [0, 1, 2, 3, 4, 5, 6, 7, 8, 9, 10, 11, 12, 13, 14, 15, 16, 17, 18] (ls' := [(0, .ref b), (1, .ref x), (2, .ref (ar 0)), (3, .ref (ar 1)), (4, .ref (ar 2)), (5, .ref (ar 3)), (6, .ref (ar 4)), (7, .ref (ar 5)), (8, .ref (ar 6)), (9, .ref (ar 7)), (10, .ref (ar 8)), (11, .ref (ar 9)), (12, .ref (ar 10)), (13, .ref (ar 11)), (14, .ref (ar 12)), (15, .ref (ar 13)), (16, .ref (ar 14)), (17, .ref (ar 15)), (18, vI ((turn + 1 : Nat) : Int))]) rfl ?_
      exact K
    · exact absurd c2 (by decide)
set_option maxRecDepth 100000 in
set_option maxHeartbeats 20000000 in
theorem lt_turn {κ : KX} {D : va_G} {A : Nat → Prop} {nm : String} (C : CX κ "LedgeLevelsLaw" nm cL_law wsL_law { frames := 12, cells := 600130, slots := 7301080, locals := 472 } D A 28) (kn : KN κ) {b x nS t turn n1 n2 : Nat} {sc : Nat → Int} (xs0 : XS κ b nS sc) (hnS : nS ≤ 260) {ar : Nat → Nat} {h : vh} (hai : ∀ i j, i < 16 → j < 16 → ar i = ar j → i = j) (ht : t ≤ 9000) (htn : turn < 60) (hrm : n1 + 1000 ≤ 600130 ∧ n2 + 6000 ≤ 7301080) (hW : WD D x ar t h) (K : ∀ h9, WD D x ar (t + 10) h9 → X κ (n1 + 1000) (n2 + 6000) h9 [(0, .ref b), (1, .ref x), (2, .ref (ar 0)), (3, .ref (ar 1)), (4, .ref (ar 2)), (5, .ref (ar 3)), (6, .ref (ar 4)), (7, .ref (ar 5)), (8, .ref (ar 6)), (9, .ref (ar 7)), (10, .ref (ar 8)), (11, .ref (ar 9)), (12, .ref (ar 10)), (13, .ref (ar 11)), (14, .ref (ar 12)), (15, .ref (ar 13)), (16, .ref (ar 14)), (17, .ref (ar 15)), (18, vI ((turn + 1 : Nat) : Int))] 128 []) : X κ n1 n2 h [(0, .ref b), (1, .ref x), (2, .ref (ar 0)), (3, .ref (ar 1)), (4, .ref (ar 2)), (5, .ref (ar 3)), (6, .ref (ar 4)), (7, .ref (ar 5)), (8, .ref (ar 6)), (9, .ref (ar 7)), (10, .ref (ar 8)), (11, .ref (ar 9)), (12, .ref (ar 10)), (13, .ref (ar 11)), (14, .ref (ar 12)), (15, .ref (ar 13)), (16, .ref (ar 14)), (17, .ref (ar 15)), (18, vI ((turn : Nat) : Int))] 135 [] := by
  have hiz : nq (D.1 20) (D.1 21) := cx_iz C
  refine x_aload_n C dL_law_135 0 rfl ?_
  refine x_iload C dL_law_136 18 rfl ?_
  refine x_callSs C xs0 (n := 2) (As := [.ref b, vI ((turn : Nat) : Int)]) (rest := []) (c_L_cell htn hnS) gL_law_L_cell (by decide +kernel) rfl rfl rfl (Nat.le_of_ble_eq_true rfl) ⟨by decide, by decide⟩ ⟨(by first | omega | (dsimp only; omega)), (by first | omega | (dsimp only; omega))⟩ dL_law_138 (fun rv1 h8 hp3 => ?_)
  obtain ⟨⟨zz, rfl⟩, e2⟩ := hp3
  obtain rfl := e2.symm
  refine x_istore C (ls' := [(0, .ref b), (1, .ref x), (2, .ref (ar 0)), (3, .ref (ar 1)), (4, .ref (ar 2)), (5, .ref (ar 3)), (6, .ref (ar 4)), (7, .ref (ar 5)), (8, .ref (ar 6)), (9, .ref (ar 7)), (10, .ref (ar 8)), (11, .ref (ar 9)), (12, .ref (ar 10)), (13, .ref (ar 11)), (14, .ref (ar 12)), (15, .ref (ar 13)), (16, .ref (ar 14)), (17, .ref (ar 15)), (18, vI ((turn : Nat) : Int)), (19, .int zz)]) dL_law_141 (by decide) rfl ?_
  refine x_iload C dL_law_143 19 rfl ?_
  refine x_bipush C dL_law_145 25 (by decide) ?_
  refine x_callSJ C (n := 2) (As := [.int zz, vI 25]) (rest := []) (c_L_low (by omega)) gL_law_L_low (by decide +kernel) rfl rfl rfl (Nat.le_of_ble_eq_true rfl) ⟨by decide, by decide⟩ ⟨(by first | omega | (dsimp only; omega)), (by first | omega | (dsimp only; omega))⟩ dL_law_147 (fun rv2 h9 hp4 => ?_)
  obtain ⟨rfl, e4, hact⟩ := hp4
  obtain rfl := e4.symm
  obtain ⟨act, hae⟩ : ∃ act : Nat, act = lowF zz 25 := ⟨_, rfl⟩
  rw [← hae] at hact
  refine x_topv (show ((lowF zz 25 : Nat) : Int) = ((act : Nat) : Int) from by rw [hae]) ?_
  clear hae
  refine x_istore C (ls' := [(0, .ref b), (1, .ref x), (2, .ref (ar 0)), (3, .ref (ar 1)), (4, .ref (ar 2)), (5, .ref (ar 3)), (6, .ref (ar 4)), (7, .ref (ar 5)), (8, .ref (ar 6)), (9, .ref (ar 7)), (10, .ref (ar 8)), (11, .ref (ar 9)), (12, .ref (ar 10)), (13, .ref (ar 11)), (14, .ref (ar 12)), (15, .ref (ar 13)), (16, .ref (ar 14)), (17, .ref (ar 15)), (18, vI ((turn : Nat) : Int)), (19, .int zz), (20, vI ((act : Nat) : Int))]) dL_law_150 (by decide) rfl ?_
  refine x_iconst C dL_law_152 1 (by decide) ?_
  refine x_istore C (ls' := [(0, .ref b), (1, .ref x), (2, .ref (ar 0)), (3, .ref (ar 1)), (4, .ref (ar 2)), (5, .ref (ar 3)), (6, .ref (ar 4)), (7, .ref (ar 5)), (8, .ref (ar 6)), (9, .ref (ar 7)), (10, .ref (ar 8)), (11, .ref (ar 9)), (12, .ref (ar 10)), (13, .ref (ar 11)), (14, .ref (ar 12)), (15, .ref (ar 13)), (16, .ref (ar 14)), (17, .ref (ar 15)), (18, vI ((turn : Nat) : Int)), (19, .int zz), (20, vI ((act : Nat) : Int)), (21, vI 1)]) dL_law_153 (by decide) rfl ?_
  obtain ⟨m, L, W, q, g, l0, u, v, n, w, p, r, hSy, hEX, hPK, hAR, hSC⟩ := hW
  obtain ⟨⟨hL5, hW5, hq0, hq1⟩, _⟩ := id hPK
  have hqA := hAR.1
  have ht2 : t ≤ 10000 := by omega
  have T : ∀ h9, WD D x ar (t + 10) h9 → X κ (n1 + 500) (n2 + 3000) h9 [(0, .ref b), (1, .ref x), (2, .ref (ar 0)), (3, .ref (ar 1)), (4, .ref (ar 2)), (5, .ref (ar 3)), (6, .ref (ar 4)), (7, .ref (ar 5)), (8, .ref (ar 6)), (9, .ref (ar 7)), (10, .ref (ar 8)), (11, .ref (ar 9)), (12, .ref (ar 10)), (13, .ref (ar 11)), (14, .ref (ar 12)), (15, .ref (ar 13)), (16, .ref (ar 14)), (17, .ref (ar 15)), (18, vI ((turn : Nat) : Int)), (19, .int zz), (20, vI ((act : Nat) : Int)), (21, vI 1)] 965 [] := fun h9 hW9 => lt_tail C (t := t + 10) htn ⟨by omega, by omega⟩ hW9 (K h9 hW9)
  have B882 : 0 < L → X κ n1 n2 h [(0, .ref b), (1, .ref x), (2, .ref (ar 0)), (3, .ref (ar 1)), (4, .ref (ar 2)), (5, .ref (ar 3)), (6, .ref (ar 4)), (7, .ref (ar 5)), (8, .ref (ar 6)), (9, .ref (ar 7)), (10, .ref (ar 8)), (11, .ref (ar 9)), (12, .ref (ar 10)), (13, .ref (ar 11)), (14, .ref (ar 12)), (15, .ref (ar 13)), (16, .ref (ar 14)), (17, .ref (ar 15)), (18, vI ((turn : Nat) : Int)), (19, .int zz), (20, vI ((act : Nat) : Int)), (21, vI 1)] 882 [] := fun hL => lb_exch0 C kn hai ht2 hrm hSy hEX hPK hAR hSC hL T
  have B243 : 0 < L → X κ n1 n2 h [(0, .ref b), (1, .ref x), (2, .ref (ar 0)), (3, .ref (ar 1)), (4, .ref (ar 2)), (5, .ref (ar 3)), (6, .ref (ar 4)), (7, .ref (ar 5)), (8, .ref (ar 6)), (9, .ref (ar 7)), (10, .ref (ar 8)), (11, .ref (ar 9)), (12, .ref (ar 10)), (13, .ref (ar 11)), (14, .ref (ar 12)), (15, .ref (ar 13)), (16, .ref (ar 14)), (17, .ref (ar 15)), (18, vI ((turn : Nat) : Int)), (19, .int zz), (20, vI ((act : Nat) : Int)), (21, vI 1)] 243 [] := fun hL => by
    refine x_iload C dL_law_243 20 rfl ?_
    refine x_bipush C dL_law_245 10 (by decide) ?_
    refine x_icmp_ge (tgt := 289) C dL_law_247 (by decide) (by omega) (by omega) (fun c1 => ?_) (fun c1 => ?_)
    · refine x_iload C dL_law_289 20 rfl ?_
      refine x_bipush C dL_law_291 10 (by decide) ?_
      refine x_icmp_ne (tgt := 416) C dL_law_293 (by decide) (by omega) (by omega) (fun c2 => ?_) (fun c2 => ?_)
      · refine x_iload C dL_law_416 20 rfl ?_
        refine x_bipush C dL_law_418 11 (by decide) ?_
        refine x_icmp_ne (tgt := 751) C dL_law_420 (by decide) (by omega) (by omega) (fun c3 => ?_) (fun c3 => ?_)
        · refine x_iload C dL_law_751 20 rfl ?_
          refine x_bipush C dL_law_753 16 (by decide) ?_
          refine x_icmp_ge (tgt := 869) C dL_law_755 (by decide) (by omega) (by omega) (fun c4 => ?_) (fun c4 => ?_)
          · refine x_iload C dL_law_869 20 rfl ?_
            refine x_bipush C dL_law_871 18 (by decide) ?_
            refine x_icmp_lt (tgt := 882) C dL_law_873 (by decide) (by omega) (by omega) (fun c5 => B882 hL) (fun c5 => ?_)
            refine x_aload_n C dL_law_876 2 rfl ?_
            refine x_iconst C dL_law_877 1 (by decide) ?_
            refine x_iald C hqA ⟨by omega, by omega⟩ (by decide) dL_law_878 ?_
            refine x_topv (show q (Int.toNat 1) = ((W : Nat) : Int) from by exact hq1) ?_
            refine x_if_ne (tgt := 904) C dL_law_879 (by decide) (by omega) (fun c6 => ?_) (fun c6 => B882 hL)
            have hW0 : 0 < W := by omega
            refine x_iload C dL_law_904 20 rfl ?_
            refine x_bipush C dL_law_906 20 (by decide) ?_
            refine x_icmp_ge (tgt := 937) C dL_law_908 (by decide) (by omega) (by omega) (fun c7 => ?_) (fun c7 => ?_)
            · by_cases c8 : act < 22
              · exact lb_runs0 C kn hai ht2 hrm hSy hEX hPK hAR hSC hW0 ⟨c8, by omega⟩ T
              · exact lb_runs1 C kn hai ht2 hrm hSy hEX hPK hAR hSC hW0 ⟨by omega, by omega⟩ T
            · by_cases c8 : act = 18
              · exact lb_exch1 C kn hai ht2 hrm hSy hEX hPK hAR hSC hW0 c8 T
              · exact lb_exch2 C kn hai ht2 hrm hSy hEX hPK hAR hSC hW0 (by omega) T
          · exact lb_prove C kn hai ht2 hrm hSy hEX hPK hAR hSC hL T
        · exact lb_spring C kn hai ht2 hrm hSy hEX hPK hAR hSC (by omega) T
      · exact lb_setStart C kn hai ht2 hrm hSy hEX hPK hAR hSC hL T
    · by_cases c8 : act < 8
      · exact lb_edits0 C kn hai ht2 hrm hSy hEX hPK hAR hSC hL c8 T
      · by_cases c9 : act = 8
        · exact lb_edits1 C kn hai ht2 hrm hSy hEX hPK hAR hSC hL c9 T
        · exact lb_edits2 C kn hai ht2 hrm hSy hEX hPK hAR hSC hL (by omega) T
  have B173 : L < 5 → X κ n1 n2 h [(0, .ref b), (1, .ref x), (2, .ref (ar 0)), (3, .ref (ar 1)), (4, .ref (ar 2)), (5, .ref (ar 3)), (6, .ref (ar 4)), (7, .ref (ar 5)), (8, .ref (ar 6)), (9, .ref (ar 7)), (10, .ref (ar 8)), (11, .ref (ar 9)), (12, .ref (ar 10)), (13, .ref (ar 11)), (14, .ref (ar 12)), (15, .ref (ar 13)), (16, .ref (ar 14)), (17, .ref (ar 15)), (18, vI ((turn : Nat) : Int)), (19, .int zz), (20, vI ((act : Nat) : Int)), (21, vI 1)] 173 [] := fun hL => lb_begin C kn hai ht2 hrm hSy hEX hPK hAR hSC hL T
  refine x_aload_n C dL_law_155 2 rfl ?_
  refine x_iconst C dL_law_156 0 (by decide) ?_
  refine x_iald C hqA ⟨by omega, by omega⟩ (by decide) dL_law_157 ?_
  refine x_topv (show q (Int.toNat 0) = ((L : Nat) : Int) from by exact hq0) ?_
  refine x_if_eq (tgt := 173) C dL_law_158 (by decide) (by omega) (fun c1 => B173 (by omega)) (fun c1 => ?_)
  refine x_iload C dL_law_161 20 rfl ?_
  refine x_if_ne (tgt := 243) C dL_law_163 (by decide) (by omega) (fun c2 => B243 (by omega)) (fun c2 => ?_)
  refine x_aload_n C dL_law_166 2 rfl ?_
  refine x_iconst C dL_law_167 0 (by decide) ?_
  refine x_iald C hqA ⟨by omega, by omega⟩ (by decide) dL_law_168 ?_
  refine x_topv (show q (Int.toNat 0) = ((L : Nat) : Int) from by exact hq0) ?_
  refine x_iconst C dL_law_169 5 (by decide) ?_
  exact x_icmp_ge (tgt := 243) C dL_law_170 (by decide) (by omega) (by omega) (fun c3 => B243 (by omega)) (fun c3 => B173 (by omega))
set_option maxRecDepth 100000 in
set_option maxHeartbeats 20000000 in
theorem lt_loop {κ : KX} {D : va_G} {A : Nat → Prop} {nm : String} (C : CX κ "LedgeLevelsLaw" nm cL_law wsL_law { frames := 12, cells := 600130, slots := 7301080, locals := 472 } D A 28) (kn : KN κ) {b x nS : Nat} {sc : Nat → Int} (xs0 : XS κ b nS sc) (hnS : nS ≤ 260) {ar : Nat → Nat} (hai : ∀ i j, i < 16 → j < 16 → ar i = ar j → i = j) (E : ∀ (h : vh) (n1 n2 : Nat) (ls : List (Nat × Value)), n1 ≤ 600130 → n2 ≤ 7301080 → X κ n1 n2 h ls 1001 []) : ∀ (N turn t : Nat) (h : vh) (n1 n2 : Nat), 61 ≤ N + turn → turn ≤ 60 → t ≤ 10 * turn → WD D x ar t h → n1 ≤ 1000 + 1000 * turn → n2 ≤ 20000 + 6000 * turn → X κ n1 n2 h [(0, .ref b), (1, .ref x), (2, .ref (ar 0)), (3, .ref (ar 1)), (4, .ref (ar 2)), (5, .ref (ar 3)), (6, .ref (ar 4)), (7, .ref (ar 5)), (8, .ref (ar 6)), (9, .ref (ar 7)), (10, .ref (ar 8)), (11, .ref (ar 9)), (12, .ref (ar 10)), (13, .ref (ar 11)), (14, .ref (ar 12)), (15, .ref (ar 13)), (16, .ref (ar 14)), (17, .ref (ar 15)), (18, vI ((turn : Nat) : Int))] 128 [] := by
  intro N
  induction N with
  | zero => intro turn t h n1 n2 h1 h2; exfalso; omega
  | succ N ih =>
  intro turn t h n1 n2 hN htn ht hW hn1 hn2
  refine x_iload C dL_law_128 18 rfl ?_
  refine x_bipush C dL_law_130 60 (by decide) ?_
  refine x_icmp_ge (tgt := 1001) C dL_law_132 (by decide) (by omega) (by omega) (fun _ => E h n1 n2 _ (by omega) (by omega)) (fun c1 => ?_)
  exact lt_turn C kn xs0 hnS hai (by omega) (by omega) ⟨by omega, by omega⟩ hW (fun h9 hW9 => ih (turn + 1) (t + 10) h9 _ _ (by omega) (by omega) (by omega) hW9 (by omega) (by omega))

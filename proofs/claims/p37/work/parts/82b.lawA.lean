/-! ===== the law: edits, exchange, runs ===== -/
theorem dL_law_250 : decode cL_law 250 = .ok (.aload_n 1, 1) := by decide +kernel
theorem dL_law_251 : decode cL_law 251 = .ok (.iload 20, 2) := by decide +kernel
theorem dL_law_253 : decode cL_law 253 = .ok (.bipush 8, 2) := by decide +kernel
theorem dL_law_255 : decode cL_law 255 = .ok (.if_icmp .ge 7, 3) := by decide +kernel
theorem dL_law_258 : decode cL_law 258 = .ok (.iconst 0, 1) := by decide +kernel
theorem dL_law_259 : decode cL_law 259 = .ok (.goto 8, 3) := by decide +kernel
theorem dL_law_267 : decode cL_law 267 = .ok (.iload 19, 2) := by decide +kernel
theorem dL_law_269 : decode cL_law 269 = .ok (.iconst 5, 1) := by decide +kernel
theorem dL_law_270 : decode cL_law 270 = .ok (.ishr, 1) := by decide +kernel
theorem dL_law_271 : decode cL_law 271 = .ok (.aload_n 2, 1) := by decide +kernel
theorem dL_law_272 : decode cL_law 272 = .ok (.aload_n 3, 1) := by decide +kernel
theorem dL_law_273 : decode cL_law 273 = .ok (.aload 4, 2) := by decide +kernel
theorem dL_law_275 : decode cL_law 275 = .ok (.aload 5, 2) := by decide +kernel
theorem dL_law_277 : decode cL_law 277 = .ok (.aload 6, 2) := by decide +kernel
theorem dL_law_279 : decode cL_law 279 = .ok (.aload 7, 2) := by decide +kernel
set_option maxRecDepth 20000 in
theorem gL_law_L_edits : GoodIn wsL_law (va_wsS RL 177 yL_edits wsL_edits) := goodIn_app (goodIn_of _ (by decide +kernel)) ggL_law_L_edits
theorem dL_law_281 : decode cL_law 281 = .ok (.invokestatic 177, 3) := by decide +kernel
theorem dL_law_284 : decode cL_law 284 = .ok (.istore 21, 2) := by decide +kernel
theorem dL_law_286 : decode cL_law 286 = .ok (.goto 679, 3) := by decide +kernel
theorem dL_law_262 : decode cL_law 262 = .ok (.iload 20, 2) := by decide +kernel
theorem dL_law_264 : decode cL_law 264 = .ok (.bipush 7, 2) := by decide +kernel
theorem dL_law_266 : decode cL_law 266 = .ok (.isub, 1) := by decide +kernel
theorem dL_law_882 : decode cL_law 882 = .ok (.aload_n 1, 1) := by decide +kernel
theorem dL_law_883 : decode cL_law 883 = .ok (.iconst 0, 1) := by decide +kernel
theorem dL_law_884 : decode cL_law 884 = .ok (.iload 19, 2) := by decide +kernel
theorem dL_law_886 : decode cL_law 886 = .ok (.iconst 5, 1) := by decide +kernel
theorem dL_law_887 : decode cL_law 887 = .ok (.ishr, 1) := by decide +kernel
theorem dL_law_888 : decode cL_law 888 = .ok (.aload_n 2, 1) := by decide +kernel
theorem dL_law_889 : decode cL_law 889 = .ok (.aload_n 3, 1) := by decide +kernel
theorem dL_law_890 : decode cL_law 890 = .ok (.aload 4, 2) := by decide +kernel
theorem dL_law_892 : decode cL_law 892 = .ok (.aload 8, 2) := by decide +kernel
theorem dL_law_894 : decode cL_law 894 = .ok (.aload 9, 2) := by decide +kernel
set_option maxRecDepth 20000 in
theorem gL_law_L_exchange : GoodIn wsL_law (va_wsS RL 201 yL_exchange wsL_exchange) := goodIn_app (goodIn_of _ (by decide +kernel)) ggL_law_L_exchange
theorem dL_law_896 : decode cL_law 896 = .ok (.invokestatic 201, 3) := by decide +kernel
theorem dL_law_899 : decode cL_law 899 = .ok (.istore 21, 2) := by decide +kernel
theorem dL_law_901 : decode cL_law 901 = .ok (.goto 64, 3) := by decide +kernel
theorem dL_law_911 : decode cL_law 911 = .ok (.aload_n 1, 1) := by decide +kernel
theorem dL_law_912 : decode cL_law 912 = .ok (.iload 20, 2) := by decide +kernel
theorem dL_law_914 : decode cL_law 914 = .ok (.bipush 17, 2) := by decide +kernel
theorem dL_law_916 : decode cL_law 916 = .ok (.isub, 1) := by decide +kernel
theorem dL_law_917 : decode cL_law 917 = .ok (.iload 19, 2) := by decide +kernel
theorem dL_law_919 : decode cL_law 919 = .ok (.iconst 5, 1) := by decide +kernel
theorem dL_law_920 : decode cL_law 920 = .ok (.ishr, 1) := by decide +kernel
theorem dL_law_921 : decode cL_law 921 = .ok (.aload_n 2, 1) := by decide +kernel
theorem dL_law_922 : decode cL_law 922 = .ok (.aload_n 3, 1) := by decide +kernel
theorem dL_law_923 : decode cL_law 923 = .ok (.aload 4, 2) := by decide +kernel
theorem dL_law_925 : decode cL_law 925 = .ok (.aload 8, 2) := by decide +kernel
theorem dL_law_927 : decode cL_law 927 = .ok (.aload 9, 2) := by decide +kernel
theorem dL_law_929 : decode cL_law 929 = .ok (.invokestatic 201, 3) := by decide +kernel
theorem dL_law_932 : decode cL_law 932 = .ok (.istore 21, 2) := by decide +kernel
theorem dL_law_934 : decode cL_law 934 = .ok (.goto 31, 3) := by decide +kernel
theorem dL_law_937 : decode cL_law 937 = .ok (.aload_n 1, 1) := by decide +kernel
theorem dL_law_938 : decode cL_law 938 = .ok (.iload 20, 2) := by decide +kernel
theorem dL_law_940 : decode cL_law 940 = .ok (.bipush 22, 2) := by decide +kernel
theorem dL_law_942 : decode cL_law 942 = .ok (.if_icmp .ge 7, 3) := by decide +kernel
theorem dL_law_945 : decode cL_law 945 = .ok (.iconst 0, 1) := by decide +kernel
theorem dL_law_946 : decode cL_law 946 = .ok (.goto 4, 3) := by decide +kernel
theorem dL_law_950 : decode cL_law 950 = .ok (.iload 19, 2) := by decide +kernel
theorem dL_law_952 : decode cL_law 952 = .ok (.iconst 5, 1) := by decide +kernel
theorem dL_law_953 : decode cL_law 953 = .ok (.ishr, 1) := by decide +kernel
theorem dL_law_954 : decode cL_law 954 = .ok (.aload_n 2, 1) := by decide +kernel
theorem dL_law_955 : decode cL_law 955 = .ok (.aload_n 3, 1) := by decide +kernel
theorem dL_law_956 : decode cL_law 956 = .ok (.aload 8, 2) := by decide +kernel
theorem dL_law_958 : decode cL_law 958 = .ok (.aload 10, 2) := by decide +kernel
set_option maxRecDepth 20000 in
theorem gL_law_L_runs : GoodIn wsL_law (va_wsS RL 205 yL_runs wsL_runs) := goodIn_app (goodIn_of _ (by decide +kernel)) ggL_law_L_runs
theorem dL_law_960 : decode cL_law 960 = .ok (.invokestatic 205, 3) := by decide +kernel
theorem dL_law_963 : decode cL_law 963 = .ok (.istore 21, 2) := by decide +kernel
theorem dL_law_949 : decode cL_law 949 = .ok (.iconst 1, 1) := by decide +kernel


set_option maxRecDepth 100000 in
set_option maxHeartbeats 20000000 in
theorem lb_edits0 {κ : KX} {D : va_G} {A : Nat → Prop} {nm : String} (C : CX κ "LedgeLevelsLaw" nm cL_law wsL_law { frames := 12, cells := 600130, slots := 7301080, locals := 472 } D A 28) (kn : KN κ) {b x t turn n1 n2 act : Nat} {ar : Nat → Nat} {zz : Int32} {h : vh} (hai : ∀ i j, i < 16 → j < 16 → ar i = ar j → i = j) (ht : t ≤ 10000) (hrm : n1 + 1000 ≤ 600130 ∧ n2 + 6000 ≤ 7301080) {m : CS} {L W : Nat} {q : Nat → Int} {g : Nat → Int64} {l0 u v n w p r : Nat → Int} (hSy : Sy D x ar m L W t h) (hEX : EX m) (hPK : PK m L W q g l0 u v n w p r) (hAR : AR D ar q g l0 u v n w p r h) (hSC : SC D ar h) (hL : 0 < L) (hact : act < 8) (K : ∀ h9, WD D x ar (t + 10) h9 → X κ (n1 + 500) (n2 + 3000) h9 [(0, .ref b), (1, .ref x), (2, .ref (ar 0)), (3, .ref (ar 1)), (4, .ref (ar 2)), (5, .ref (ar 3)), (6, .ref (ar 4)), (7, .ref (ar 5)), (8, .ref (ar 6)), (9, .ref (ar 7)), (10, .ref (ar 8)), (11, .ref (ar 9)), (12, .ref (ar 10)), (13, .ref (ar 11)), (14, .ref (ar 12)), (15, .ref (ar 13)), (16, .ref (ar 14)), (17, .ref (ar 15)), (18, vI ((turn : Nat) : Int)), (19, .int zz), (20, vI ((act : Nat) : Int)), (21, vI 1)] 965 []) : X κ n1 n2 h [(0, .ref b), (1, .ref x), (2, .ref (ar 0)), (3, .ref (ar 1)), (4, .ref (ar 2)), (5, .ref (ar 3)), (6, .ref (ar 4)), (7, .ref (ar 5)), (8, .ref (ar 6)), (9, .ref (ar 7)), (10, .ref (ar 8)), (11, .ref (ar 9)), (12, .ref (ar 10)), (13, .ref (ar 11)), (14, .ref (ar 12)), (15, .ref (ar 13)), (16, .ref (ar 14)), (17, .ref (ar 15)), (18, vI ((turn : Nat) : Int)), (19, .int zz), (20, vI ((act : Nat) : Int)), (21, vI 1)] 250 [] := by
  have hiz : nq (D.1 20) (D.1 21) := cx_iz C
  obtain ⟨hq, hg, hl0, hu, hv, hn, hw, hp, hr⟩ := hAR
  obtain ⟨⟨hL5, hW5, hq0, hq1⟩, _⟩ := id hPK
  refine x_aload_n C dL_law_250 1 rfl ?_
  refine x_iload C dL_law_251 20 rfl ?_
  refine x_bipush C dL_law_253 8 (by decide) ?_
  refine x_icmp_ge (tgt := 262) C dL_law_255 (by decide) (by omega) (by omega) (fun c1 => ?_) (fun c1 => ?_)
  · exfalso; omega
  · skip
    refine x_iconst C dL_law_258 0 (by decide) ?_
    refine x_goto (tgt := 267) C dL_law_259 (by decide) ?_
    refine x_iload C dL_law_267 19 rfl ?_
    refine x_iconst C dL_law_269 5 (by decide) ?_
    refine x_ishr C dL_law_270 _ rfl ?_
    refine x_aload_n C dL_law_271 2 rfl ?_
    refine x_aload_n C dL_law_272 3 rfl ?_
    refine x_aload C dL_law_273 4 rfl ?_
    refine x_aload C dL_law_275 5 rfl ?_
    refine x_aload C dL_law_277 6 rfl ?_
    refine x_aload C dL_law_279 7 rfl ?_
    refine x_callSc C (n := 9) (As := [.ref x, vI 0, .int (zz >>> ((iI 5) &&& 31)), .ref (ar 0), .ref (ar 1), .ref (ar 2), .ref (ar 3), .ref (ar 4), .ref (ar 5)]) (rest := []) (c_L_edits0 hq hg hl0 hu hv hn hw hp hr (hai) (hSy) (hEX) (hPK) (hSC) (by omega)) kn gL_law_L_edits (by decide +kernel) rfl rfl rfl (Nat.le_of_ble_eq_true rfl) ⟨by decide, by decide⟩ ⟨(by first | omega | (dsimp only; omega)), (by first | omega | (dsimp only; omega))⟩ dL_law_281 (fun rv2 h3 hp4 => ?_)
    obtain ⟨rfl, hWD9⟩ := hp4
    refine x_istore C (ls' := [(0, .ref b), (1, .ref x), (2, .ref (ar 0)), (3, .ref (ar 1)), (4, .ref (ar 2)), (5, .ref (ar 3)), (6, .ref (ar 4)), (7, .ref (ar 5)), (8, .ref (ar 6)), (9, .ref (ar 7)), (10, .ref (ar 8)), (11, .ref (ar 9)), (12, .ref (ar 10)), (13, .ref (ar 11)), (14, .ref (ar 12)), (15, .ref (ar 13)), (16, .ref (ar 14)), (17, .ref (ar 15)), (18, vI ((turn : Nat) : Int)), (19, .int zz), (20, vI ((act : Nat) : Int)), (21, vI 1)]) dL_law_284 (by decide) rfl ?_
    refine x_goto (tgt := 965) C dL_law_286 (by decide) ?_
    refine x_widen (m1 := n1 + 500) (m2 := n2 + 3000) (by first | omega | (dsimp only; omega)) (by first | omega | (dsimp only; omega)) ?_
    exact K h3 (hWD9.le (by omega))


set_option maxRecDepth 100000 in
set_option maxHeartbeats 20000000 in
theorem lb_edits1 {κ : KX} {D : va_G} {A : Nat → Prop} {nm : String} (C : CX κ "LedgeLevelsLaw" nm cL_law wsL_law { frames := 12, cells := 600130, slots := 7301080, locals := 472 } D A 28) (kn : KN κ) {b x t turn n1 n2 act : Nat} {ar : Nat → Nat} {zz : Int32} {h : vh} (hai : ∀ i j, i < 16 → j < 16 → ar i = ar j → i = j) (ht : t ≤ 10000) (hrm : n1 + 1000 ≤ 600130 ∧ n2 + 6000 ≤ 7301080) {m : CS} {L W : Nat} {q : Nat → Int} {g : Nat → Int64} {l0 u v n w p r : Nat → Int} (hSy : Sy D x ar m L W t h) (hEX : EX m) (hPK : PK m L W q g l0 u v n w p r) (hAR : AR D ar q g l0 u v n w p r h) (hSC : SC D ar h) (hL : 0 < L) (hact : act = 8) (K : ∀ h9, WD D x ar (t + 10) h9 → X κ (n1 + 500) (n2 + 3000) h9 [(0, .ref b), (1, .ref x), (2, .ref (ar 0)), (3, .ref (ar 1)), (4, .ref (ar 2)), (5, .ref (ar 3)), (6, .ref (ar 4)), (7, .ref (ar 5)), (8, .ref (ar 6)), (9, .ref (ar 7)), (10, .ref (ar 8)), (11, .ref (ar 9)), (12, .ref (ar 10)), (13, .ref (ar 11)), (14, .ref (ar 12)), (15, .ref (ar 13)), (16, .ref (ar 14)), (17, .ref (ar 15)), (18, vI ((turn : Nat) : Int)), (19, .int zz), (20, vI ((act : Nat) : Int)), (21, vI 1)] 965 []) : X κ n1 n2 h [(0, .ref b), (1, .ref x), (2, .ref (ar 0)), (3, .ref (ar 1)), (4, .ref (ar 2)), (5, .ref (ar 3)), (6, .ref (ar 4)), (7, .ref (ar 5)), (8, .ref (ar 6)), (9, .ref (ar 7)), (10, .ref (ar 8)), (11, .ref (ar 9)), (12, .ref (ar 10)), (13, .ref (ar 11)), (14, .ref (ar 12)), (15, .ref (ar 13)), (16, .ref (ar 14)), (17, .ref (ar 15)), (18, vI ((turn : Nat) : Int)), (19, .int zz), (20, vI ((act : Nat) : Int)), (21, vI 1)] 250 [] := by
  have hiz : nq (D.1 20) (D.1 21) := cx_iz C
  obtain ⟨hq, hg, hl0, hu, hv, hn, hw, hp, hr⟩ := hAR
  obtain ⟨⟨hL5, hW5, hq0, hq1⟩, _⟩ := id hPK
  refine x_aload_n C dL_law_250 1 rfl ?_
  refine x_iload C dL_law_251 20 rfl ?_
  refine x_bipush C dL_law_253 8 (by decide) ?_
  refine x_icmp_ge (tgt := 262) C dL_law_255 (by decide) (by omega) (by omega) (fun c1 => ?_) (fun c1 => ?_)
  · skip
    refine x_iload C dL_law_262 20 rfl ?_
    refine x_bipush C dL_law_264 7 (by decide) ?_
    refine x_isub C dL_law_266 ?_
    refine x_topv (show (((act : Nat) : Int)) - 7 = 1 from by omega) ?_
    refine x_iload C dL_law_267 19 rfl ?_
    refine x_iconst C dL_law_269 5 (by decide) ?_
    refine x_ishr C dL_law_270 _ rfl ?_
    refine x_aload_n C dL_law_271 2 rfl ?_
    refine x_aload_n C dL_law_272 3 rfl ?_
    refine x_aload C dL_law_273 4 rfl ?_
    refine x_aload C dL_law_275 5 rfl ?_
    refine x_aload C dL_law_277 6 rfl ?_
    refine x_aload C dL_law_279 7 rfl ?_
    refine x_callSc C (n := 9) (As := [.ref x, vI 1, .int (zz >>> ((iI 5) &&& 31)), .ref (ar 0), .ref (ar 1), .ref (ar 2), .ref (ar 3), .ref (ar 4), .ref (ar 5)]) (rest := []) (c_L_edits1 hq hg hl0 hu hv hn hw hp hr (hai) (hSy) (hEX) (hPK) (hSC) (by omega)) kn gL_law_L_edits (by decide +kernel) rfl rfl rfl (Nat.le_of_ble_eq_true rfl) ⟨by decide, by decide⟩ ⟨(by first | omega | (dsimp only; omega)), (by first | omega | (dsimp only; omega))⟩ dL_law_281 (fun rv2 h3 hp4 => ?_)
    obtain ⟨rfl, hWD9⟩ := hp4
    refine x_istore C (ls' := [(0, .ref b), (1, .ref x), (2, .ref (ar 0)), (3, .ref (ar 1)), (4, .ref (ar 2)), (5, .ref (ar 3)), (6, .ref (ar 4)), (7, .ref (ar 5)), (8, .ref (ar 6)), (9, .ref (ar 7)), (10, .ref (ar 8)), (11, .ref (ar 9)), (12, .ref (ar 10)), (13, .ref (ar 11)), (14, .ref (ar 12)), (15, .ref (ar 13)), (16, .ref (ar 14)), (17, .ref (ar 15)), (18, vI ((turn : Nat) : Int)), (19, .int zz), (20, vI ((act : Nat) : Int)), (21, vI 1)]) dL_law_284 (by decide) rfl ?_
    refine x_goto (tgt := 965) C dL_law_286 (by decide) ?_
    refine x_widen (m1 := n1 + 500) (m2 := n2 + 3000) (by first | omega | (dsimp only; omega)) (by first | omega | (dsimp only; omega)) ?_
    exact K h3 (hWD9.le (by omega))
  · exfalso; omega


set_option maxRecDepth 100000 in
set_option maxHeartbeats 20000000 in
theorem lb_edits2 {κ : KX} {D : va_G} {A : Nat → Prop} {nm : String} (C : CX κ "LedgeLevelsLaw" nm cL_law wsL_law { frames := 12, cells := 600130, slots := 7301080, locals := 472 } D A 28) (kn : KN κ) {b x t turn n1 n2 act : Nat} {ar : Nat → Nat} {zz : Int32} {h : vh} (hai : ∀ i j, i < 16 → j < 16 → ar i = ar j → i = j) (ht : t ≤ 10000) (hrm : n1 + 1000 ≤ 600130 ∧ n2 + 6000 ≤ 7301080) {m : CS} {L W : Nat} {q : Nat → Int} {g : Nat → Int64} {l0 u v n w p r : Nat → Int} (hSy : Sy D x ar m L W t h) (hEX : EX m) (hPK : PK m L W q g l0 u v n w p r) (hAR : AR D ar q g l0 u v n w p r h) (hSC : SC D ar h) (hL : 0 < L) (hact : act = 9) (K : ∀ h9, WD D x ar (t + 10) h9 → X κ (n1 + 500) (n2 + 3000) h9 [(0, .ref b), (1, .ref x), (2, .ref (ar 0)), (3, .ref (ar 1)), (4, .ref (ar 2)), (5, .ref (ar 3)), (6, .ref (ar 4)), (7, .ref (ar 5)), (8, .ref (ar 6)), (9, .ref (ar 7)), (10, .ref (ar 8)), (11, .ref (ar 9)), (12, .ref (ar 10)), (13, .ref (ar 11)), (14, .ref (ar 12)), (15, .ref (ar 13)), (16, .ref (ar 14)), (17, .ref (ar 15)), (18, vI ((turn : Nat) : Int)), (19, .int zz), (20, vI ((act : Nat) : Int)), (21, vI 1)] 965 []) : X κ n1 n2 h [(0, .ref b), (1, .ref x), (2, .ref (ar 0)), (3, .ref (ar 1)), (4, .ref (ar 2)), (5, .ref (ar 3)), (6, .ref (ar 4)), (7, .ref (ar 5)), (8, .ref (ar 6)), (9, .ref (ar 7)), (10, .ref (ar 8)), (11, .ref (ar 9)), (12, .ref (ar 10)), (13, .ref (ar 11)), (14, .ref (ar 12)), (15, .ref (ar 13)), (16, .ref (ar 14)), (17, .ref (ar 15)), (18, vI ((turn : Nat) : Int)), (19, .int zz), (20, vI ((act : Nat) : Int)), (21, vI 1)] 250 [] := by
  have hiz : nq (D.1 20) (D.1 21) := cx_iz C
  obtain ⟨hq, hg, hl0, hu, hv, hn, hw, hp, hr⟩ := hAR
  obtain ⟨⟨hL5, hW5, hq0, hq1⟩, _⟩ := id hPK
  refine x_aload_n C dL_law_250 1 rfl ?_
  refine x_iload C dL_law_251 20 rfl ?_
  refine x_bipush C dL_law_253 8 (by decide) ?_
  refine x_icmp_ge (tgt := 262) C dL_law_255 (by decide) (by omega) (by omega) (fun c1 => ?_) (fun c1 => ?_)
  · skip
    refine x_iload C dL_law_262 20 rfl ?_
    refine x_bipush C dL_law_264 7 (by decide) ?_
    refine x_isub C dL_law_266 ?_
    refine x_topv (show (((act : Nat) : Int)) - 7 = 2 from by omega) ?_
    refine x_iload C dL_law_267 19 rfl ?_
    refine x_iconst C dL_law_269 5 (by decide) ?_
    refine x_ishr C dL_law_270 _ rfl ?_
    refine x_aload_n C dL_law_271 2 rfl ?_
    refine x_aload_n C dL_law_272 3 rfl ?_
    refine x_aload C dL_law_273 4 rfl ?_
    refine x_aload C dL_law_275 5 rfl ?_
    refine x_aload C dL_law_277 6 rfl ?_
    refine x_aload C dL_law_279 7 rfl ?_
    refine x_callSc C (n := 9) (As := [.ref x, vI 2, .int (zz >>> ((iI 5) &&& 31)), .ref (ar 0), .ref (ar 1), .ref (ar 2), .ref (ar 3), .ref (ar 4), .ref (ar 5)]) (rest := []) (c_L_edits2 hq hg hl0 hu hv hn hw hp hr (hai) (hSy) (hEX) (hPK) (hSC) (by omega)) kn gL_law_L_edits (by decide +kernel) rfl rfl rfl (Nat.le_of_ble_eq_true rfl) ⟨by decide, by decide⟩ ⟨(by first | omega | (dsimp only; omega)), (by first | omega | (dsimp only; omega))⟩ dL_law_281 (fun rv2 h3 hp4 => ?_)
    obtain ⟨rfl, hWD9⟩ := hp4
    refine x_istore C (ls' := [(0, .ref b), (1, .ref x), (2, .ref (ar 0)), (3, .ref (ar 1)), (4, .ref (ar 2)), (5, .ref (ar 3)), (6, .ref (ar 4)), (7, .ref (ar 5)), (8, .ref (ar 6)), (9, .ref (ar 7)), (10, .ref (ar 8)), (11, .ref (ar 9)), (12, .ref (ar 10)), (13, .ref (ar 11)), (14, .ref (ar 12)), (15, .ref (ar 13)), (16, .ref (ar 14)), (17, .ref (ar 15)), (18, vI ((turn : Nat) : Int)), (19, .int zz), (20, vI ((act : Nat) : Int)), (21, vI 1)]) dL_law_284 (by decide) rfl ?_
    refine x_goto (tgt := 965) C dL_law_286 (by decide) ?_
    refine x_widen (m1 := n1 + 500) (m2 := n2 + 3000) (by first | omega | (dsimp only; omega)) (by first | omega | (dsimp only; omega)) ?_
    exact K h3 (hWD9.le (by omega))
  · exfalso; omega


set_option maxRecDepth 100000 in
set_option maxHeartbeats 20000000 in
theorem lb_exch0 {κ : KX} {D : va_G} {A : Nat → Prop} {nm : String} (C : CX κ "LedgeLevelsLaw" nm cL_law wsL_law { frames := 12, cells := 600130, slots := 7301080, locals := 472 } D A 28) (kn : KN κ) {b x t turn n1 n2 act : Nat} {ar : Nat → Nat} {zz : Int32} {h : vh} (hai : ∀ i j, i < 16 → j < 16 → ar i = ar j → i = j) (ht : t ≤ 10000) (hrm : n1 + 1000 ≤ 600130 ∧ n2 + 6000 ≤ 7301080) {m : CS} {L W : Nat} {q : Nat → Int} {g : Nat → Int64} {l0 u v n w p r : Nat → Int} (hSy : Sy D x ar m L W t h) (hEX : EX m) (hPK : PK m L W q g l0 u v n w p r) (hAR : AR D ar q g l0 u v n w p r h) (hSC : SC D ar h) (hL : 0 < L) (K : ∀ h9, WD D x ar (t + 10) h9 → X κ (n1 + 500) (n2 + 3000) h9 [(0, .ref b), (1, .ref x), (2, .ref (ar 0)), (3, .ref (ar 1)), (4, .ref (ar 2)), (5, .ref (ar 3)), (6, .ref (ar 4)), (7, .ref (ar 5)), (8, .ref (ar 6)), (9, .ref (ar 7)), (10, .ref (ar 8)), (11, .ref (ar 9)), (12, .ref (ar 10)), (13, .ref (ar 11)), (14, .ref (ar 12)), (15, .ref (ar 13)), (16, .ref (ar 14)), (17, .ref (ar 15)), (18, vI ((turn : Nat) : Int)), (19, .int zz), (20, vI ((act : Nat) : Int)), (21, vI 1)] 965 []) : X κ n1 n2 h [(0, .ref b), (1, .ref x), (2, .ref (ar 0)), (3, .ref (ar 1)), (4, .ref (ar 2)), (5, .ref (ar 3)), (6, .ref (ar 4)), (7, .ref (ar 5)), (8, .ref (ar 6)), (9, .ref (ar 7)), (10, .ref (ar 8)), (11, .ref (ar 9)), (12, .ref (ar 10)), (13, .ref (ar 11)), (14, .ref (ar 12)), (15, .ref (ar 13)), (16, .ref (ar 14)), (17, .ref (ar 15)), (18, vI ((turn : Nat) : Int)), (19, .int zz), (20, vI ((act : Nat) : Int)), (21, vI 1)] 882 [] := by
  have hiz : nq (D.1 20) (D.1 21) := cx_iz C
  obtain ⟨hq, hg, hl0, hu, hv, hn, hw, hp, hr⟩ := hAR
  obtain ⟨⟨hL5, hW5, hq0, hq1⟩, _⟩ := id hPK
  refine x_aload_n C dL_law_882 1 rfl ?_
  refine x_iconst C dL_law_883 0 (by decide) ?_
  refine x_iload C dL_law_884 19 rfl ?_
  refine x_iconst C dL_law_886 5 (by decide) ?_
  refine x_ishr C dL_law_887 _ rfl ?_
  refine x_aload_n C dL_law_888 2 rfl ?_
  refine x_aload_n C dL_law_889 3 rfl ?_
  refine x_aload C dL_law_890 4 rfl ?_
  refine x_aload C dL_law_892 8 rfl ?_
  refine x_aload C dL_law_894 9 rfl ?_
  refine x_callSc C (n := 8) (As := [.ref x, vI 0, .int (zz >>> ((iI 5) &&& 31)), .ref (ar 0), .ref (ar 1), .ref (ar 2), .ref (ar 6), .ref (ar 7)]) (rest := []) (c_L_exchange0 hq hg hl0 hu hv hn hw hp hr (hai) (hSy) (hEX) (hPK) (hSC) (by omega)) kn gL_law_L_exchange (by decide +kernel) rfl rfl rfl (Nat.le_of_ble_eq_true rfl) ⟨by decide, by decide⟩ ⟨(by first | omega | (dsimp only; omega)), (by first | omega | (dsimp only; omega))⟩ dL_law_896 (fun rv1 h2 hp3 => ?_)
  obtain ⟨rfl, hWD9⟩ := hp3
  refine x_istore C (ls' := [(0, .ref b), (1, .ref x), (2, .ref (ar 0)), (3, .ref (ar 1)), (4, .ref (ar 2)), (5, .ref (ar 3)), (6, .ref (ar 4)), (7, .ref (ar 5)), (8, .ref (ar 6)), (9, .ref (ar 7)), (10, .ref (ar 8)), (11, .ref (ar 9)), (12, .ref (ar 10)), (13, .ref (ar 11)), (14, .ref (ar 12)), (15, .ref (ar 13)), (16, .ref (ar 14)), (17, .ref (ar 15)), (18, vI ((turn : Nat) : Int)), (19, .int zz), (20, vI ((act : Nat) : Int)), (21, vI 1)]) dL_law_899 (by decide) rfl ?_
  refine x_goto (tgt := 965) C dL_law_901 (by decide) ?_
  refine x_widen (m1 := n1 + 500) (m2 := n2 + 3000) (by first | omega | (dsimp only; omega)) (by first | omega | (dsimp only; omega)) ?_
  exact K h2 (hWD9.le (by omega))


set_option maxRecDepth 100000 in
set_option maxHeartbeats 20000000 in
theorem lb_exch1 {κ : KX} {D : va_G} {A : Nat → Prop} {nm : String} (C : CX κ "LedgeLevelsLaw" nm cL_law wsL_law { frames := 12, cells := 600130, slots := 7301080, locals := 472 } D A 28) (kn : KN κ) {b x t turn n1 n2 act : Nat} {ar : Nat → Nat} {zz : Int32} {h : vh} (hai : ∀ i j, i < 16 → j < 16 → ar i = ar j → i = j) (ht : t ≤ 10000) (hrm : n1 + 1000 ≤ 600130 ∧ n2 + 6000 ≤ 7301080) {m : CS} {L W : Nat} {q : Nat → Int} {g : Nat → Int64} {l0 u v n w p r : Nat → Int} (hSy : Sy D x ar m L W t h) (hEX : EX m) (hPK : PK m L W q g l0 u v n w p r) (hAR : AR D ar q g l0 u v n w p r h) (hSC : SC D ar h) (hW : 0 < W) (hact : act = 18) (K : ∀ h9, WD D x ar (t + 10) h9 → X κ (n1 + 500) (n2 + 3000) h9 [(0, .ref b), (1, .ref x), (2, .ref (ar 0)), (3, .ref (ar 1)), (4, .ref (ar 2)), (5, .ref (ar 3)), (6, .ref (ar 4)), (7, .ref (ar 5)), (8, .ref (ar 6)), (9, .ref (ar 7)), (10, .ref (ar 8)), (11, .ref (ar 9)), (12, .ref (ar 10)), (13, .ref (ar 11)), (14, .ref (ar 12)), (15, .ref (ar 13)), (16, .ref (ar 14)), (17, .ref (ar 15)), (18, vI ((turn : Nat) : Int)), (19, .int zz), (20, vI ((act : Nat) : Int)), (21, vI 1)] 965 []) : X κ n1 n2 h [(0, .ref b), (1, .ref x), (2, .ref (ar 0)), (3, .ref (ar 1)), (4, .ref (ar 2)), (5, .ref (ar 3)), (6, .ref (ar 4)), (7, .ref (ar 5)), (8, .ref (ar 6)), (9, .ref (ar 7)), (10, .ref (ar 8)), (11, .ref (ar 9)), (12, .ref (ar 10)), (13, .ref (ar 11)), (14, .ref (ar 12)), (15, .ref (ar 13)), (16, .ref (ar 14)), (17, .ref (ar 15)), (18, vI ((turn : Nat) : Int)), (19, .int zz), (20, vI ((act : Nat) : Int)), (21, vI 1)] 911 [] := by
  have hiz : nq (D.1 20) (D.1 21) := cx_iz C
  obtain ⟨hq, hg, hl0, hu, hv, hn, hw, hp, hr⟩ := hAR
  obtain ⟨⟨hL5, hW5, hq0, hq1⟩, _⟩ := id hPK
  refine x_aload_n C dL_law_911 1 rfl ?_
  refine x_iload C dL_law_912 20 rfl ?_
  refine x_bipush C dL_law_914 17 (by decide) ?_
  refine x_isub C dL_law_916 ?_
  refine x_topv (show (((act : Nat) : Int)) - 17 = 1 from by omega) ?_
  refine x_iload C dL_law_917 19 rfl ?_
  refine x_iconst C dL_law_919 5 (by decide) ?_
  refine x_ishr C dL_law_920 _ rfl ?_
  refine x_aload_n C dL_law_921 2 rfl ?_
  refine x_aload_n C dL_law_922 3 rfl ?_
  refine x_aload C dL_law_923 4 rfl ?_
  refine x_aload C dL_law_925 8 rfl ?_
  refine x_aload C dL_law_927 9 rfl ?_
  refine x_callSc C (n := 8) (As := [.ref x, vI 1, .int (zz >>> ((iI 5) &&& 31)), .ref (ar 0), .ref (ar 1), .ref (ar 2), .ref (ar 6), .ref (ar 7)]) (rest := []) (c_L_exchange1 hq hg hl0 hu hv hn hw hp hr (hai) (hSy) (hEX) (hPK) (hSC) (by omega)) kn gL_law_L_exchange (by decide +kernel) rfl rfl rfl (Nat.le_of_ble_eq_true rfl) ⟨by decide, by decide⟩ ⟨(by first | omega | (dsimp only; omega)), (by first | omega | (dsimp only; omega))⟩ dL_law_929 (fun rv1 h2 hp3 => ?_)
  obtain ⟨rfl, hWD9⟩ := hp3
  refine x_istore C (ls' := [(0, .ref b), (1, .ref x), (2, .ref (ar 0)), (3, .ref (ar 1)), (4, .ref (ar 2)), (5, .ref (ar 3)), (6, .ref (ar 4)), (7, .ref (ar 5)), (8, .ref (ar 6)), (9, .ref (ar 7)), (10, .ref (ar 8)), (11, .ref (ar 9)), (12, .ref (ar 10)), (13, .ref (ar 11)), (14, .ref (ar 12)), (15, .ref (ar 13)), (16, .ref (ar 14)), (17, .ref (ar 15)), (18, vI ((turn : Nat) : Int)), (19, .int zz), (20, vI ((act : Nat) : Int)), (21, vI 1)]) dL_law_932 (by decide) rfl ?_
  refine x_goto (tgt := 965) C dL_law_934 (by decide) ?_
  refine x_widen (m1 := n1 + 500) (m2 := n2 + 3000) (by first | omega | (dsimp only; omega)) (by first | omega | (dsimp only; omega)) ?_
  exact K h2 (hWD9.le (by omega))


set_option maxRecDepth 100000 in
set_option maxHeartbeats 20000000 in
theorem lb_exch2 {κ : KX} {D : va_G} {A : Nat → Prop} {nm : String} (C : CX κ "LedgeLevelsLaw" nm cL_law wsL_law { frames := 12, cells := 600130, slots := 7301080, locals := 472 } D A 28) (kn : KN κ) {b x t turn n1 n2 act : Nat} {ar : Nat → Nat} {zz : Int32} {h : vh} (hai : ∀ i j, i < 16 → j < 16 → ar i = ar j → i = j) (ht : t ≤ 10000) (hrm : n1 + 1000 ≤ 600130 ∧ n2 + 6000 ≤ 7301080) {m : CS} {L W : Nat} {q : Nat → Int} {g : Nat → Int64} {l0 u v n w p r : Nat → Int} (hSy : Sy D x ar m L W t h) (hEX : EX m) (hPK : PK m L W q g l0 u v n w p r) (hAR : AR D ar q g l0 u v n w p r h) (hSC : SC D ar h) (hW : 0 < W) (hact : act = 19) (K : ∀ h9, WD D x ar (t + 10) h9 → X κ (n1 + 500) (n2 + 3000) h9 [(0, .ref b), (1, .ref x), (2, .ref (ar 0)), (3, .ref (ar 1)), (4, .ref (ar 2)), (5, .ref (ar 3)), (6, .ref (ar 4)), (7, .ref (ar 5)), (8, .ref (ar 6)), (9, .ref (ar 7)), (10, .ref (ar 8)), (11, .ref (ar 9)), (12, .ref (ar 10)), (13, .ref (ar 11)), (14, .ref (ar 12)), (15, .ref (ar 13)), (16, .ref (ar 14)), (17, .ref (ar 15)), (18, vI ((turn : Nat) : Int)), (19, .int zz), (20, vI ((act : Nat) : Int)), (21, vI 1)] 965 []) : X κ n1 n2 h [(0, .ref b), (1, .ref x), (2, .ref (ar 0)), (3, .ref (ar 1)), (4, .ref (ar 2)), (5, .ref (ar 3)), (6, .ref (ar 4)), (7, .ref (ar 5)), (8, .ref (ar 6)), (9, .ref (ar 7)), (10, .ref (ar 8)), (11, .ref (ar 9)), (12, .ref (ar 10)), (13, .ref (ar 11)), (14, .ref (ar 12)), (15, .ref (ar 13)), (16, .ref (ar 14)), (17, .ref (ar 15)), (18, vI ((turn : Nat) : Int)), (19, .int zz), (20, vI ((act : Nat) : Int)), (21, vI 1)] 911 [] := by
  have hiz : nq (D.1 20) (D.1 21) := cx_iz C
  obtain ⟨hq, hg, hl0, hu, hv, hn, hw, hp, hr⟩ := hAR
  obtain ⟨⟨hL5, hW5, hq0, hq1⟩, _⟩ := id hPK
  refine x_aload_n C dL_law_911 1 rfl ?_
  refine x_iload C dL_law_912 20 rfl ?_
  refine x_bipush C dL_law_914 17 (by decide) ?_
  refine x_isub C dL_law_916 ?_
  refine x_topv (show (((act : Nat) : Int)) - 17 = 2 from by omega) ?_
  refine x_iload C dL_law_917 19 rfl ?_
  refine x_iconst C dL_law_919 5 (by decide) ?_
  refine x_ishr C dL_law_920 _ rfl ?_
  refine x_aload_n C dL_law_921 2 rfl ?_
  refine x_aload_n C dL_law_922 3 rfl ?_
  refine x_aload C dL_law_923 4 rfl ?_
  refine x_aload C dL_law_925 8 rfl ?_
  refine x_aload C dL_law_927 9 rfl ?_
  refine x_callSc C (n := 8) (As := [.ref x, vI 2, .int (zz >>> ((iI 5) &&& 31)), .ref (ar 0), .ref (ar 1), .ref (ar 2), .ref (ar 6), .ref (ar 7)]) (rest := []) (c_L_exchange2 hq hg hl0 hu hv hn hw hp hr (hai) (hSy) (hEX) (hPK) (hSC) (by omega)) kn gL_law_L_exchange (by decide +kernel) rfl rfl rfl (Nat.le_of_ble_eq_true rfl) ⟨by decide, by decide⟩ ⟨(by first | omega | (dsimp only; omega)), (by first | omega | (dsimp only; omega))⟩ dL_law_929 (fun rv1 h2 hp3 => ?_)
  obtain ⟨rfl, hWD9⟩ := hp3
  refine x_istore C (ls' := [(0, .ref b), (1, .ref x), (2, .ref (ar 0)), (3, .ref (ar 1)), (4, .ref (ar 2)), (5, .ref (ar 3)), (6, .ref (ar 4)), (7, .ref (ar 5)), (8, .ref (ar 6)), (9, .ref (ar 7)), (10, .ref (ar 8)), (11, .ref (ar 9)), (12, .ref (ar 10)), (13, .ref (ar 11)), (14, .ref (ar 12)), (15, .ref (ar 13)), (16, .ref (ar 14)), (17, .ref (ar 15)), (18, vI ((turn : Nat) : Int)), (19, .int zz), (20, vI ((act : Nat) : Int)), (21, vI 1)]) dL_law_932 (by decide) rfl ?_
  refine x_goto (tgt := 965) C dL_law_934 (by decide) ?_
  refine x_widen (m1 := n1 + 500) (m2 := n2 + 3000) (by first | omega | (dsimp only; omega)) (by first | omega | (dsimp only; omega)) ?_
  exact K h2 (hWD9.le (by omega))


set_option maxRecDepth 100000 in
set_option maxHeartbeats 20000000 in
theorem lb_runs0 {κ : KX} {D : va_G} {A : Nat → Prop} {nm : String} (C : CX κ "LedgeLevelsLaw" nm cL_law wsL_law { frames := 12, cells := 600130, slots := 7301080, locals := 472 } D A 28) (kn : KN κ) {b x t turn n1 n2 act : Nat} {ar : Nat → Nat} {zz : Int32} {h : vh} (hai : ∀ i j, i < 16 → j < 16 → ar i = ar j → i = j) (ht : t ≤ 10000) (hrm : n1 + 1000 ≤ 600130 ∧ n2 + 6000 ≤ 7301080) {m : CS} {L W : Nat} {q : Nat → Int} {g : Nat → Int64} {l0 u v n w p r : Nat → Int} (hSy : Sy D x ar m L W t h) (hEX : EX m) (hPK : PK m L W q g l0 u v n w p r) (hAR : AR D ar q g l0 u v n w p r h) (hSC : SC D ar h) (hW : 0 < W) (hact : act < 22 ∧ act < 25) (K : ∀ h9, WD D x ar (t + 10) h9 → X κ (n1 + 500) (n2 + 3000) h9 [(0, .ref b), (1, .ref x), (2, .ref (ar 0)), (3, .ref (ar 1)), (4, .ref (ar 2)), (5, .ref (ar 3)), (6, .ref (ar 4)), (7, .ref (ar 5)), (8, .ref (ar 6)), (9, .ref (ar 7)), (10, .ref (ar 8)), (11, .ref (ar 9)), (12, .ref (ar 10)), (13, .ref (ar 11)), (14, .ref (ar 12)), (15, .ref (ar 13)), (16, .ref (ar 14)), (17, .ref (ar 15)), (18, vI ((turn : Nat) : Int)), (19, .int zz), (20, vI ((act : Nat) : Int)), (21, vI 1)] 965 []) : X κ n1 n2 h [(0, .ref b), (1, .ref x), (2, .ref (ar 0)), (3, .ref (ar 1)), (4, .ref (ar 2)), (5, .ref (ar 3)), (6, .ref (ar 4)), (7, .ref (ar 5)), (8, .ref (ar 6)), (9, .ref (ar 7)), (10, .ref (ar 8)), (11, .ref (ar 9)), (12, .ref (ar 10)), (13, .ref (ar 11)), (14, .ref (ar 12)), (15, .ref (ar 13)), (16, .ref (ar 14)), (17, .ref (ar 15)), (18, vI ((turn : Nat) : Int)), (19, .int zz), (20, vI ((act : Nat) : Int)), (21, vI 1)] 937 [] := by
  have hiz : nq (D.1 20) (D.1 21) := cx_iz C
  obtain ⟨hq, hg, hl0, hu, hv, hn, hw, hp, hr⟩ := hAR
  obtain ⟨⟨hL5, hW5, hq0, hq1⟩, _⟩ := id hPK
  refine x_aload_n C dL_law_937 1 rfl ?_
  refine x_iload C dL_law_938 20 rfl ?_
  refine x_bipush C dL_law_940 22 (by decide) ?_
  refine x_icmp_ge (tgt := 949) C dL_law_942 (by decide) (by omega) (by omega) (fun c1 => ?_) (fun c1 => ?_)
  · exfalso; omega
  · skip
    refine x_iconst C dL_law_945 0 (by decide) ?_
    refine x_goto (tgt := 950) C dL_law_946 (by decide) ?_
    refine x_iload C dL_law_950 19 rfl ?_
    refine x_iconst C dL_law_952 5 (by decide) ?_
    refine x_ishr C dL_law_953 _ rfl ?_
    refine x_aload_n C dL_law_954 2 rfl ?_
    refine x_aload_n C dL_law_955 3 rfl ?_
    refine x_aload C dL_law_956 8 rfl ?_
    refine x_aload C dL_law_958 10 rfl ?_
    refine x_callSc C (n := 7) (As := [.ref x, vI 0, .int (zz >>> ((iI 5) &&& 31)), .ref (ar 0), .ref (ar 1), .ref (ar 6), .ref (ar 8)]) (rest := []) (c_L_runs0 hq hg hl0 hu hv hn hw hp hr (hai) (hSy) (hEX) (hPK) (hSC) (by omega)) kn gL_law_L_runs (by decide +kernel) rfl rfl rfl (Nat.le_of_ble_eq_true rfl) ⟨by decide, by decide⟩ ⟨(by first | omega | (dsimp only; omega)), (by first | omega | (dsimp only; omega))⟩ dL_law_960 (fun rv2 h3 hp4 => ?_)
    obtain ⟨rfl, hWD9⟩ := hp4
    refine x_istore C (ls' := [(0, .ref b), (1, .ref x), (2, .ref (ar 0)), (3, .ref (ar 1)), (4, .ref (ar 2)), (5, .ref (ar 3)), (6, .ref (ar 4)), (7, .ref (ar 5)), (8, .ref (ar 6)), (9, .ref (ar 7)), (10, .ref (ar 8)), (11, .ref (ar 9)), (12, .ref (ar 10)), (13, .ref (ar 11)), (14, .ref (ar 12)), (15, .ref (ar 13)), (16, .ref (ar 14)), (17, .ref (ar 15)), (18, vI ((turn : Nat) : Int)), (19, .int zz), (20, vI ((act : Nat) : Int)), (21, vI 1)]) dL_law_963 (by decide) rfl ?_
    refine x_widen (m1 := n1 + 500) (m2 := n2 + 3000) (by first | omega | (dsimp only; omega)) (by first | omega | (dsimp only; omega)) ?_
    exact K h3 (hWD9.le (by omega))


set_option maxRecDepth 100000 in
set_option maxHeartbeats 20000000 in
theorem lb_runs1 {κ : KX} {D : va_G} {A : Nat → Prop} {nm : String} (C : CX κ "LedgeLevelsLaw" nm cL_law wsL_law { frames := 12, cells := 600130, slots := 7301080, locals := 472 } D A 28) (kn : KN κ) {b x t turn n1 n2 act : Nat} {ar : Nat → Nat} {zz : Int32} {h : vh} (hai : ∀ i j, i < 16 → j < 16 → ar i = ar j → i = j) (ht : t ≤ 10000) (hrm : n1 + 1000 ≤ 600130 ∧ n2 + 6000 ≤ 7301080) {m : CS} {L W : Nat} {q : Nat → Int} {g : Nat → Int64} {l0 u v n w p r : Nat → Int} (hSy : Sy D x ar m L W t h) (hEX : EX m) (hPK : PK m L W q g l0 u v n w p r) (hAR : AR D ar q g l0 u v n w p r h) (hSC : SC D ar h) (hW : 0 < W) (hact : 22 ≤ act ∧ act < 25) (K : ∀ h9, WD D x ar (t + 10) h9 → X κ (n1 + 500) (n2 + 3000) h9 [(0, .ref b), (1, .ref x), (2, .ref (ar 0)), (3, .ref (ar 1)), (4, .ref (ar 2)), (5, .ref (ar 3)), (6, .ref (ar 4)), (7, .ref (ar 5)), (8, .ref (ar 6)), (9, .ref (ar 7)), (10, .ref (ar 8)), (11, .ref (ar 9)), (12, .ref (ar 10)), (13, .ref (ar 11)), (14, .ref (ar 12)), (15, .ref (ar 13)), (16, .ref (ar 14)), (17, .ref (ar 15)), (18, vI ((turn : Nat) : Int)), (19, .int zz), (20, vI ((act : Nat) : Int)), (21, vI 1)] 965 []) : X κ n1 n2 h [(0, .ref b), (1, .ref x), (2, .ref (ar 0)), (3, .ref (ar 1)), (4, .ref (ar 2)), (5, .ref (ar 3)), (6, .ref (ar 4)), (7, .ref (ar 5)), (8, .ref (ar 6)), (9, .ref (ar 7)), (10, .ref (ar 8)), (11, .ref (ar 9)), (12, .ref (ar 10)), (13, .ref (ar 11)), (14, .ref (ar 12)), (15, .ref (ar 13)), (16, .ref (ar 14)), (17, .ref (ar 15)), (18, vI ((turn : Nat) : Int)), (19, .int zz), (20, vI ((act : Nat) : Int)), (21, vI 1)] 937 [] := by
  have hiz : nq (D.1 20) (D.1 21) := cx_iz C
  obtain ⟨hq, hg, hl0, hu, hv, hn, hw, hp, hr⟩ := hAR
  obtain ⟨⟨hL5, hW5, hq0, hq1⟩, _⟩ := id hPK
  refine x_aload_n C dL_law_937 1 rfl ?_
  refine x_iload C dL_law_938 20 rfl ?_
  refine x_bipush C dL_law_940 22 (by decide) ?_
  refine x_icmp_ge (tgt := 949) C dL_law_942 (by decide) (by omega) (by omega) (fun c1 => ?_) (fun c1 => ?_)
  · skip
    refine x_iconst C dL_law_949 1 (by decide) ?_
    refine x_iload C dL_law_950 19 rfl ?_
    refine x_iconst C dL_law_952 5 (by decide) ?_
    refine x_ishr C dL_law_953 _ rfl ?_
    refine x_aload_n C dL_law_954 2 rfl ?_
    refine x_aload_n C dL_law_955 3 rfl ?_
    refine x_aload C dL_law_956 8 rfl ?_
    refine x_aload C dL_law_958 10 rfl ?_
    refine x_callSc C (n := 7) (As := [.ref x, vI 1, .int (zz >>> ((iI 5) &&& 31)), .ref (ar 0), .ref (ar 1), .ref (ar 6), .ref (ar 8)]) (rest := []) (c_L_runs1 hq hg hl0 hu hv hn hw hp hr (hai) (hSy) (hEX) (hPK) (hSC) (by omega)) kn gL_law_L_runs (by decide +kernel) rfl rfl rfl (Nat.le_of_ble_eq_true rfl) ⟨by decide, by decide⟩ ⟨(by first | omega | (dsimp only; omega)), (by first | omega | (dsimp only; omega))⟩ dL_law_960 (fun rv2 h3 hp4 => ?_)
    obtain ⟨rfl, hWD9⟩ := hp4
    refine x_istore C (ls' := [(0, .ref b), (1, .ref x), (2, .ref (ar 0)), (3, .ref (ar 1)), (4, .ref (ar 2)), (5, .ref (ar 3)), (6, .ref (ar 4)), (7, .ref (ar 5)), (8, .ref (ar 6)), (9, .ref (ar 7)), (10, .ref (ar 8)), (11, .ref (ar 9)), (12, .ref (ar 10)), (13, .ref (ar 11)), (14, .ref (ar 12)), (15, .ref (ar 13)), (16, .ref (ar 14)), (17, .ref (ar 15)), (18, vI ((turn : Nat) : Int)), (19, .int zz), (20, vI ((act : Nat) : Int)), (21, vI 1)]) dL_law_963 (by decide) rfl ?_
    refine x_widen (m1 := n1 + 500) (m2 := n2 + 3000) (by first | omega | (dsimp only; omega)) (by first | omega | (dsimp only; omega)) ?_
    exact K h3 (hWD9.le (by omega))
  · exfalso; omega


theorem kL_search_0 : Cond.constant "LedgeLevelsLaw" 54 (32768) ∈ wsL_search := by decide +kernel
theorem kL_search_1 : Cond.constantLong "LedgeLevelsLaw" 43 (-1) ∈ wsL_search := by decide +kernel
set_option maxRecDepth 100000 in
set_option maxHeartbeats 20000000 in
theorem c_L_search {l : Launch} {D : va_G} {A : Nat → Prop} {h : vh} {gA qA aA bA cA dA eA fA mA : Nat} {g a b c d e f m : Nat → Int64} {q S : Nat → Int} {z o : Int} (hg : h gA = some (eJ D 60 g)) (hq : h qA = some (eI D 5 q)) (ha : h aA = some (eJ D 64 a)) (hb : h bA = some (eJ D 64 b)) (hc : h cA = some (eJ D 64 c)) (hd : h dA = some (eJ D 64 d)) (he : h eA = some (eJ D 64 e)) (hf : h fA = some (eJ D 64 f)) (hm : h mA = some (eJ D 2 m)) (ho : 0 ≤ o ∧ o ≤ 54) (hz : 0 ≤ z ∧ z < 96) (hS : ∀ j : Nat, j < 3 → S j = q (j + 2)) (rS : ∀ j, 0 ≤ S j ∧ S j ≤ 4) (hA : (lyA (gk g o.toNat) 96) ≤ 7) (hf8 : ∀ z, 0 ≤ gk g o.toNat z ∧ gk g o.toNat z ≤ 8) (nab : nq aA bA) (nac : nq aA cA) (nad : nq aA dA) (nae : nq aA eA) (naf : nq aA fA) (nbc : nq bA cA) (nbd : nq bA dA) (nbe : nq bA eA) (nbf : nq bA fA) (ncd : nq cA dA) (nce : nq cA eA) (ncf : nq cA fA) (nde : nq dA eA) (ndf : nq dA fA) (nef : nq eA fA) : MX l D A yL_search wsL_search { frames := 5, cells := 0, slots := 0, locals := 144 } [vI z, vI o, .ref qA, .ref gA, .ref aA, .ref bA, .ref cA, .ref dA, .ref eA, .ref fA, .ref mA] h (SRp D aA bA cA dA eA fA mA h (TTr (gk g o.toNat) (kbr (gk g o.toNat) (fun _ => 0)) (lyA (gk g o.toNat) 96) S) (X0r (gk g o.toNat) (kbr (gk g o.toNat) (fun _ => 0)) z)) := by
  refine MX.of (cc := cL_search) (maxL := 17) (ret := (some .int)) [(0, vI z), (1, vI o), (2, .ref qA), (3, .ref gA), (4, .ref aA), (5, .ref bA), (6, .ref cA), (7, .ref dA), (8, .ref eA), (9, .ref fA), (10, .ref mA)] (by decide +kernel) rfl rfl (Nat.le_of_ble_eq_true rfl) ?_
  intro κ C hkl G
  subst hkl
  have C : CX κ "LedgeLevelsLaw" "search" cL_search wsL_search { frames := 5, cells := 0, slots := 0, locals := 144 } D A 17 := C
  have hiz : nq (D.1 20) (D.1 21) := cx_iz C
  obtain ⟨al, hal⟩ : ∃ al : Nat, al = (lyA (gk g o.toNat) 96) := ⟨_, rfl⟩
  refine x_aload_n C dL_search_0 3 rfl ?_
  refine x_iload_n C dL_search_1 1 rfl ?_
  refine x_bipush C dL_search_2 96 (by decide) ?_
  refine x_callSJ C (n := 3) (As := [.ref gA, vI o, vI 96]) (rest := []) (c_L_keys (b := (96 : Int)) hg (by omega) (by omega)) gL_search_L_keys (by decide +kernel) rfl rfl rfl (Nat.le_of_ble_eq_true rfl) ⟨by decide, by decide⟩ ⟨(by decide), (by decide)⟩ dL_search_4 (fun rv1 h2 hp3 => ?_)
  obtain ⟨rfl, e4⟩ := hp3
  obtain rfl := e4.symm
  refine x_topv (show ((lyA (gk g o.toNat) ((96 : Int)).toNat : Nat) : Int) = ((al : Nat) : Int) from by rw [hal]; rfl) ?_
  refine x_istore C (ls' := [(0, vI z), (1, vI o), (2, .ref qA), (3, .ref gA), (4, .ref aA), (5, .ref bA), (6, .ref cA), (7, .ref dA), (8, .ref eA), (9, .ref fA), (10, .ref mA), (11, vI ((al : Nat) : Int))]) dL_search_7 (by decide) rfl ?_
  refine x_iload_n C dL_search_9 0 rfl ?_
  refine x_iload_n C dL_search_10 1 rfl ?_
  refine x_aload_n C dL_search_11 3 rfl ?_
  refine x_callSJ C (n := 3) (As := [vI z, vI o, .ref gA]) (rest := []) (c_L_start hg (by omega) (by omega) (by omega)) gL_search_L_start (by decide +kernel) rfl rfl rfl (Nat.le_of_ble_eq_true rfl) ⟨by decide, by decide⟩ ⟨(by decide), (by decide)⟩ dL_search_12 (fun rv5 h6 hp7 => ?_)
  obtain ⟨rfl, e8⟩ := hp7
  obtain rfl := e8.symm
  refine x_topi (fun x9 ex10 => ?_)
  have hx1 : x9 = encB (X0r (gk g o.toNat) (kbr (gk g o.toNat) (fun _ => 0)) z) := by rw [ex10, X0_enc hz]
  have hbok := X0r_ok (f := (gk g o.toNat)) (B := (kbr (gk g o.toNat) (fun _ => 0))) (kbr_8 hA) (z := z) (by omega)
  have hx0g := X0_g (f := (gk g o.toNat)) hz
  have hb3 : b123 (X0r (gk g o.toNat) (kbr (gk g o.toNat) (fun _ => 0)) z) := X0r_b
  have hx0z := X0r_1 (f := (gk g o.toNat)) (B := (kbr (gk g o.toNat) (fun _ => 0))) (z := z) (by omega)
  obtain ⟨x0, hxx⟩ : ∃ x0 : B4, x0 = (X0r (gk g o.toNat) (kbr (gk g o.toNat) (fun _ => 0)) z) := ⟨_, rfl⟩
  rw [← hxx] at hx1 hbok hx0g hb3 hx0z
  obtain ⟨t1, t2, t3, t4, t5, t6, t7⟩ := id hbok
  have hx2 : x9 = x0.1 + 128 * (x0.2.1 + 4) + 1024 * ((x0.2.2.1 : Nat) : Int) + stK x0.2.2.2 := hx1
  have hk3 : (x0.2.2.2 = 1 ∧ stK x0.2.2.2 = 0) ∨ (x0.2.2.2 = 2 ∧ stK x0.2.2.2 = 16384) ∨ (x0.2.2.2 = 3 ∧ stK x0.2.2.2 = 32768) := by
    rcases hb3 with q9 | q9 | q9 <;> rw [q9] <;> simp [stK]
  have hcd : cd x0 = 64 * x0.1.toNat + 8 * (x0.2.1 + 4).toNat + x0.2.2.1 := rfl
  have hcl : cd x0 < 6144 := by omega
  have hTT := TTr_ok (f := (gk g o.toNat)) (B := (kbr (gk g o.toNat) (fun _ => 0))) (al := (lyA (gk g o.toNat) 96)) (S := S) (kbr_8 hA) rS
  refine x_istore C (ls' := [(0, vI z), (1, vI o), (2, .ref qA), (3, .ref gA), (4, .ref aA), (5, .ref bA), (6, .ref cA), (7, .ref dA), (8, .ref eA), (9, .ref fA), (10, .ref mA), (11, vI ((al : Nat) : Int)), (12, vI x9)]) dL_search_15 (by decide) rfl ?_
  refine x_iconst C dL_search_17 0 (by decide) ?_
  refine x_istore C (ls' := [(0, vI z), (1, vI o), (2, .ref qA), (3, .ref gA), (4, .ref aA), (5, .ref bA), (6, .ref cA), (7, .ref dA), (8, .ref eA), (9, .ref fA), (10, .ref mA), (11, vI ((al : Nat) : Int)), (12, vI x9), (13, vI 0)]) dL_search_18 (by decide) rfl ?_
  have ZL : ∀ (N : Nat) (k : Nat) (bd : Int) (h11 : vh)  (zg : h11 gA = some (eJ D 60 g)) (zq : h11 qA = some (eI D 5 q)) (za : h11 aA = some (eJ D 64 (upN (fun _ => (0 : Int64)) a k))) (zb : h11 bA = some (eJ D 64 (upN (fun _ => (0 : Int64)) b k))) (zc : h11 cA = some (eJ D 64 c)) (zd : h11 dA = some (eJ D 64 d)) (ze : h11 eA = some (eJ D 64 (upN (fun _ => (0 : Int64)) e k))) (zf : h11 fA = some (eJ D 64 (upN (fun _ => (0 : Int64)) f k))) (zm : h11 mA = some (eJ D 2 m)) (hk : k ≤ 64) (hN : 64 - k < N) (hbd : bd = x0.1 + 128 * (x0.2.1 + 4) + 1024 * ((x0.2.2.1 : Nat) : Int) + stK x0.2.2.2) (hfr : ∀ b9, b9 ≠ aA → b9 ≠ bA → b9 ≠ cA → b9 ≠ dA → b9 ≠ eA → b9 ≠ fA → b9 ≠ mA → h11 b9 = h b9), X κ 0 0 h11 [(0, vI z), (1, vI o), (2, .ref qA), (3, .ref gA), (4, .ref aA), (5, .ref bA), (6, .ref cA), (7, .ref dA), (8, .ref eA), (9, .ref fA), (10, .ref mA), (11, vI ((al : Nat) : Int)), (12, vI bd), (13, vI ((k : Nat) : Int))] 20 [] := by
    intro N
    induction N with
    | zero => intro k bd h11 zg zq za zb zc zd ze zf zm hk hN hbd hfr; exfalso; omega
    | succ N ihZL =>
      intro k bd h11 zg zq za zb zc zd ze zf zm hk hN hbd hfr
      refine x_iload C dL_search_20 13 rfl ?_
      refine x_bipush C dL_search_22 64 (by decide) ?_
      refine x_icmp_ge (tgt := 57) C dL_search_24 (by decide) (by omega) (by omega) (fun c12 => ?_) (fun c12 => ?_)
      · skip
        refine x_aload C dL_search_57 10 rfl ?_
        refine x_iconst C dL_search_59 0 (by decide) ?_
        refine x_lconst C (v := 0) dL_search_60 rfl ?_
        refine x_last C zm ⟨by omega, by omega⟩ (by decide) dL_search_61 (x_hn (fun h13 e14 => ?_))
        have f15 : h13 mA = some (eJ D 2 (vp_updL m (Int.toNat 0) 0)) := by rw [e14]; exact hu_s
        refine x_aload C dL_search_62 10 rfl ?_
        refine x_iconst C dL_search_64 1 (by decide) ?_
        refine x_lconst C (v := 0) dL_search_65 rfl ?_
        refine x_last C f15 ⟨by omega, by omega⟩ (by decide) dL_search_66 (x_hn (fun h16 e17 => ?_))
        have f18 : h16 mA = some (eJ D 2 (vp_updL (vp_updL m (Int.toNat 0) 0) (Int.toNat 1) 0)) := by rw [e17]; exact hu_s
        refine x_iload C dL_search_67 12 rfl ?_
        refine x_ldcI C (z := 32768) (by decide) kL_search_0 dL_search_69 ?_
        refine x_icmp_lt (tgt := 76) C dL_search_71 (by decide) (by omega) (by omega) (fun c19 => ?_) (fun c19 => ?_)
        · skip
          refine x_aload C dL_search_76 10 rfl ?_
          refine x_iload_n C dL_search_78 0 rfl ?_
          refine x_bipush C dL_search_79 48 (by decide) ?_
          refine x_idiv C dL_search_81 (by omega) (by omega) (by omega) (by omega) ?_
          refine x_topv (show z / 48 = ((z.toNat / 48 : Nat) : Int) from by omega) ?_
          refine x_lconst C (v := 1) dL_search_82 rfl ?_
          refine x_iload_n C dL_search_83 0 rfl ?_
          refine x_bipush C dL_search_84 48 (by decide) ?_
          refine x_irem C dL_search_86 (by omega) (by omega) (by omega) (by omega) ?_
          refine x_topv (show z % 48 = ((z.toNat % 48 : Nat) : Int) from by omega) ?_
          refine x_lshl C dL_search_87 ?_
          refine x_last C f18 ⟨by omega, by omega⟩ (by decide) dL_search_88 (x_hn (fun h20 e21 => ?_))
          have f22 : h20 mA = some (eJ D 2 (vp_updL (vp_updL (vp_updL m (Int.toNat 0) 0) (Int.toNat 1) 0) (Int.toNat (((z.toNat / 48 : Nat) : Int))) (lsl 1 (((z.toNat % 48 : Nat) : Int))))) := by rw [e21]; exact hu_s
          refine x_iload C dL_search_89 12 rfl ?_
          refine x_sipush C dL_search_91 16384 (by decide) ?_
          refine x_icmp_lt (tgt := 99) C dL_search_94 (by decide) (by omega) (by omega) (fun c23 => ?_) (fun c23 => ?_)
          · skip
            refine x_iload C dL_search_99 12 rfl ?_
            refine x_aload C dL_search_101 8 rfl ?_
            refine x_aload C dL_search_103 9 rfl ?_
            have n25 : nq eA mA := vnt ze zm (p := (1, 64)) (q := (1, 2)) rfl rfl (by decide)
            have f24 : h13 eA = some (eJ D 64 (upN (fun _ => (0 : Int64)) e k)) := by rw [e14, hu_n n25]; exact ze
            have f26 : h16 eA = some (eJ D 64 (upN (fun _ => (0 : Int64)) e k)) := by rw [e17, hu_n n25]; exact f24
            have f27 : h20 eA = some (eJ D 64 (upN (fun _ => (0 : Int64)) e k)) := by rw [e21, hu_n n25]; exact f26
            have n29 : nq fA mA := vnt zf zm (p := (1, 64)) (q := (1, 2)) rfl rfl (by decide)
            have f28 : h13 fA = some (eJ D 64 (upN (fun _ => (0 : Int64)) f k)) := by rw [e14, hu_n n29]; exact zf
            have f30 : h16 fA = some (eJ D 64 (upN (fun _ => (0 : Int64)) f k)) := by rw [e17, hu_n n29]; exact f28
            have f31 : h20 fA = some (eJ D 64 (upN (fun _ => (0 : Int64)) f k)) := by rw [e21, hu_n n29]; exact f30
            refine x_callSJ C (n := 3) (As := [vI bd, .ref eA, .ref fA]) (rest := []) (c_L_marks (n := (cd x0)) f27 f31 (by omega) (by omega) (by assumption)) gL_search_L_marks (by decide +kernel) rfl rfl rfl (Nat.le_of_ble_eq_true rfl) ⟨by decide, by decide⟩ ⟨(by decide), (by decide)⟩ dL_search_105 (fun rv32 h33 hp34 => ?_)
            obtain ⟨rfl, e35⟩ := hp34
            have f36 : h33 fA = some (eJ D 64 (mkH (upN (fun _ => (0 : Int64)) f k) ((cd x0)))) := by rw [e35]; exact hu_s
            have f37 : h33 eA = some (eJ D 64 (mkL (upN (fun _ => (0 : Int64)) e k) ((cd x0)))) := by rw [e35, hu_n nef]; exact hu_s
            refine x_iconst C dL_search_108 (-1) (by decide) ?_
            refine x_istore C (ls' := [(0, vI z), (1, vI o), (2, .ref qA), (3, .ref gA), (4, .ref aA), (5, .ref bA), (6, .ref cA), (7, .ref dA), (8, .ref eA), (9, .ref fA), (10, .ref mA), (11, vI ((al : Nat) : Int)), (12, vI bd), (13, vI (-1))]) dL_search_109 (by decide) rfl ?_
            refine x_iconst C dL_search_111 1 (by decide) ?_
            refine x_istore C (ls' := [(0, vI z), (1, vI o), (2, .ref qA), (3, .ref gA), (4, .ref aA), (5, .ref bA), (6, .ref cA), (7, .ref dA), (8, .ref eA), (9, .ref fA), (10, .ref mA), (11, vI ((al : Nat) : Int)), (12, vI bd), (13, vI (-1)), (14, vI 1)]) dL_search_112 (by decide) rfl ?_
            refine x_iconst C dL_search_114 1 (by decide) ?_
            refine x_istore C (ls' := [(0, vI z), (1, vI o), (2, .ref qA), (3, .ref gA), (4, .ref aA), (5, .ref bA), (6, .ref cA), (7, .ref dA), (8, .ref eA), (9, .ref fA), (10, .ref mA), (11, vI ((al : Nat) : Int)), (12, vI bd), (13, vI (-1)), (14, vI 1), (15, vI 1)]) dL_search_115 (by decide) rfl ?_
            have ML : ∀ (N : Nat) (s : Nat) (w gs st : Int) (a1 b1 c1 d1 e1 f1 m1 : Nat → Int64) (h38 : vh)  (ug : h38 gA = some (eJ D 60 g)) (uq : h38 qA = some (eI D 5 q)) (ua : h38 aA = some (eJ D 64 a1)) (ub : h38 bA = some (eJ D 64 b1)) (uc : h38 cA = some (eJ D 64 c1)) (ud : h38 dA = some (eJ D 64 d1)) (ue : h38 eA = some (eJ D 64 e1)) (uf : h38 fA = some (eJ D 64 f1)) (um : h38 mA = some (eJ D 2 m1)) (hst : st = ((s + 1 : Nat) : Int) ∧ s ≤ 6145) (hBS : BS (TTr (gk g o.toNat) (kbr (gk g o.toNat) (fun _ => 0)) (lyA (gk g o.toNat) 96) S) x0 a1 b1 e1 f1 m1 s w) (hgs : (gs = 0 ∧ 0 < N ∧ ∀ n, n < 6144 → ¬ Mk e1 f1 n) ∨ (gs = 1 ∧ s ≤ cntM (Mk a1 b1) 6144 ∧ 6144 - cntM (Mk a1 b1) 6144 + 1 < N)) (hfr : ∀ b9, b9 ≠ aA → b9 ≠ bA → b9 ≠ cA → b9 ≠ dA → b9 ≠ eA → b9 ≠ fA → b9 ≠ mA → h38 b9 = h b9), X κ 0 0 h38 [(0, vI z), (1, vI o), (2, .ref qA), (3, .ref gA), (4, .ref aA), (5, .ref bA), (6, .ref cA), (7, .ref dA), (8, .ref eA), (9, .ref fA), (10, .ref mA), (11, vI ((al : Nat) : Int)), (13, vI w), (14, vI gs), (15, vI st)] 117 [] := by
              intro N
              induction N with
              | zero => intro s w gs st a1 b1 c1 d1 e1 f1 m1 h38 ug uq ua ub uc ud ue uf um hst hBS hgs hfr; exfalso; omega
              | succ N ihML =>
                intro s w gs st a1 b1 c1 d1 e1 f1 m1 h38 ug uq ua ub uc ud ue uf um hst hBS hgs hfr
                have hcm := cntM_le (Mk a1 b1) 6144
                have hrw := hBS.r
                refine x_iload C dL_search_117 13 rfl ?_
                refine x_if_eq (tgt := 296) C dL_search_119 (by decide) (by omega) (fun c39 => ?_) (fun c39 => ?_)
                · skip
                  refine x_iload C dL_search_296 12 rfl ?_
                  refine x_iret C G dL_search_298 ?_ (by decide) (by decide)
                  have hs3 : x0.2.2.2 = 1 := by omega
                  have hgs0 : gs = 0 := by omega
                  have hno9 : ∀ n, n < 6144 → ¬ Mk e1 f1 n := hgs.elim (fun q9 => q9.2.2) (fun q9 => absurd (q9.1.symm.trans hgs0) (by decide))
                  have hF9 := hBS.fin hTT hbok hs3 hno9
                  have hr9 := hBS.r
                  rw [hxx] at hF9
                  exact ⟨_, _, _, _, _, _, _, _, rfl, ⟨ua, ub, uc, ud, ue, uf, um⟩, fun b9 y1 y2 y3 y4 y5 y6 y7 => by first | exact hfr b9 y1 y2 y3 y4 y5 y6 y7 | (rw []; simp only [hu_n y1, hu_n y2, hu_n y3, hu_n y4, hu_n y5, hu_n y6, hu_n y7]; exact hfr b9 y1 y2 y3 y4 y5 y6 y7), by omega, hF9.1, hF9.2⟩
                · skip
                  refine x_iconst C dL_search_122 0 (by decide) ?_
                  refine x_istore C (ls' := [(0, vI z), (1, vI o), (2, .ref qA), (3, .ref gA), (4, .ref aA), (5, .ref bA), (6, .ref cA), (7, .ref dA), (8, .ref eA), (9, .ref fA), (10, .ref mA), (11, vI ((al : Nat) : Int)), (13, vI w), (14, vI 0), (15, vI st)]) dL_search_123 (by decide) rfl ?_
                  refine x_iconst C dL_search_125 0 (by decide) ?_
                  refine x_istore C (ls' := [(0, vI z), (1, vI o), (2, .ref qA), (3, .ref gA), (4, .ref aA), (5, .ref bA), (6, .ref cA), (7, .ref dA), (8, .ref eA), (9, .ref fA), (10, .ref mA), (11, vI ((al : Nat) : Int)), (13, vI w), (14, vI 0), (15, vI st), (16, vI 0)]) dL_search_126 (by decide) rfl ?_
                  have RL : ∀ (N2 : Nat) (k : Nat) (g2 : Int) (h40 : vh)  (rg : h40 gA = some (eJ D 60 g)) (rq : h40 qA = some (eI D 5 q)) (ra : h40 aA = some (eJ D 64 (upN (fun j => a1 j ||| e1 j) a1 k))) (rb : h40 bA = some (eJ D 64 (upN (fun j => b1 j ||| f1 j) b1 k))) (rc : h40 cA = some (eJ D 64 (upN (fun j => e1 j &&& (a1 j ^^^ (-1))) c1 k))) (rd : h40 dA = some (eJ D 64 (upN (fun j => f1 j &&& (b1 j ^^^ (-1))) d1 k))) (re : h40 eA = some (eJ D 64 (upN (fun _ => (0 : Int64)) e1 k))) (rf : h40 fA = some (eJ D 64 (upN (fun _ => (0 : Int64)) f1 k))) (rm : h40 mA = some (eJ D 2 m1)) (hk : k ≤ 64) (hN2 : 64 - k < N2) (hg2 : (g2 = 0 ∨ g2 = 1) ∧ (g2 = 1 ↔ ∃ j, j < k ∧ (e1 j &&& (a1 j ^^^ (-1)) ≠ 0 ∨ f1 j &&& (b1 j ^^^ (-1)) ≠ 0))) (hfr : ∀ b9, b9 ≠ aA → b9 ≠ bA → b9 ≠ cA → b9 ≠ dA → b9 ≠ eA → b9 ≠ fA → b9 ≠ mA → h40 b9 = h b9), X κ 0 0 h40 [(0, vI z), (1, vI o), (2, .ref qA), (3, .ref gA), (4, .ref aA), (5, .ref bA), (6, .ref cA), (7, .ref dA), (8, .ref eA), (9, .ref fA), (10, .ref mA), (11, vI ((al : Nat) : Int)), (13, vI w), (14, vI g2), (15, vI st), (16, vI ((k : Nat) : Int))] 128 [] := by
                    intro N2
                    induction N2 with
                    | zero => intro k g2 h40 rg rq ra rb rc rd re rf rm hk hN2 hg2 hfr; exfalso; omega
                    | succ N2 ihRL =>
                      intro k g2 h40 rg rq ra rb rc rd re rf rm hk hN2 hg2 hfr
                      refine x_iload C dL_search_128 15 rfl ?_
                      refine x_bipush C dL_search_130 64 (by decide) ?_
                      refine x_icmp_ge (tgt := 251) C dL_search_132 (by decide) (by omega) (by omega) (fun c41 => ?_) (fun c41 => ?_)
                      · skip
                        have f42 : h40 aA = some (eJ D 64 (upN (fun j => a1 j ||| e1 j) a1 64)) := by have q9 := ra; rw [show k = 64 by omega] at q9; exact q9
                        have f43 : h40 bA = some (eJ D 64 (upN (fun j => b1 j ||| f1 j) b1 64)) := by have q9 := rb; rw [show k = 64 by omega] at q9; exact q9
                        have f44 : h40 cA = some (eJ D 64 (upN (fun j => e1 j &&& (a1 j ^^^ (-1))) c1 64)) := by have q9 := rc; rw [show k = 64 by omega] at q9; exact q9
                        have f45 : h40 dA = some (eJ D 64 (upN (fun j => f1 j &&& (b1 j ^^^ (-1))) d1 64)) := by have q9 := rd; rw [show k = 64 by omega] at q9; exact q9
                        have f46 : h40 eA = some (eJ D 64 (upN (fun _ => (0 : Int64)) e1 64)) := by have q9 := re; rw [show k = 64 by omega] at q9; exact q9
                        have f47 : h40 fA = some (eJ D 64 (upN (fun _ => (0 : Int64)) f1 64)) := by have q9 := rf; rw [show k = 64 by omega] at q9; exact q9
                        have hk64 : k = 64 := by omega
                        have hgg : (g2 = 0 ∧ ∀ n, n < 6144 → ¬ (Mk e1 f1 n ∧ ¬ Mk a1 b1 n)) ∨ (g2 = 1 ∧ ∃ n, n < 6144 ∧ Mk e1 f1 n ∧ ¬ Mk a1 b1 n) := by rw [hk64] at hg2; exact g2_fin hBS.2.2.2.2.2 hg2
                        have hAA : ∀ n, n < 6144 → (Mk (upN (fun j => a1 j ||| e1 j) a1 64) (upN (fun j => b1 j ||| f1 j) b1 64) n ↔ Mk a1 b1 n ∨ Mk e1 f1 n) := fun n hn => Mk_up.trans Mk_un
                        have hcn : g2 = 1 → cntM (Mk a1 b1) 6144 + 1 ≤ cntM (Mk (upN (fun j => a1 j ||| e1 j) a1 64) (upN (fun j => b1 j ||| f1 j) b1 64)) 6144 := fun q9 => cnt_step hAA (hgg.elim (fun y9 => absurd (y9.1.symm.trans q9) (by decide)) (fun y9 => y9.2))
                        have hcm2 := cntM_le (Mk (upN (fun j => a1 j ||| e1 j) a1 64) (upN (fun j => b1 j ||| f1 j) b1 64)) 6144
                        refine x_iload C dL_search_251 11 rfl ?_
                        refine x_iload_n C dL_search_253 1 rfl ?_
                        refine x_aload_n C dL_search_254 2 rfl ?_
                        refine x_aload_n C dL_search_255 3 rfl ?_
                        refine x_aload C dL_search_256 6 rfl ?_
                        refine x_aload C dL_search_258 7 rfl ?_
                        refine x_aload C dL_search_260 8 rfl ?_
                        refine x_aload C dL_search_262 9 rfl ?_
                        refine x_aload C dL_search_264 10 rfl ?_
                        refine x_callSJ C (n := 9) (As := [vI ((al : Nat) : Int), vI o, .ref qA, .ref gA, .ref cA, .ref dA, .ref eA, .ref fA, .ref mA]) (rest := []) (c_L_spreads (S := S) rg rq f44 f45 f46 f47 rm (hal) (by omega) (by assumption) (by assumption) (by assumption) (by assumption) (by assumption) (by assumption) (by assumption) (by assumption) (by assumption) (fun n hn hM => Rch_g hA rS hbok hx0g (hBS.2.1 n hn ((Mk_dif hn).mp (Mk_up.mp hM)).1))) gL_search_L_spreads (by decide +kernel) rfl rfl rfl (Nat.le_of_ble_eq_true rfl) ⟨by decide, by decide⟩ ⟨(by decide), (by decide)⟩ dL_search_266 (fun rv48 h49 hp50 => ?_)
                        obtain ⟨e_52, f_53, m_54, w_55, rfl, e51, hI_266⟩ := hp50
                        have f56 : h49 mA = some (eJ D 2 m_54) := by rw [e51]; exact hu_s
                        have f57 : h49 fA = some (eJ D 64 f_53) := by rw [e51, hu_n n29]; exact hu_s
                        have f58 : h49 eA = some (eJ D 64 e_52) := by rw [e51, hu_n n25, hu_n nef]; exact hu_s
                        rw [hal] at hI_266
                        have hw01 := hI_266.2.2.1
                        have hBN := BS.next (c := upN (fun j => e1 j &&& (a1 j ^^^ (-1))) c1 64) (d := upN (fun j => f1 j &&& (b1 j ^^^ (-1))) d1 64) (a1 := upN (fun j => a1 j ||| e1 j) a1 64) (b1 := upN (fun j => b1 j ||| f1 j) b1 64) hTT hbok hBS (fun n hn => Mk_up.trans (Mk_dif hn)) hAA (fun n hn q9 => Mk_0 (Mk_up.mp q9)) (Cl_up Cl_0) hI_266 rfl
                        have hnoE : g2 = 0 → ∀ n, n < 6144 → ¬ Mk e_52 f_53 n := fun q9 n hn hM => by
                          rcases (hI_266.fin.1 n hn).mp hM with y9 | ⟨p9, i9, l1, l2, l3, l4, l5⟩
                          · exact Mk_0 (Mk_up.mp y9)
                          · exact hgg.elim (fun y9 => y9.2 p9 l1 ((Mk_dif l1).mp (Mk_up.mp l3))) (fun y9 => absurd (y9.1.symm.trans q9) (by decide))
                        refine x_istore C (ls' := [(0, vI z), (1, vI o), (2, .ref qA), (3, .ref gA), (4, .ref aA), (5, .ref bA), (6, .ref cA), (7, .ref dA), (8, .ref eA), (9, .ref fA), (10, .ref mA), (11, vI ((al : Nat) : Int)), (13, vI w), (14, vI g2), (15, vI st), (16, vI w_55)]) dL_search_269 (by decide) rfl ?_
                        refine x_iload C dL_search_271 15 rfl ?_
                        refine x_if_eq (tgt := 286) C dL_search_273 (by decide) (by omega) (fun c59 => ?_) (fun c59 => ?_)
                        · skip
                          refine x_iload C dL_search_286 12 rfl ?_
                          refine x_istore C (ls' := [(0, vI z), (1, vI o), (2, .ref qA), (3, .ref gA), (4, .ref aA), (5, .ref bA), (6, .ref cA), (7, .ref dA), (8, .ref eA), (9, .ref fA), (10, .ref mA), (11, vI ((al : Nat) : Int)), (13, vI w), (14, vI g2), (15, vI st), (16, vI w_55)]) dL_search_288 (by decide) rfl ?_
                          refine x_iinc C (x := st) (ls' := [(0, vI z), (1, vI o), (2, .ref qA), (3, .ref gA), (4, .ref aA), (5, .ref bA), (6, .ref cA), (7, .ref dA), (8, .ref eA), (9, .ref fA), (10, .ref mA), (11, vI ((al : Nat) : Int)), (13, vI w), (14, vI g2), (15, vI (st + 1)), (16, vI w_55)]) dL_search_290 14 rfl (by decide) rfl ?_
                          refine x_goto (tgt := 117) C dL_search_293 (by decide) ?_
                          refine x_sub [0, 1, 2, 3, 4, 5, 6, 7, 8, 9, 10, 11, 12, 13, 14] (ls' := [(0, vI z), (1, vI o), (2, .ref qA), (3, .ref gA), (4, .ref aA), (5, .ref bA), (6, .ref cA), (7, .ref dA), (8, .ref eA), (9, .ref fA), (10, .ref mA), (11, vI ((al : Nat) : Int)), (13, vI w), (14, vI g2), (15, vI (st + 1))]) rfl ?_
                          have n61 : nq gA mA := vnt rg rm (p := (1, 60)) (q := (1, 2)) rfl rfl (by decide)
                          have n62 : nq gA fA := vnt rg f47 (p := (1, 60)) (q := (1, 64)) rfl rfl (by decide)
                          have n63 : nq gA eA := vnt rg f46 (p := (1, 60)) (q := (1, 64)) rfl rfl (by decide)
                          have f60 : h49 gA = some (eJ D 60 g) := by rw [e51, hu_n n61, hu_n n62, hu_n n63]; exact rg
                          have n65 : nq qA mA := vnt rq rm (p := (0, 5)) (q := (1, 2)) rfl rfl (by decide)
                          have n66 : nq qA fA := vnt rq f47 (p := (0, 5)) (q := (1, 64)) rfl rfl (by decide)
                          have n67 : nq qA eA := vnt rq f46 (p := (0, 5)) (q := (1, 64)) rfl rfl (by decide)
                          have f64 : h49 qA = some (eI D 5 q) := by rw [e51, hu_n n65, hu_n n66, hu_n n67]; exact rq
                          have n69 : nq aA mA := vnt f42 rm (p := (1, 64)) (q := (1, 2)) rfl rfl (by decide)
                          have f68 : h49 aA = some (eJ D 64 (upN (fun j => a1 j ||| e1 j) a1 64)) := by rw [e51, hu_n n69, hu_n naf, hu_n nae]; exact f42
                          have n71 : nq bA mA := vnt f43 rm (p := (1, 64)) (q := (1, 2)) rfl rfl (by decide)
                          have f70 : h49 bA = some (eJ D 64 (upN (fun j => b1 j ||| f1 j) b1 64)) := by rw [e51, hu_n n71, hu_n nbf, hu_n nbe]; exact f43
                          have n73 : nq cA mA := vnt f44 rm (p := (1, 64)) (q := (1, 2)) rfl rfl (by decide)
                          have f72 : h49 cA = some (eJ D 64 (upN (fun j => e1 j &&& (a1 j ^^^ (-1))) c1 64)) := by rw [e51, hu_n n73, hu_n ncf, hu_n nce]; exact f44
                          have n75 : nq dA mA := vnt f45 rm (p := (1, 64)) (q := (1, 2)) rfl rfl (by decide)
                          have f74 : h49 dA = some (eJ D 64 (upN (fun j => f1 j &&& (b1 j ^^^ (-1))) d1 64)) := by rw [e51, hu_n n75, hu_n ndf, hu_n nde]; exact f45
                          exact ihML ((s + 1)) w g2 (st + 1) (upN (fun j => a1 j ||| e1 j) a1 64) (upN (fun j => b1 j ||| f1 j) b1 64) (upN (fun j => e1 j &&& (a1 j ^^^ (-1))) c1 64) (upN (fun j => f1 j &&& (b1 j ^^^ (-1))) d1 64) e_52 f_53 m_54 h49 f60 f64 f68 f70 f72 f74 f58 f57 f56 (⟨by clear hg2 hgg hnoE; omega, by clear hg2 hgg hnoE; omega⟩) (by have q9 := hBN; first | (rw [if_pos ⟨by clear hg2 hgg hnoE; omega, by clear hg2 hgg hnoE; omega⟩] at q9; rw [show st = ((s + 1 : Nat) : Int) by clear hg2 hgg hnoE; omega]; exact q9) | (rw [if_neg (fun y9 => by clear hg2 hgg hnoE; omega)] at q9; exact q9)) (by rcases hgg with y9 | y9; exact Or.inl ⟨y9.1, by clear hg2 y9 hnoE; omega, hnoE y9.1⟩; exact Or.inr ⟨y9.1, by have q8 := hcn y9.1; clear hg2 y9 hnoE; omega, by have q8 := hcn y9.1; clear hg2 y9 hnoE; omega⟩) (fun b9 y1 y2 y3 y4 y5 y6 y7 => by first | exact hfr b9 y1 y2 y3 y4 y5 y6 y7 | (rw [e51]; simp only [hu_n y1, hu_n y2, hu_n y3, hu_n y4, hu_n y5, hu_n y6, hu_n y7]; exact hfr b9 y1 y2 y3 y4 y5 y6 y7))
                        · skip
                          refine x_iload C dL_search_276 12 rfl ?_
                          refine x_if_ge (tgt := 286) C dL_search_278 (by decide) (by omega) (fun c76 => ?_) (fun c76 => ?_)
                          · skip
                            refine x_iload C dL_search_286 12 rfl ?_
                            refine x_istore C (ls' := [(0, vI z), (1, vI o), (2, .ref qA), (3, .ref gA), (4, .ref aA), (5, .ref bA), (6, .ref cA), (7, .ref dA), (8, .ref eA), (9, .ref fA), (10, .ref mA), (11, vI ((al : Nat) : Int)), (13, vI w), (14, vI g2), (15, vI st), (16, vI w_55)]) dL_search_288 (by decide) rfl ?_
                            refine x_iinc C (x := st) (ls' := [(0, vI z), (1, vI o), (2, .ref qA), (3, .ref gA), (4, .ref aA), (5, .ref bA), (6, .ref cA), (7, .ref dA), (8, .ref eA), (9, .ref fA), (10, .ref mA), (11, vI ((al : Nat) : Int)), (13, vI w), (14, vI g2), (15, vI (st + 1)), (16, vI w_55)]) dL_search_290 14 rfl (by decide) rfl ?_
                            refine x_goto (tgt := 117) C dL_search_293 (by decide) ?_
                            refine x_sub [0, 1, 2, 3, 4, 5, 6, 7, 8, 9, 10, 11, 12, 13, 14] (ls' := [(0, vI z), (1, vI o), (2, .ref qA), (3, .ref gA), (4, .ref aA), (5, .ref bA), (6, .ref cA), (7, .ref dA), (8, .ref eA), (9, .ref fA), (10, .ref mA), (11, vI ((al : Nat) : Int)), (13, vI w), (14, vI g2), (15, vI (st + 1))]) rfl ?_
                            have n78 : nq gA mA := vnt rg rm (p := (1, 60)) (q := (1, 2)) rfl rfl (by decide)
                            have n79 : nq gA fA := vnt rg f47 (p := (1, 60)) (q := (1, 64)) rfl rfl (by decide)
                            have n80 : nq gA eA := vnt rg f46 (p := (1, 60)) (q := (1, 64)) rfl rfl (by decide)
                            have f77 : h49 gA = some (eJ D 60 g) := by rw [e51, hu_n n78, hu_n n79, hu_n n80]; exact rg
                            have n82 : nq qA mA := vnt rq rm (p := (0, 5)) (q := (1, 2)) rfl rfl (by decide)
                            have n83 : nq qA fA := vnt rq f47 (p := (0, 5)) (q := (1, 64)) rfl rfl (by decide)
                            have n84 : nq qA eA := vnt rq f46 (p := (0, 5)) (q := (1, 64)) rfl rfl (by decide)
                            have f81 : h49 qA = some (eI D 5 q) := by rw [e51, hu_n n82, hu_n n83, hu_n n84]; exact rq
                            have n86 : nq aA mA := vnt f42 rm (p := (1, 64)) (q := (1, 2)) rfl rfl (by decide)
                            have f85 : h49 aA = some (eJ D 64 (upN (fun j => a1 j ||| e1 j) a1 64)) := by rw [e51, hu_n n86, hu_n naf, hu_n nae]; exact f42
                            have n88 : nq bA mA := vnt f43 rm (p := (1, 64)) (q := (1, 2)) rfl rfl (by decide)
                            have f87 : h49 bA = some (eJ D 64 (upN (fun j => b1 j ||| f1 j) b1 64)) := by rw [e51, hu_n n88, hu_n nbf, hu_n nbe]; exact f43
                            have n90 : nq cA mA := vnt f44 rm (p := (1, 64)) (q := (1, 2)) rfl rfl (by decide)
                            have f89 : h49 cA = some (eJ D 64 (upN (fun j => e1 j &&& (a1 j ^^^ (-1))) c1 64)) := by rw [e51, hu_n n90, hu_n ncf, hu_n nce]; exact f44
                            have n92 : nq dA mA := vnt f45 rm (p := (1, 64)) (q := (1, 2)) rfl rfl (by decide)
                            have f91 : h49 dA = some (eJ D 64 (upN (fun j => f1 j &&& (b1 j ^^^ (-1))) d1 64)) := by rw [e51, hu_n n92, hu_n ndf, hu_n nde]; exact f45
                            exact ihML ((s + 1)) w g2 (st + 1) (upN (fun j => a1 j ||| e1 j) a1 64) (upN (fun j => b1 j ||| f1 j) b1 64) (upN (fun j => e1 j &&& (a1 j ^^^ (-1))) c1 64) (upN (fun j => f1 j &&& (b1 j ^^^ (-1))) d1 64) e_52 f_53 m_54 h49 f77 f81 f85 f87 f89 f91 f58 f57 f56 (⟨by clear hg2 hgg hnoE; omega, by clear hg2 hgg hnoE; omega⟩) (by have q9 := hBN; first | (rw [if_pos ⟨by clear hg2 hgg hnoE; omega, by clear hg2 hgg hnoE; omega⟩] at q9; rw [show st = ((s + 1 : Nat) : Int) by clear hg2 hgg hnoE; omega]; exact q9) | (rw [if_neg (fun y9 => by clear hg2 hgg hnoE; omega)] at q9; exact q9)) (by rcases hgg with y9 | y9; exact Or.inl ⟨y9.1, by clear hg2 y9 hnoE; omega, hnoE y9.1⟩; exact Or.inr ⟨y9.1, by have q8 := hcn y9.1; clear hg2 y9 hnoE; omega, by have q8 := hcn y9.1; clear hg2 y9 hnoE; omega⟩) (fun b9 y1 y2 y3 y4 y5 y6 y7 => by first | exact hfr b9 y1 y2 y3 y4 y5 y6 y7 | (rw [e51]; simp only [hu_n y1, hu_n y2, hu_n y3, hu_n y4, hu_n y5, hu_n y6, hu_n y7]; exact hfr b9 y1 y2 y3 y4 y5 y6 y7))
                          · skip
                            refine x_iload C dL_search_281 14 rfl ?_
                            refine x_goto (tgt := 288) C dL_search_283 (by decide) ?_
                            refine x_istore C (ls' := [(0, vI z), (1, vI o), (2, .ref qA), (3, .ref gA), (4, .ref aA), (5, .ref bA), (6, .ref cA), (7, .ref dA), (8, .ref eA), (9, .ref fA), (10, .ref mA), (11, vI ((al : Nat) : Int)), (13, vI st), (14, vI g2), (15, vI st), (16, vI w_55)]) dL_search_288 (by decide) rfl ?_
                            refine x_iinc C (x := st) (ls' := [(0, vI z), (1, vI o), (2, .ref qA), (3, .ref gA), (4, .ref aA), (5, .ref bA), (6, .ref cA), (7, .ref dA), (8, .ref eA), (9, .ref fA), (10, .ref mA), (11, vI ((al : Nat) : Int)), (13, vI st), (14, vI g2), (15, vI (st + 1)), (16, vI w_55)]) dL_search_290 14 rfl (by decide) rfl ?_
                            refine x_goto (tgt := 117) C dL_search_293 (by decide) ?_
                            refine x_sub [0, 1, 2, 3, 4, 5, 6, 7, 8, 9, 10, 11, 12, 13, 14] (ls' := [(0, vI z), (1, vI o), (2, .ref qA), (3, .ref gA), (4, .ref aA), (5, .ref bA), (6, .ref cA), (7, .ref dA), (8, .ref eA), (9, .ref fA), (10, .ref mA), (11, vI ((al : Nat) : Int)), (13, vI st), (14, vI g2), (15, vI (st + 1))]) rfl ?_
                            have n94 : nq gA mA := vnt rg rm (p := (1, 60)) (q := (1, 2)) rfl rfl (by decide)
                            have n95 : nq gA fA := vnt rg f47 (p := (1, 60)) (q := (1, 64)) rfl rfl (by decide)
                            have n96 : nq gA eA := vnt rg f46 (p := (1, 60)) (q := (1, 64)) rfl rfl (by decide)
                            have f93 : h49 gA = some (eJ D 60 g) := by rw [e51, hu_n n94, hu_n n95, hu_n n96]; exact rg
                            have n98 : nq qA mA := vnt rq rm (p := (0, 5)) (q := (1, 2)) rfl rfl (by decide)
                            have n99 : nq qA fA := vnt rq f47 (p := (0, 5)) (q := (1, 64)) rfl rfl (by decide)
                            have n100 : nq qA eA := vnt rq f46 (p := (0, 5)) (q := (1, 64)) rfl rfl (by decide)
                            have f97 : h49 qA = some (eI D 5 q) := by rw [e51, hu_n n98, hu_n n99, hu_n n100]; exact rq
                            have n102 : nq aA mA := vnt f42 rm (p := (1, 64)) (q := (1, 2)) rfl rfl (by decide)
                            have f101 : h49 aA = some (eJ D 64 (upN (fun j => a1 j ||| e1 j) a1 64)) := by rw [e51, hu_n n102, hu_n naf, hu_n nae]; exact f42
                            have n104 : nq bA mA := vnt f43 rm (p := (1, 64)) (q := (1, 2)) rfl rfl (by decide)
                            have f103 : h49 bA = some (eJ D 64 (upN (fun j => b1 j ||| f1 j) b1 64)) := by rw [e51, hu_n n104, hu_n nbf, hu_n nbe]; exact f43
                            have n106 : nq cA mA := vnt f44 rm (p := (1, 64)) (q := (1, 2)) rfl rfl (by decide)
                            have f105 : h49 cA = some (eJ D 64 (upN (fun j => e1 j &&& (a1 j ^^^ (-1))) c1 64)) := by rw [e51, hu_n n106, hu_n ncf, hu_n nce]; exact f44
                            have n108 : nq dA mA := vnt f45 rm (p := (1, 64)) (q := (1, 2)) rfl rfl (by decide)
                            have f107 : h49 dA = some (eJ D 64 (upN (fun j => f1 j &&& (b1 j ^^^ (-1))) d1 64)) := by rw [e51, hu_n n108, hu_n ndf, hu_n nde]; exact f45
                            exact ihML ((s + 1)) st g2 (st + 1) (upN (fun j => a1 j ||| e1 j) a1 64) (upN (fun j => b1 j ||| f1 j) b1 64) (upN (fun j => e1 j &&& (a1 j ^^^ (-1))) c1 64) (upN (fun j => f1 j &&& (b1 j ^^^ (-1))) d1 64) e_52 f_53 m_54 h49 f93 f97 f101 f103 f105 f107 f58 f57 f56 (⟨by clear hg2 hgg hnoE; omega, by clear hg2 hgg hnoE; omega⟩) (by have q9 := hBN; first | (rw [if_pos ⟨by clear hg2 hgg hnoE; omega, by clear hg2 hgg hnoE; omega⟩] at q9; rw [show st = ((s + 1 : Nat) : Int) by clear hg2 hgg hnoE; omega]; exact q9) | (rw [if_neg (fun y9 => by clear hg2 hgg hnoE; omega)] at q9; exact q9)) (by rcases hgg with y9 | y9; exact Or.inl ⟨y9.1, by clear hg2 y9 hnoE; omega, hnoE y9.1⟩; exact Or.inr ⟨y9.1, by have q8 := hcn y9.1; clear hg2 y9 hnoE; omega, by have q8 := hcn y9.1; clear hg2 y9 hnoE; omega⟩) (fun b9 y1 y2 y3 y4 y5 y6 y7 => by first | exact hfr b9 y1 y2 y3 y4 y5 y6 y7 | (rw [e51]; simp only [hu_n y1, hu_n y2, hu_n y3, hu_n y4, hu_n y5, hu_n y6, hu_n y7]; exact hfr b9 y1 y2 y3 y4 y5 y6 y7))
                      · skip
                        refine x_aload C dL_search_135 6 rfl ?_
                        refine x_iload C dL_search_137 15 rfl ?_
                        refine x_aload C dL_search_139 8 rfl ?_
                        refine x_iload C dL_search_141 15 rfl ?_
                        refine x_lald C re ⟨by omega, by omega⟩ (by decide) dL_search_143 ?_
                        refine x_toplv (show (upN (fun _ => (0 : Int64)) e1 k) (Int.toNat (((k : Nat) : Int))) = e1 k from upN_k) ?_
                        refine x_aload C dL_search_144 4 rfl ?_
                        refine x_iload C dL_search_146 15 rfl ?_
                        refine x_lald C ra ⟨by omega, by omega⟩ (by decide) dL_search_148 ?_
                        refine x_toplv (show (upN (fun j => a1 j ||| e1 j) a1 k) (Int.toNat (((k : Nat) : Int))) = a1 k from upN_k) ?_
                        refine x_ldc2 C kL_search_1 dL_search_149 ?_
                        refine x_lxor C dL_search_152 ?_
                        refine x_land C dL_search_153 ?_
                        refine x_last C rc ⟨by omega, by omega⟩ (by decide) dL_search_154 (x_hn (fun h109 e110 => ?_))
                        have f111 : h109 cA = some (eJ D 64 (vp_updL (upN (fun j => e1 j &&& (a1 j ^^^ (-1))) c1 k) (Int.toNat (((k : Nat) : Int))) ((e1 k) &&& ((a1 k) ^^^ ((-1)))))) := by rw [e110]; exact hu_s
                        refine x_aload C dL_search_155 7 rfl ?_
                        refine x_iload C dL_search_157 15 rfl ?_
                        refine x_aload C dL_search_159 9 rfl ?_
                        refine x_iload C dL_search_161 15 rfl ?_
                        have f112 : h109 fA = some (eJ D 64 (upN (fun _ => (0 : Int64)) f1 k)) := by rw [e110, hu_n (Ne.symm ncf)]; exact rf
                        refine x_lald C f112 ⟨by omega, by omega⟩ (by decide) dL_search_163 ?_
                        refine x_toplv (show (upN (fun _ => (0 : Int64)) f1 k) (Int.toNat (((k : Nat) : Int))) = f1 k from upN_k) ?_
                        refine x_aload C dL_search_164 5 rfl ?_
                        refine x_iload C dL_search_166 15 rfl ?_
                        have f113 : h109 bA = some (eJ D 64 (upN (fun j => b1 j ||| f1 j) b1 k)) := by rw [e110, hu_n nbc]; exact rb
                        refine x_lald C f113 ⟨by omega, by omega⟩ (by decide) dL_search_168 ?_
                        refine x_toplv (show (upN (fun j => b1 j ||| f1 j) b1 k) (Int.toNat (((k : Nat) : Int))) = b1 k from upN_k) ?_
                        refine x_ldc2 C kL_search_1 dL_search_169 ?_
                        refine x_lxor C dL_search_172 ?_
                        refine x_land C dL_search_173 ?_
                        have f114 : h109 dA = some (eJ D 64 (upN (fun j => f1 j &&& (b1 j ^^^ (-1))) d1 k)) := by rw [e110, hu_n (Ne.symm ncd)]; exact rd
                        refine x_last C f114 ⟨by omega, by omega⟩ (by decide) dL_search_174 (x_hn (fun h115 e116 => ?_))
                        have f117 : h115 dA = some (eJ D 64 (vp_updL (upN (fun j => f1 j &&& (b1 j ^^^ (-1))) d1 k) (Int.toNat (((k : Nat) : Int))) ((f1 k) &&& ((b1 k) ^^^ ((-1)))))) := by rw [e116]; exact hu_s
                        refine x_aload C dL_search_175 4 rfl ?_
                        refine x_iload C dL_search_177 15 rfl ?_
                        refine x_dup2 C dL_search_179 rfl rfl ?_
                        have f118 : h109 aA = some (eJ D 64 (upN (fun j => a1 j ||| e1 j) a1 k)) := by rw [e110, hu_n nac]; exact ra
                        have f119 : h115 aA = some (eJ D 64 (upN (fun j => a1 j ||| e1 j) a1 k)) := by rw [e116, hu_n nad]; exact f118
                        refine x_lald C f119 ⟨by omega, by omega⟩ (by decide) dL_search_180 ?_
                        refine x_toplv (show (upN (fun j => a1 j ||| e1 j) a1 k) (Int.toNat (((k : Nat) : Int))) = a1 k from upN_k) ?_
                        refine x_aload C dL_search_181 8 rfl ?_
                        refine x_iload C dL_search_183 15 rfl ?_
                        have f120 : h109 eA = some (eJ D 64 (upN (fun _ => (0 : Int64)) e1 k)) := by rw [e110, hu_n (Ne.symm nce)]; exact re
                        have f121 : h115 eA = some (eJ D 64 (upN (fun _ => (0 : Int64)) e1 k)) := by rw [e116, hu_n (Ne.symm nde)]; exact f120
                        refine x_lald C f121 ⟨by omega, by omega⟩ (by decide) dL_search_185 ?_
                        refine x_toplv (show (upN (fun _ => (0 : Int64)) e1 k) (Int.toNat (((k : Nat) : Int))) = e1 k from upN_k) ?_
                        refine x_lor C dL_search_186 ?_
                        refine x_last C f119 ⟨by omega, by omega⟩ (by decide) dL_search_187 (x_hn (fun h122 e123 => ?_))
                        have f124 : h122 aA = some (eJ D 64 (vp_updL (upN (fun j => a1 j ||| e1 j) a1 k) (Int.toNat (((k : Nat) : Int))) ((a1 k) ||| (e1 k)))) := by rw [e123]; exact hu_s
                        refine x_aload C dL_search_188 5 rfl ?_
                        refine x_iload C dL_search_190 15 rfl ?_
                        refine x_dup2 C dL_search_192 rfl rfl ?_
                        have f125 : h115 bA = some (eJ D 64 (upN (fun j => b1 j ||| f1 j) b1 k)) := by rw [e116, hu_n nbd]; exact f113
                        have f126 : h122 bA = some (eJ D 64 (upN (fun j => b1 j ||| f1 j) b1 k)) := by rw [e123, hu_n (Ne.symm nab)]; exact f125
                        refine x_lald C f126 ⟨by omega, by omega⟩ (by decide) dL_search_193 ?_
                        refine x_toplv (show (upN (fun j => b1 j ||| f1 j) b1 k) (Int.toNat (((k : Nat) : Int))) = b1 k from upN_k) ?_
                        refine x_aload C dL_search_194 9 rfl ?_
                        refine x_iload C dL_search_196 15 rfl ?_
                        have f127 : h115 fA = some (eJ D 64 (upN (fun _ => (0 : Int64)) f1 k)) := by rw [e116, hu_n (Ne.symm ndf)]; exact f112
                        have f128 : h122 fA = some (eJ D 64 (upN (fun _ => (0 : Int64)) f1 k)) := by rw [e123, hu_n (Ne.symm naf)]; exact f127
                        refine x_lald C f128 ⟨by omega, by omega⟩ (by decide) dL_search_198 ?_
                        refine x_toplv (show (upN (fun _ => (0 : Int64)) f1 k) (Int.toNat (((k : Nat) : Int))) = f1 k from upN_k) ?_
                        refine x_lor C dL_search_199 ?_
                        refine x_last C f126 ⟨by omega, by omega⟩ (by decide) dL_search_200 (x_hn (fun h129 e130 => ?_))
                        have f131 : h129 bA = some (eJ D 64 (vp_updL (upN (fun j => b1 j ||| f1 j) b1 k) (Int.toNat (((k : Nat) : Int))) ((b1 k) ||| (f1 k)))) := by rw [e130]; exact hu_s
                        refine x_aload C dL_search_201 8 rfl ?_
                        refine x_iload C dL_search_203 15 rfl ?_
                        refine x_lconst C (v := 0) dL_search_205 rfl ?_
                        have f132 : h122 eA = some (eJ D 64 (upN (fun _ => (0 : Int64)) e1 k)) := by rw [e123, hu_n (Ne.symm nae)]; exact f121
                        have f133 : h129 eA = some (eJ D 64 (upN (fun _ => (0 : Int64)) e1 k)) := by rw [e130, hu_n (Ne.symm nbe)]; exact f132
                        refine x_last C f133 ⟨by omega, by omega⟩ (by decide) dL_search_206 (x_hn (fun h134 e135 => ?_))
                        have f136 : h134 eA = some (eJ D 64 (vp_updL (upN (fun _ => (0 : Int64)) e1 k) (Int.toNat (((k : Nat) : Int))) 0)) := by rw [e135]; exact hu_s
                        refine x_aload C dL_search_207 9 rfl ?_
                        refine x_iload C dL_search_209 15 rfl ?_
                        refine x_lconst C (v := 0) dL_search_211 rfl ?_
                        have f137 : h129 fA = some (eJ D 64 (upN (fun _ => (0 : Int64)) f1 k)) := by rw [e130, hu_n (Ne.symm nbf)]; exact f128
                        have f138 : h134 fA = some (eJ D 64 (upN (fun _ => (0 : Int64)) f1 k)) := by rw [e135, hu_n (Ne.symm nef)]; exact f137
                        refine x_last C f138 ⟨by omega, by omega⟩ (by decide) dL_search_212 (x_hn (fun h139 e140 => ?_))
                        have f141 : h139 fA = some (eJ D 64 (vp_updL (upN (fun _ => (0 : Int64)) f1 k) (Int.toNat (((k : Nat) : Int))) 0)) := by rw [e140]; exact hu_s
                        refine x_iload C dL_search_213 13 rfl ?_
                        refine x_if_ne (tgt := 238) C dL_search_215 (by decide) (by omega) (fun c142 => ?_) (fun c142 => ?_)
                        · skip
                          refine x_iconst C dL_search_238 1 (by decide) ?_
                          refine x_goto (tgt := 243) C dL_search_239 (by decide) ?_
                          refine x_istore C (ls' := [(0, vI z), (1, vI o), (2, .ref qA), (3, .ref gA), (4, .ref aA), (5, .ref bA), (6, .ref cA), (7, .ref dA), (8, .ref eA), (9, .ref fA), (10, .ref mA), (11, vI ((al : Nat) : Int)), (13, vI w), (14, vI 1), (15, vI st), (16, vI ((k : Nat) : Int))]) dL_search_243 (by decide) rfl ?_
                          refine x_iinc C (x := ((k : Nat) : Int)) (ls' := [(0, vI z), (1, vI o), (2, .ref qA), (3, .ref gA), (4, .ref aA), (5, .ref bA), (6, .ref cA), (7, .ref dA), (8, .ref eA), (9, .ref fA), (10, .ref mA), (11, vI ((al : Nat) : Int)), (13, vI w), (14, vI 1), (15, vI st), (16, vI ((((k : Nat) : Int)) + 1))]) dL_search_245 15 rfl (by decide) rfl ?_
                          refine x_goto (tgt := 128) C dL_search_248 (by decide) ?_
                          have n144 : nq gA cA := vnt rg rc (p := (1, 60)) (q := (1, 64)) rfl rfl (by decide)
                          have f143 : h109 gA = some (eJ D 60 g) := by rw [e110, hu_n n144]; exact rg
                          have n146 : nq gA dA := vnt f143 f114 (p := (1, 60)) (q := (1, 64)) rfl rfl (by decide)
                          have f145 : h115 gA = some (eJ D 60 g) := by rw [e116, hu_n n146]; exact f143
                          have n148 : nq gA aA := vnt f145 f119 (p := (1, 60)) (q := (1, 64)) rfl rfl (by decide)
                          have f147 : h122 gA = some (eJ D 60 g) := by rw [e123, hu_n n148]; exact f145
                          have n150 : nq gA bA := vnt f147 f126 (p := (1, 60)) (q := (1, 64)) rfl rfl (by decide)
                          have f149 : h129 gA = some (eJ D 60 g) := by rw [e130, hu_n n150]; exact f147
                          have n152 : nq gA eA := vnt f149 f133 (p := (1, 60)) (q := (1, 64)) rfl rfl (by decide)
                          have f151 : h134 gA = some (eJ D 60 g) := by rw [e135, hu_n n152]; exact f149
                          have n154 : nq gA fA := vnt f151 f138 (p := (1, 60)) (q := (1, 64)) rfl rfl (by decide)
                          have f153 : h139 gA = some (eJ D 60 g) := by rw [e140, hu_n n154]; exact f151
                          have n156 : nq qA cA := vnt rq rc (p := (0, 5)) (q := (1, 64)) rfl rfl (by decide)
                          have f155 : h109 qA = some (eI D 5 q) := by rw [e110, hu_n n156]; exact rq
                          have n158 : nq qA dA := vnt f155 f114 (p := (0, 5)) (q := (1, 64)) rfl rfl (by decide)
                          have f157 : h115 qA = some (eI D 5 q) := by rw [e116, hu_n n158]; exact f155
                          have n160 : nq qA aA := vnt f157 f119 (p := (0, 5)) (q := (1, 64)) rfl rfl (by decide)
                          have f159 : h122 qA = some (eI D 5 q) := by rw [e123, hu_n n160]; exact f157
                          have n162 : nq qA bA := vnt f159 f126 (p := (0, 5)) (q := (1, 64)) rfl rfl (by decide)
                          have f161 : h129 qA = some (eI D 5 q) := by rw [e130, hu_n n162]; exact f159
                          have n164 : nq qA eA := vnt f161 f133 (p := (0, 5)) (q := (1, 64)) rfl rfl (by decide)
                          have f163 : h134 qA = some (eI D 5 q) := by rw [e135, hu_n n164]; exact f161
                          have n166 : nq qA fA := vnt f163 f138 (p := (0, 5)) (q := (1, 64)) rfl rfl (by decide)
                          have f165 : h139 qA = some (eI D 5 q) := by rw [e140, hu_n n166]; exact f163
                          have f167 : h129 aA = some (eJ D 64 (vp_updL (upN (fun j => a1 j ||| e1 j) a1 k) (Int.toNat (((k : Nat) : Int))) ((a1 k) ||| (e1 k)))) := by rw [e130, hu_n nab]; exact f124
                          have f168 : h134 aA = some (eJ D 64 (vp_updL (upN (fun j => a1 j ||| e1 j) a1 k) (Int.toNat (((k : Nat) : Int))) ((a1 k) ||| (e1 k)))) := by rw [e135, hu_n nae]; exact f167
                          have f169 : h139 aA = some (eJ D 64 (vp_updL (upN (fun j => a1 j ||| e1 j) a1 k) (Int.toNat (((k : Nat) : Int))) ((a1 k) ||| (e1 k)))) := by rw [e140, hu_n naf]; exact f168
                          have f170 : h134 bA = some (eJ D 64 (vp_updL (upN (fun j => b1 j ||| f1 j) b1 k) (Int.toNat (((k : Nat) : Int))) ((b1 k) ||| (f1 k)))) := by rw [e135, hu_n nbe]; exact f131
                          have f171 : h139 bA = some (eJ D 64 (vp_updL (upN (fun j => b1 j ||| f1 j) b1 k) (Int.toNat (((k : Nat) : Int))) ((b1 k) ||| (f1 k)))) := by rw [e140, hu_n nbf]; exact f170
                          have f172 : h115 cA = some (eJ D 64 (vp_updL (upN (fun j => e1 j &&& (a1 j ^^^ (-1))) c1 k) (Int.toNat (((k : Nat) : Int))) ((e1 k) &&& ((a1 k) ^^^ ((-1)))))) := by rw [e116, hu_n ncd]; exact f111
                          have f173 : h122 cA = some (eJ D 64 (vp_updL (upN (fun j => e1 j &&& (a1 j ^^^ (-1))) c1 k) (Int.toNat (((k : Nat) : Int))) ((e1 k) &&& ((a1 k) ^^^ ((-1)))))) := by rw [e123, hu_n (Ne.symm nac)]; exact f172
                          have f174 : h129 cA = some (eJ D 64 (vp_updL (upN (fun j => e1 j &&& (a1 j ^^^ (-1))) c1 k) (Int.toNat (((k : Nat) : Int))) ((e1 k) &&& ((a1 k) ^^^ ((-1)))))) := by rw [e130, hu_n (Ne.symm nbc)]; exact f173
                          have f175 : h134 cA = some (eJ D 64 (vp_updL (upN (fun j => e1 j &&& (a1 j ^^^ (-1))) c1 k) (Int.toNat (((k : Nat) : Int))) ((e1 k) &&& ((a1 k) ^^^ ((-1)))))) := by rw [e135, hu_n nce]; exact f174
                          have f176 : h139 cA = some (eJ D 64 (vp_updL (upN (fun j => e1 j &&& (a1 j ^^^ (-1))) c1 k) (Int.toNat (((k : Nat) : Int))) ((e1 k) &&& ((a1 k) ^^^ ((-1)))))) := by rw [e140, hu_n ncf]; exact f175
                          have f177 : h122 dA = some (eJ D 64 (vp_updL (upN (fun j => f1 j &&& (b1 j ^^^ (-1))) d1 k) (Int.toNat (((k : Nat) : Int))) ((f1 k) &&& ((b1 k) ^^^ ((-1)))))) := by rw [e123, hu_n (Ne.symm nad)]; exact f117
                          have f178 : h129 dA = some (eJ D 64 (vp_updL (upN (fun j => f1 j &&& (b1 j ^^^ (-1))) d1 k) (Int.toNat (((k : Nat) : Int))) ((f1 k) &&& ((b1 k) ^^^ ((-1)))))) := by rw [e130, hu_n (Ne.symm nbd)]; exact f177
                          have f179 : h134 dA = some (eJ D 64 (vp_updL (upN (fun j => f1 j &&& (b1 j ^^^ (-1))) d1 k) (Int.toNat (((k : Nat) : Int))) ((f1 k) &&& ((b1 k) ^^^ ((-1)))))) := by rw [e135, hu_n nde]; exact f178
                          have f180 : h139 dA = some (eJ D 64 (vp_updL (upN (fun j => f1 j &&& (b1 j ^^^ (-1))) d1 k) (Int.toNat (((k : Nat) : Int))) ((f1 k) &&& ((b1 k) ^^^ ((-1)))))) := by rw [e140, hu_n ndf]; exact f179
                          have f181 : h139 eA = some (eJ D 64 (vp_updL (upN (fun _ => (0 : Int64)) e1 k) (Int.toNat (((k : Nat) : Int))) 0)) := by rw [e140, hu_n nef]; exact f136
                          have n183 : nq mA cA := vnt rm rc (p := (1, 2)) (q := (1, 64)) rfl rfl (by decide)
                          have f182 : h109 mA = some (eJ D 2 m1) := by rw [e110, hu_n n183]; exact rm
                          have n185 : nq mA dA := vnt f182 f114 (p := (1, 2)) (q := (1, 64)) rfl rfl (by decide)
                          have f184 : h115 mA = some (eJ D 2 m1) := by rw [e116, hu_n n185]; exact f182
                          have n187 : nq mA aA := vnt f184 f119 (p := (1, 2)) (q := (1, 64)) rfl rfl (by decide)
                          have f186 : h122 mA = some (eJ D 2 m1) := by rw [e123, hu_n n187]; exact f184
                          have n189 : nq mA bA := vnt f186 f126 (p := (1, 2)) (q := (1, 64)) rfl rfl (by decide)
                          have f188 : h129 mA = some (eJ D 2 m1) := by rw [e130, hu_n n189]; exact f186
                          have f190 : h134 mA = some (eJ D 2 m1) := by rw [e135, hu_n (Ne.symm n25)]; exact f188
                          have f191 : h139 mA = some (eJ D 2 m1) := by rw [e140, hu_n (Ne.symm n29)]; exact f190
                          exact ihRL (k + 1) 1 h139 f153 f165 (by have q9 := f169; rw [show vp_updL (upN (fun j => a1 j ||| e1 j) a1 k) (Int.toNat ((k : Nat) : Int)) (a1 k ||| e1 k) = upN (fun j => a1 j ||| e1 j) a1 (k + 1) from upN_s rfl] at q9; exact q9) (by have q9 := f171; rw [show vp_updL (upN (fun j => b1 j ||| f1 j) b1 k) (Int.toNat ((k : Nat) : Int)) (b1 k ||| f1 k) = upN (fun j => b1 j ||| f1 j) b1 (k + 1) from upN_s rfl] at q9; exact q9) (by have q9 := f176; rw [show vp_updL (upN (fun j => e1 j &&& (a1 j ^^^ (-1))) c1 k) (Int.toNat ((k : Nat) : Int)) (e1 k &&& (a1 k ^^^ (-1))) = upN (fun j => e1 j &&& (a1 j ^^^ (-1))) c1 (k + 1) from upN_s rfl] at q9; exact q9) (by have q9 := f180; rw [show vp_updL (upN (fun j => f1 j &&& (b1 j ^^^ (-1))) d1 k) (Int.toNat ((k : Nat) : Int)) (f1 k &&& (b1 k ^^^ (-1))) = upN (fun j => f1 j &&& (b1 j ^^^ (-1))) d1 (k + 1) from upN_s rfl] at q9; exact q9) (by have q9 := f181; rw [show vp_updL (upN (fun _ => (0 : Int64)) e1 k) (Int.toNat ((k : Nat) : Int)) (0) = upN (fun _ => (0 : Int64)) e1 (k + 1) from upN_s rfl] at q9; exact q9) (by have q9 := f141; rw [show vp_updL (upN (fun _ => (0 : Int64)) f1 k) (Int.toNat ((k : Nat) : Int)) (0) = upN (fun _ => (0 : Int64)) f1 (k + 1) from upN_s rfl] at q9; exact q9) f191 (by omega) (by omega) (by first | exact g2_old hg2 (by assumption) | exact g2_new (Or.inl (by assumption)) | exact g2_new (Or.inr (by assumption)) | exact g2_no hg2 (by omega) (fun z9 => z9.elim (fun y9 => y9 (by assumption)) (fun y9 => y9 (by assumption)))) (fun b9 y1 y2 y3 y4 y5 y6 y7 => by first | exact hfr b9 y1 y2 y3 y4 y5 y6 y7 | (rw [e140, e135, e130, e123, e116, e110]; simp only [hu_n y1, hu_n y2, hu_n y3, hu_n y4, hu_n y5, hu_n y6, hu_n y7]; exact hfr b9 y1 y2 y3 y4 y5 y6 y7))
                        · skip
                          refine x_aload C dL_search_218 6 rfl ?_
                          refine x_iload C dL_search_220 15 rfl ?_
                          have f192 : h115 cA = some (eJ D 64 (vp_updL (upN (fun j => e1 j &&& (a1 j ^^^ (-1))) c1 k) (Int.toNat (((k : Nat) : Int))) ((e1 k) &&& ((a1 k) ^^^ ((-1)))))) := by rw [e116, hu_n ncd]; exact f111
                          have f193 : h122 cA = some (eJ D 64 (vp_updL (upN (fun j => e1 j &&& (a1 j ^^^ (-1))) c1 k) (Int.toNat (((k : Nat) : Int))) ((e1 k) &&& ((a1 k) ^^^ ((-1)))))) := by rw [e123, hu_n (Ne.symm nac)]; exact f192
                          have f194 : h129 cA = some (eJ D 64 (vp_updL (upN (fun j => e1 j &&& (a1 j ^^^ (-1))) c1 k) (Int.toNat (((k : Nat) : Int))) ((e1 k) &&& ((a1 k) ^^^ ((-1)))))) := by rw [e130, hu_n (Ne.symm nbc)]; exact f193
                          have f195 : h134 cA = some (eJ D 64 (vp_updL (upN (fun j => e1 j &&& (a1 j ^^^ (-1))) c1 k) (Int.toNat (((k : Nat) : Int))) ((e1 k) &&& ((a1 k) ^^^ ((-1)))))) := by rw [e135, hu_n nce]; exact f194
                          have f196 : h139 cA = some (eJ D 64 (vp_updL (upN (fun j => e1 j &&& (a1 j ^^^ (-1))) c1 k) (Int.toNat (((k : Nat) : Int))) ((e1 k) &&& ((a1 k) ^^^ ((-1)))))) := by rw [e140, hu_n ncf]; exact f195
                          refine x_lald C f196 ⟨by omega, by omega⟩ (by decide) dL_search_222 ?_
                          refine x_toplv (show (vp_updL (upN (fun j => e1 j &&& (a1 j ^^^ (-1))) c1 k) (Int.toNat (((k : Nat) : Int))) ((e1 k) &&& ((a1 k) ^^^ ((-1))))) (Int.toNat (((k : Nat) : Int))) = e1 k &&& (a1 k ^^^ (-1)) from uL_s) ?_
                          refine x_lconst C (v := 0) dL_search_223 rfl ?_
                          refine x_lcmp_ne (tgt := 238) C dL_search_224 dL_search_225 (by decide) (fun c197 => ?_) (fun c197 => ?_)
                          · skip
                            refine x_iconst C dL_search_238 1 (by decide) ?_
                            refine x_goto (tgt := 243) C dL_search_239 (by decide) ?_
                            refine x_istore C (ls' := [(0, vI z), (1, vI o), (2, .ref qA), (3, .ref gA), (4, .ref aA), (5, .ref bA), (6, .ref cA), (7, .ref dA), (8, .ref eA), (9, .ref fA), (10, .ref mA), (11, vI ((al : Nat) : Int)), (13, vI w), (14, vI 1), (15, vI st), (16, vI ((k : Nat) : Int))]) dL_search_243 (by decide) rfl ?_
                            refine x_iinc C (x := ((k : Nat) : Int)) (ls' := [(0, vI z), (1, vI o), (2, .ref qA), (3, .ref gA), (4, .ref aA), (5, .ref bA), (6, .ref cA), (7, .ref dA), (8, .ref eA), (9, .ref fA), (10, .ref mA), (11, vI ((al : Nat) : Int)), (13, vI w), (14, vI 1), (15, vI st), (16, vI ((((k : Nat) : Int)) + 1))]) dL_search_245 15 rfl (by decide) rfl ?_
                            refine x_goto (tgt := 128) C dL_search_248 (by decide) ?_
                            have n199 : nq gA cA := vnt rg rc (p := (1, 60)) (q := (1, 64)) rfl rfl (by decide)
                            have f198 : h109 gA = some (eJ D 60 g) := by rw [e110, hu_n n199]; exact rg
                            have n201 : nq gA dA := vnt f198 f114 (p := (1, 60)) (q := (1, 64)) rfl rfl (by decide)
                            have f200 : h115 gA = some (eJ D 60 g) := by rw [e116, hu_n n201]; exact f198
                            have n203 : nq gA aA := vnt f200 f119 (p := (1, 60)) (q := (1, 64)) rfl rfl (by decide)
                            have f202 : h122 gA = some (eJ D 60 g) := by rw [e123, hu_n n203]; exact f200
                            have n205 : nq gA bA := vnt f202 f126 (p := (1, 60)) (q := (1, 64)) rfl rfl (by decide)
                            have f204 : h129 gA = some (eJ D 60 g) := by rw [e130, hu_n n205]; exact f202
                            have n207 : nq gA eA := vnt f204 f133 (p := (1, 60)) (q := (1, 64)) rfl rfl (by decide)
                            have f206 : h134 gA = some (eJ D 60 g) := by rw [e135, hu_n n207]; exact f204
                            have n209 : nq gA fA := vnt f206 f138 (p := (1, 60)) (q := (1, 64)) rfl rfl (by decide)
                            have f208 : h139 gA = some (eJ D 60 g) := by rw [e140, hu_n n209]; exact f206
                            have n211 : nq qA cA := vnt rq rc (p := (0, 5)) (q := (1, 64)) rfl rfl (by decide)
                            have f210 : h109 qA = some (eI D 5 q) := by rw [e110, hu_n n211]; exact rq
                            have n213 : nq qA dA := vnt f210 f114 (p := (0, 5)) (q := (1, 64)) rfl rfl (by decide)
                            have f212 : h115 qA = some (eI D 5 q) := by rw [e116, hu_n n213]; exact f210
                            have n215 : nq qA aA := vnt f212 f119 (p := (0, 5)) (q := (1, 64)) rfl rfl (by decide)
                            have f214 : h122 qA = some (eI D 5 q) := by rw [e123, hu_n n215]; exact f212
                            have n217 : nq qA bA := vnt f214 f126 (p := (0, 5)) (q := (1, 64)) rfl rfl (by decide)
                            have f216 : h129 qA = some (eI D 5 q) := by rw [e130, hu_n n217]; exact f214
                            have n219 : nq qA eA := vnt f216 f133 (p := (0, 5)) (q := (1, 64)) rfl rfl (by decide)
                            have f218 : h134 qA = some (eI D 5 q) := by rw [e135, hu_n n219]; exact f216
                            have n221 : nq qA fA := vnt f218 f138 (p := (0, 5)) (q := (1, 64)) rfl rfl (by decide)
                            have f220 : h139 qA = some (eI D 5 q) := by rw [e140, hu_n n221]; exact f218
                            have f222 : h129 aA = some (eJ D 64 (vp_updL (upN (fun j => a1 j ||| e1 j) a1 k) (Int.toNat (((k : Nat) : Int))) ((a1 k) ||| (e1 k)))) := by rw [e130, hu_n nab]; exact f124
                            have f223 : h134 aA = some (eJ D 64 (vp_updL (upN (fun j => a1 j ||| e1 j) a1 k) (Int.toNat (((k : Nat) : Int))) ((a1 k) ||| (e1 k)))) := by rw [e135, hu_n nae]; exact f222
                            have f224 : h139 aA = some (eJ D 64 (vp_updL (upN (fun j => a1 j ||| e1 j) a1 k) (Int.toNat (((k : Nat) : Int))) ((a1 k) ||| (e1 k)))) := by rw [e140, hu_n naf]; exact f223
                            have f225 : h134 bA = some (eJ D 64 (vp_updL (upN (fun j => b1 j ||| f1 j) b1 k) (Int.toNat (((k : Nat) : Int))) ((b1 k) ||| (f1 k)))) := by rw [e135, hu_n nbe]; exact f131
                            have f226 : h139 bA = some (eJ D 64 (vp_updL (upN (fun j => b1 j ||| f1 j) b1 k) (Int.toNat (((k : Nat) : Int))) ((b1 k) ||| (f1 k)))) := by rw [e140, hu_n nbf]; exact f225
                            have f227 : h122 dA = some (eJ D 64 (vp_updL (upN (fun j => f1 j &&& (b1 j ^^^ (-1))) d1 k) (Int.toNat (((k : Nat) : Int))) ((f1 k) &&& ((b1 k) ^^^ ((-1)))))) := by rw [e123, hu_n (Ne.symm nad)]; exact f117
                            have f228 : h129 dA = some (eJ D 64 (vp_updL (upN (fun j => f1 j &&& (b1 j ^^^ (-1))) d1 k) (Int.toNat (((k : Nat) : Int))) ((f1 k) &&& ((b1 k) ^^^ ((-1)))))) := by rw [e130, hu_n (Ne.symm nbd)]; exact f227
                            have f229 : h134 dA = some (eJ D 64 (vp_updL (upN (fun j => f1 j &&& (b1 j ^^^ (-1))) d1 k) (Int.toNat (((k : Nat) : Int))) ((f1 k) &&& ((b1 k) ^^^ ((-1)))))) := by rw [e135, hu_n nde]; exact f228
                            have f230 : h139 dA = some (eJ D 64 (vp_updL (upN (fun j => f1 j &&& (b1 j ^^^ (-1))) d1 k) (Int.toNat (((k : Nat) : Int))) ((f1 k) &&& ((b1 k) ^^^ ((-1)))))) := by rw [e140, hu_n ndf]; exact f229
                            have f231 : h139 eA = some (eJ D 64 (vp_updL (upN (fun _ => (0 : Int64)) e1 k) (Int.toNat (((k : Nat) : Int))) 0)) := by rw [e140, hu_n nef]; exact f136
                            have n233 : nq mA cA := vnt rm rc (p := (1, 2)) (q := (1, 64)) rfl rfl (by decide)
                            have f232 : h109 mA = some (eJ D 2 m1) := by rw [e110, hu_n n233]; exact rm
                            have n235 : nq mA dA := vnt f232 f114 (p := (1, 2)) (q := (1, 64)) rfl rfl (by decide)
                            have f234 : h115 mA = some (eJ D 2 m1) := by rw [e116, hu_n n235]; exact f232
                            have n237 : nq mA aA := vnt f234 f119 (p := (1, 2)) (q := (1, 64)) rfl rfl (by decide)
                            have f236 : h122 mA = some (eJ D 2 m1) := by rw [e123, hu_n n237]; exact f234
                            have n239 : nq mA bA := vnt f236 f126 (p := (1, 2)) (q := (1, 64)) rfl rfl (by decide)
                            have f238 : h129 mA = some (eJ D 2 m1) := by rw [e130, hu_n n239]; exact f236
                            have f240 : h134 mA = some (eJ D 2 m1) := by rw [e135, hu_n (Ne.symm n25)]; exact f238
                            have f241 : h139 mA = some (eJ D 2 m1) := by rw [e140, hu_n (Ne.symm n29)]; exact f240
                            exact ihRL (k + 1) 1 h139 f208 f220 (by have q9 := f224; rw [show vp_updL (upN (fun j => a1 j ||| e1 j) a1 k) (Int.toNat ((k : Nat) : Int)) (a1 k ||| e1 k) = upN (fun j => a1 j ||| e1 j) a1 (k + 1) from upN_s rfl] at q9; exact q9) (by have q9 := f226; rw [show vp_updL (upN (fun j => b1 j ||| f1 j) b1 k) (Int.toNat ((k : Nat) : Int)) (b1 k ||| f1 k) = upN (fun j => b1 j ||| f1 j) b1 (k + 1) from upN_s rfl] at q9; exact q9) (by have q9 := f196; rw [show vp_updL (upN (fun j => e1 j &&& (a1 j ^^^ (-1))) c1 k) (Int.toNat ((k : Nat) : Int)) (e1 k &&& (a1 k ^^^ (-1))) = upN (fun j => e1 j &&& (a1 j ^^^ (-1))) c1 (k + 1) from upN_s rfl] at q9; exact q9) (by have q9 := f230; rw [show vp_updL (upN (fun j => f1 j &&& (b1 j ^^^ (-1))) d1 k) (Int.toNat ((k : Nat) : Int)) (f1 k &&& (b1 k ^^^ (-1))) = upN (fun j => f1 j &&& (b1 j ^^^ (-1))) d1 (k + 1) from upN_s rfl] at q9; exact q9) (by have q9 := f231; rw [show vp_updL (upN (fun _ => (0 : Int64)) e1 k) (Int.toNat ((k : Nat) : Int)) (0) = upN (fun _ => (0 : Int64)) e1 (k + 1) from upN_s rfl] at q9; exact q9) (by have q9 := f141; rw [show vp_updL (upN (fun _ => (0 : Int64)) f1 k) (Int.toNat ((k : Nat) : Int)) (0) = upN (fun _ => (0 : Int64)) f1 (k + 1) from upN_s rfl] at q9; exact q9) f241 (by omega) (by omega) (by first | exact g2_old hg2 (by assumption) | exact g2_new (Or.inl (by assumption)) | exact g2_new (Or.inr (by assumption)) | exact g2_no hg2 (by omega) (fun z9 => z9.elim (fun y9 => y9 (by assumption)) (fun y9 => y9 (by assumption)))) (fun b9 y1 y2 y3 y4 y5 y6 y7 => by first | exact hfr b9 y1 y2 y3 y4 y5 y6 y7 | (rw [e140, e135, e130, e123, e116, e110]; simp only [hu_n y1, hu_n y2, hu_n y3, hu_n y4, hu_n y5, hu_n y6, hu_n y7]; exact hfr b9 y1 y2 y3 y4 y5 y6 y7))
                          · skip
                            refine x_aload C dL_search_228 7 rfl ?_
                            refine x_iload C dL_search_230 15 rfl ?_
                            have f242 : h122 dA = some (eJ D 64 (vp_updL (upN (fun j => f1 j &&& (b1 j ^^^ (-1))) d1 k) (Int.toNat (((k : Nat) : Int))) ((f1 k) &&& ((b1 k) ^^^ ((-1)))))) := by rw [e123, hu_n (Ne.symm nad)]; exact f117
                            have f243 : h129 dA = some (eJ D 64 (vp_updL (upN (fun j => f1 j &&& (b1 j ^^^ (-1))) d1 k) (Int.toNat (((k : Nat) : Int))) ((f1 k) &&& ((b1 k) ^^^ ((-1)))))) := by rw [e130, hu_n (Ne.symm nbd)]; exact f242
                            have f244 : h134 dA = some (eJ D 64 (vp_updL (upN (fun j => f1 j &&& (b1 j ^^^ (-1))) d1 k) (Int.toNat (((k : Nat) : Int))) ((f1 k) &&& ((b1 k) ^^^ ((-1)))))) := by rw [e135, hu_n nde]; exact f243
                            have f245 : h139 dA = some (eJ D 64 (vp_updL (upN (fun j => f1 j &&& (b1 j ^^^ (-1))) d1 k) (Int.toNat (((k : Nat) : Int))) ((f1 k) &&& ((b1 k) ^^^ ((-1)))))) := by rw [e140, hu_n ndf]; exact f244
                            refine x_lald C f245 ⟨by omega, by omega⟩ (by decide) dL_search_232 ?_
                            refine x_toplv (show (vp_updL (upN (fun j => f1 j &&& (b1 j ^^^ (-1))) d1 k) (Int.toNat (((k : Nat) : Int))) ((f1 k) &&& ((b1 k) ^^^ ((-1))))) (Int.toNat (((k : Nat) : Int))) = f1 k &&& (b1 k ^^^ (-1)) from uL_s) ?_
                            refine x_lconst C (v := 0) dL_search_233 rfl ?_
                            refine x_lcmp_eq (tgt := 242) C dL_search_234 dL_search_235 (by decide) (fun c246 => ?_) (fun c246 => ?_)
                            · skip
                              refine x_iconst C dL_search_242 0 (by decide) ?_
                              refine x_istore C (ls' := [(0, vI z), (1, vI o), (2, .ref qA), (3, .ref gA), (4, .ref aA), (5, .ref bA), (6, .ref cA), (7, .ref dA), (8, .ref eA), (9, .ref fA), (10, .ref mA), (11, vI ((al : Nat) : Int)), (13, vI w), (14, vI 0), (15, vI st), (16, vI ((k : Nat) : Int))]) dL_search_243 (by decide) rfl ?_
                              refine x_iinc C (x := ((k : Nat) : Int)) (ls' := [(0, vI z), (1, vI o), (2, .ref qA), (3, .ref gA), (4, .ref aA), (5, .ref bA), (6, .ref cA), (7, .ref dA), (8, .ref eA), (9, .ref fA), (10, .ref mA), (11, vI ((al : Nat) : Int)), (13, vI w), (14, vI 0), (15, vI st), (16, vI ((((k : Nat) : Int)) + 1))]) dL_search_245 15 rfl (by decide) rfl ?_
                              refine x_goto (tgt := 128) C dL_search_248 (by decide) ?_
                              have n248 : nq gA cA := vnt rg rc (p := (1, 60)) (q := (1, 64)) rfl rfl (by decide)
                              have f247 : h109 gA = some (eJ D 60 g) := by rw [e110, hu_n n248]; exact rg
                              have n250 : nq gA dA := vnt f247 f114 (p := (1, 60)) (q := (1, 64)) rfl rfl (by decide)
                              have f249 : h115 gA = some (eJ D 60 g) := by rw [e116, hu_n n250]; exact f247
                              have n252 : nq gA aA := vnt f249 f119 (p := (1, 60)) (q := (1, 64)) rfl rfl (by decide)
                              have f251 : h122 gA = some (eJ D 60 g) := by rw [e123, hu_n n252]; exact f249
                              have n254 : nq gA bA := vnt f251 f126 (p := (1, 60)) (q := (1, 64)) rfl rfl (by decide)
                              have f253 : h129 gA = some (eJ D 60 g) := by rw [e130, hu_n n254]; exact f251
                              have n256 : nq gA eA := vnt f253 f133 (p := (1, 60)) (q := (1, 64)) rfl rfl (by decide)
                              have f255 : h134 gA = some (eJ D 60 g) := by rw [e135, hu_n n256]; exact f253
                              have n258 : nq gA fA := vnt f255 f138 (p := (1, 60)) (q := (1, 64)) rfl rfl (by decide)
                              have f257 : h139 gA = some (eJ D 60 g) := by rw [e140, hu_n n258]; exact f255
                              have n260 : nq qA cA := vnt rq rc (p := (0, 5)) (q := (1, 64)) rfl rfl (by decide)
                              have f259 : h109 qA = some (eI D 5 q) := by rw [e110, hu_n n260]; exact rq
                              have n262 : nq qA dA := vnt f259 f114 (p := (0, 5)) (q := (1, 64)) rfl rfl (by decide)
                              have f261 : h115 qA = some (eI D 5 q) := by rw [e116, hu_n n262]; exact f259
                              have n264 : nq qA aA := vnt f261 f119 (p := (0, 5)) (q := (1, 64)) rfl rfl (by decide)
                              have f263 : h122 qA = some (eI D 5 q) := by rw [e123, hu_n n264]; exact f261
                              have n266 : nq qA bA := vnt f263 f126 (p := (0, 5)) (q := (1, 64)) rfl rfl (by decide)
                              have f265 : h129 qA = some (eI D 5 q) := by rw [e130, hu_n n266]; exact f263
                              have n268 : nq qA eA := vnt f265 f133 (p := (0, 5)) (q := (1, 64)) rfl rfl (by decide)
                              have f267 : h134 qA = some (eI D 5 q) := by rw [e135, hu_n n268]; exact f265
                              have n270 : nq qA fA := vnt f267 f138 (p := (0, 5)) (q := (1, 64)) rfl rfl (by decide)
                              have f269 : h139 qA = some (eI D 5 q) := by rw [e140, hu_n n270]; exact f267
                              have f271 : h129 aA = some (eJ D 64 (vp_updL (upN (fun j => a1 j ||| e1 j) a1 k) (Int.toNat (((k : Nat) : Int))) ((a1 k) ||| (e1 k)))) := by rw [e130, hu_n nab]; exact f124
                              have f272 : h134 aA = some (eJ D 64 (vp_updL (upN (fun j => a1 j ||| e1 j) a1 k) (Int.toNat (((k : Nat) : Int))) ((a1 k) ||| (e1 k)))) := by rw [e135, hu_n nae]; exact f271
                              have f273 : h139 aA = some (eJ D 64 (vp_updL (upN (fun j => a1 j ||| e1 j) a1 k) (Int.toNat (((k : Nat) : Int))) ((a1 k) ||| (e1 k)))) := by rw [e140, hu_n naf]; exact f272
                              have f274 : h134 bA = some (eJ D 64 (vp_updL (upN (fun j => b1 j ||| f1 j) b1 k) (Int.toNat (((k : Nat) : Int))) ((b1 k) ||| (f1 k)))) := by rw [e135, hu_n nbe]; exact f131
                              have f275 : h139 bA = some (eJ D 64 (vp_updL (upN (fun j => b1 j ||| f1 j) b1 k) (Int.toNat (((k : Nat) : Int))) ((b1 k) ||| (f1 k)))) := by rw [e140, hu_n nbf]; exact f274
                              have f276 : h139 eA = some (eJ D 64 (vp_updL (upN (fun _ => (0 : Int64)) e1 k) (Int.toNat (((k : Nat) : Int))) 0)) := by rw [e140, hu_n nef]; exact f136
                              have n278 : nq mA cA := vnt rm rc (p := (1, 2)) (q := (1, 64)) rfl rfl (by decide)
                              have f277 : h109 mA = some (eJ D 2 m1) := by rw [e110, hu_n n278]; exact rm
                              have n280 : nq mA dA := vnt f277 f114 (p := (1, 2)) (q := (1, 64)) rfl rfl (by decide)
                              have f279 : h115 mA = some (eJ D 2 m1) := by rw [e116, hu_n n280]; exact f277
                              have n282 : nq mA aA := vnt f279 f119 (p := (1, 2)) (q := (1, 64)) rfl rfl (by decide)
                              have f281 : h122 mA = some (eJ D 2 m1) := by rw [e123, hu_n n282]; exact f279
                              have n284 : nq mA bA := vnt f281 f126 (p := (1, 2)) (q := (1, 64)) rfl rfl (by decide)
                              have f283 : h129 mA = some (eJ D 2 m1) := by rw [e130, hu_n n284]; exact f281
                              have f285 : h134 mA = some (eJ D 2 m1) := by rw [e135, hu_n (Ne.symm n25)]; exact f283
                              have f286 : h139 mA = some (eJ D 2 m1) := by rw [e140, hu_n (Ne.symm n29)]; exact f285
                              exact ihRL (k + 1) 0 h139 f257 f269 (by have q9 := f273; rw [show vp_updL (upN (fun j => a1 j ||| e1 j) a1 k) (Int.toNat ((k : Nat) : Int)) (a1 k ||| e1 k) = upN (fun j => a1 j ||| e1 j) a1 (k + 1) from upN_s rfl] at q9; exact q9) (by have q9 := f275; rw [show vp_updL (upN (fun j => b1 j ||| f1 j) b1 k) (Int.toNat ((k : Nat) : Int)) (b1 k ||| f1 k) = upN (fun j => b1 j ||| f1 j) b1 (k + 1) from upN_s rfl] at q9; exact q9) (by have q9 := f196; rw [show vp_updL (upN (fun j => e1 j &&& (a1 j ^^^ (-1))) c1 k) (Int.toNat ((k : Nat) : Int)) (e1 k &&& (a1 k ^^^ (-1))) = upN (fun j => e1 j &&& (a1 j ^^^ (-1))) c1 (k + 1) from upN_s rfl] at q9; exact q9) (by have q9 := f245; rw [show vp_updL (upN (fun j => f1 j &&& (b1 j ^^^ (-1))) d1 k) (Int.toNat ((k : Nat) : Int)) (f1 k &&& (b1 k ^^^ (-1))) = upN (fun j => f1 j &&& (b1 j ^^^ (-1))) d1 (k + 1) from upN_s rfl] at q9; exact q9) (by have q9 := f276; rw [show vp_updL (upN (fun _ => (0 : Int64)) e1 k) (Int.toNat ((k : Nat) : Int)) (0) = upN (fun _ => (0 : Int64)) e1 (k + 1) from upN_s rfl] at q9; exact q9) (by have q9 := f141; rw [show vp_updL (upN (fun _ => (0 : Int64)) f1 k) (Int.toNat ((k : Nat) : Int)) (0) = upN (fun _ => (0 : Int64)) f1 (k + 1) from upN_s rfl] at q9; exact q9) f286 (by omega) (by omega) (by first | exact g2_old hg2 (by assumption) | exact g2_new (Or.inl (by assumption)) | exact g2_new (Or.inr (by assumption)) | exact g2_no hg2 (by omega) (fun z9 => z9.elim (fun y9 => y9 (by assumption)) (fun y9 => y9 (by assumption)))) (fun b9 y1 y2 y3 y4 y5 y6 y7 => by first | exact hfr b9 y1 y2 y3 y4 y5 y6 y7 | (rw [e140, e135, e130, e123, e116, e110]; simp only [hu_n y1, hu_n y2, hu_n y3, hu_n y4, hu_n y5, hu_n y6, hu_n y7]; exact hfr b9 y1 y2 y3 y4 y5 y6 y7))
                            · skip
                              refine x_iconst C dL_search_238 1 (by decide) ?_
                              refine x_goto (tgt := 243) C dL_search_239 (by decide) ?_
                              refine x_istore C (ls' := [(0, vI z), (1, vI o), (2, .ref qA), (3, .ref gA), (4, .ref aA), (5, .ref bA), (6, .ref cA), (7, .ref dA), (8, .ref eA), (9, .ref fA), (10, .ref mA), (11, vI ((al : Nat) : Int)), (13, vI w), (14, vI 1), (15, vI st), (16, vI ((k : Nat) : Int))]) dL_search_243 (by decide) rfl ?_
                              refine x_iinc C (x := ((k : Nat) : Int)) (ls' := [(0, vI z), (1, vI o), (2, .ref qA), (3, .ref gA), (4, .ref aA), (5, .ref bA), (6, .ref cA), (7, .ref dA), (8, .ref eA), (9, .ref fA), (10, .ref mA), (11, vI ((al : Nat) : Int)), (13, vI w), (14, vI 1), (15, vI st), (16, vI ((((k : Nat) : Int)) + 1))]) dL_search_245 15 rfl (by decide) rfl ?_
                              refine x_goto (tgt := 128) C dL_search_248 (by decide) ?_
                              have n288 : nq gA cA := vnt rg rc (p := (1, 60)) (q := (1, 64)) rfl rfl (by decide)
                              have f287 : h109 gA = some (eJ D 60 g) := by rw [e110, hu_n n288]; exact rg
                              have n290 : nq gA dA := vnt f287 f114 (p := (1, 60)) (q := (1, 64)) rfl rfl (by decide)
                              have f289 : h115 gA = some (eJ D 60 g) := by rw [e116, hu_n n290]; exact f287
                              have n292 : nq gA aA := vnt f289 f119 (p := (1, 60)) (q := (1, 64)) rfl rfl (by decide)
                              have f291 : h122 gA = some (eJ D 60 g) := by rw [e123, hu_n n292]; exact f289
                              have n294 : nq gA bA := vnt f291 f126 (p := (1, 60)) (q := (1, 64)) rfl rfl (by decide)
                              have f293 : h129 gA = some (eJ D 60 g) := by rw [e130, hu_n n294]; exact f291
                              have n296 : nq gA eA := vnt f293 f133 (p := (1, 60)) (q := (1, 64)) rfl rfl (by decide)
                              have f295 : h134 gA = some (eJ D 60 g) := by rw [e135, hu_n n296]; exact f293
                              have n298 : nq gA fA := vnt f295 f138 (p := (1, 60)) (q := (1, 64)) rfl rfl (by decide)
                              have f297 : h139 gA = some (eJ D 60 g) := by rw [e140, hu_n n298]; exact f295
                              have n300 : nq qA cA := vnt rq rc (p := (0, 5)) (q := (1, 64)) rfl rfl (by decide)
                              have f299 : h109 qA = some (eI D 5 q) := by rw [e110, hu_n n300]; exact rq
                              have n302 : nq qA dA := vnt f299 f114 (p := (0, 5)) (q := (1, 64)) rfl rfl (by decide)
                              have f301 : h115 qA = some (eI D 5 q) := by rw [e116, hu_n n302]; exact f299
                              have n304 : nq qA aA := vnt f301 f119 (p := (0, 5)) (q := (1, 64)) rfl rfl (by decide)
                              have f303 : h122 qA = some (eI D 5 q) := by rw [e123, hu_n n304]; exact f301
                              have n306 : nq qA bA := vnt f303 f126 (p := (0, 5)) (q := (1, 64)) rfl rfl (by decide)
                              have f305 : h129 qA = some (eI D 5 q) := by rw [e130, hu_n n306]; exact f303
                              have n308 : nq qA eA := vnt f305 f133 (p := (0, 5)) (q := (1, 64)) rfl rfl (by decide)
                              have f307 : h134 qA = some (eI D 5 q) := by rw [e135, hu_n n308]; exact f305
                              have n310 : nq qA fA := vnt f307 f138 (p := (0, 5)) (q := (1, 64)) rfl rfl (by decide)
                              have f309 : h139 qA = some (eI D 5 q) := by rw [e140, hu_n n310]; exact f307
                              have f311 : h129 aA = some (eJ D 64 (vp_updL (upN (fun j => a1 j ||| e1 j) a1 k) (Int.toNat (((k : Nat) : Int))) ((a1 k) ||| (e1 k)))) := by rw [e130, hu_n nab]; exact f124
                              have f312 : h134 aA = some (eJ D 64 (vp_updL (upN (fun j => a1 j ||| e1 j) a1 k) (Int.toNat (((k : Nat) : Int))) ((a1 k) ||| (e1 k)))) := by rw [e135, hu_n nae]; exact f311
                              have f313 : h139 aA = some (eJ D 64 (vp_updL (upN (fun j => a1 j ||| e1 j) a1 k) (Int.toNat (((k : Nat) : Int))) ((a1 k) ||| (e1 k)))) := by rw [e140, hu_n naf]; exact f312
                              have f314 : h134 bA = some (eJ D 64 (vp_updL (upN (fun j => b1 j ||| f1 j) b1 k) (Int.toNat (((k : Nat) : Int))) ((b1 k) ||| (f1 k)))) := by rw [e135, hu_n nbe]; exact f131
                              have f315 : h139 bA = some (eJ D 64 (vp_updL (upN (fun j => b1 j ||| f1 j) b1 k) (Int.toNat (((k : Nat) : Int))) ((b1 k) ||| (f1 k)))) := by rw [e140, hu_n nbf]; exact f314
                              have f316 : h139 eA = some (eJ D 64 (vp_updL (upN (fun _ => (0 : Int64)) e1 k) (Int.toNat (((k : Nat) : Int))) 0)) := by rw [e140, hu_n nef]; exact f136
                              have n318 : nq mA cA := vnt rm rc (p := (1, 2)) (q := (1, 64)) rfl rfl (by decide)
                              have f317 : h109 mA = some (eJ D 2 m1) := by rw [e110, hu_n n318]; exact rm
                              have n320 : nq mA dA := vnt f317 f114 (p := (1, 2)) (q := (1, 64)) rfl rfl (by decide)
                              have f319 : h115 mA = some (eJ D 2 m1) := by rw [e116, hu_n n320]; exact f317
                              have n322 : nq mA aA := vnt f319 f119 (p := (1, 2)) (q := (1, 64)) rfl rfl (by decide)
                              have f321 : h122 mA = some (eJ D 2 m1) := by rw [e123, hu_n n322]; exact f319
                              have n324 : nq mA bA := vnt f321 f126 (p := (1, 2)) (q := (1, 64)) rfl rfl (by decide)
                              have f323 : h129 mA = some (eJ D 2 m1) := by rw [e130, hu_n n324]; exact f321
                              have f325 : h134 mA = some (eJ D 2 m1) := by rw [e135, hu_n (Ne.symm n25)]; exact f323
                              have f326 : h139 mA = some (eJ D 2 m1) := by rw [e140, hu_n (Ne.symm n29)]; exact f325
                              exact ihRL (k + 1) 1 h139 f297 f309 (by have q9 := f313; rw [show vp_updL (upN (fun j => a1 j ||| e1 j) a1 k) (Int.toNat ((k : Nat) : Int)) (a1 k ||| e1 k) = upN (fun j => a1 j ||| e1 j) a1 (k + 1) from upN_s rfl] at q9; exact q9) (by have q9 := f315; rw [show vp_updL (upN (fun j => b1 j ||| f1 j) b1 k) (Int.toNat ((k : Nat) : Int)) (b1 k ||| f1 k) = upN (fun j => b1 j ||| f1 j) b1 (k + 1) from upN_s rfl] at q9; exact q9) (by have q9 := f196; rw [show vp_updL (upN (fun j => e1 j &&& (a1 j ^^^ (-1))) c1 k) (Int.toNat ((k : Nat) : Int)) (e1 k &&& (a1 k ^^^ (-1))) = upN (fun j => e1 j &&& (a1 j ^^^ (-1))) c1 (k + 1) from upN_s rfl] at q9; exact q9) (by have q9 := f245; rw [show vp_updL (upN (fun j => f1 j &&& (b1 j ^^^ (-1))) d1 k) (Int.toNat ((k : Nat) : Int)) (f1 k &&& (b1 k ^^^ (-1))) = upN (fun j => f1 j &&& (b1 j ^^^ (-1))) d1 (k + 1) from upN_s rfl] at q9; exact q9) (by have q9 := f316; rw [show vp_updL (upN (fun _ => (0 : Int64)) e1 k) (Int.toNat ((k : Nat) : Int)) (0) = upN (fun _ => (0 : Int64)) e1 (k + 1) from upN_s rfl] at q9; exact q9) (by have q9 := f141; rw [show vp_updL (upN (fun _ => (0 : Int64)) f1 k) (Int.toNat ((k : Nat) : Int)) (0) = upN (fun _ => (0 : Int64)) f1 (k + 1) from upN_s rfl] at q9; exact q9) f326 (by omega) (by omega) (by first | exact g2_old hg2 (by assumption) | exact g2_new (Or.inl (by assumption)) | exact g2_new (Or.inr (by assumption)) | exact g2_no hg2 (by omega) (fun z9 => z9.elim (fun y9 => y9 (by assumption)) (fun y9 => y9 (by assumption)))) (fun b9 y1 y2 y3 y4 y5 y6 y7 => by first | exact hfr b9 y1 y2 y3 y4 y5 y6 y7 | (rw [e140, e135, e130, e123, e116, e110]; simp only [hu_n y1, hu_n y2, hu_n y3, hu_n y4, hu_n y5, hu_n y6, hu_n y7]; exact hfr b9 y1 y2 y3 y4 y5 y6 y7))
                  exact RL (65) 0 0 h38 ug uq (by have q9 := ua; rw [← upN_0 (f := (fun j => a1 j ||| e1 j)) (g := a1)] at q9; exact q9) (by have q9 := ub; rw [← upN_0 (f := (fun j => b1 j ||| f1 j)) (g := b1)] at q9; exact q9) (by have q9 := uc; rw [← upN_0 (f := (fun j => e1 j &&& (a1 j ^^^ (-1)))) (g := c1)] at q9; exact q9) (by have q9 := ud; rw [← upN_0 (f := (fun j => f1 j &&& (b1 j ^^^ (-1)))) (g := d1)] at q9; exact q9) (by have q9 := ue; rw [← upN_0 (f := (fun _ => (0 : Int64))) (g := e1)] at q9; exact q9) (by have q9 := uf; rw [← upN_0 (f := (fun _ => (0 : Int64))) (g := f1)] at q9; exact q9) um (by omega) (by omega) (⟨Or.inl rfl, fun q9 => absurd q9 (by decide), fun q9 => by obtain ⟨j, j1, _⟩ := q9; omega⟩) (fun b9 y1 y2 y3 y4 y5 y6 y7 => by first | exact hfr b9 y1 y2 y3 y4 y5 y6 y7 | (rw []; simp only [hu_n y1, hu_n y2, hu_n y3, hu_n y4, hu_n y5, hu_n y6, hu_n y7]; exact hfr b9 y1 y2 y3 y4 y5 y6 y7))
            refine x_sub [0, 1, 2, 3, 4, 5, 6, 7, 8, 9, 10, 11, 13, 14, 15] (ls' := [(0, vI z), (1, vI o), (2, .ref qA), (3, .ref gA), (4, .ref aA), (5, .ref bA), (6, .ref cA), (7, .ref dA), (8, .ref eA), (9, .ref fA), (10, .ref mA), (11, vI ((al : Nat) : Int)), (13, vI (-1)), (14, vI 1), (15, vI 1)]) rfl ?_
            have n328 : nq gA mA := vnt zg zm (p := (1, 60)) (q := (1, 2)) rfl rfl (by decide)
            have f327 : h13 gA = some (eJ D 60 g) := by rw [e14, hu_n n328]; exact zg
            have f329 : h16 gA = some (eJ D 60 g) := by rw [e17, hu_n n328]; exact f327
            have f330 : h20 gA = some (eJ D 60 g) := by rw [e21, hu_n n328]; exact f329
            have n332 : nq gA fA := vnt f330 f31 (p := (1, 60)) (q := (1, 64)) rfl rfl (by decide)
            have n333 : nq gA eA := vnt f330 f27 (p := (1, 60)) (q := (1, 64)) rfl rfl (by decide)
            have f331 : h33 gA = some (eJ D 60 g) := by rw [e35, hu_n n332, hu_n n333]; exact f330
            have n335 : nq qA mA := vnt zq zm (p := (0, 5)) (q := (1, 2)) rfl rfl (by decide)
            have f334 : h13 qA = some (eI D 5 q) := by rw [e14, hu_n n335]; exact zq
            have f336 : h16 qA = some (eI D 5 q) := by rw [e17, hu_n n335]; exact f334
            have f337 : h20 qA = some (eI D 5 q) := by rw [e21, hu_n n335]; exact f336
            have n339 : nq qA fA := vnt f337 f31 (p := (0, 5)) (q := (1, 64)) rfl rfl (by decide)
            have n340 : nq qA eA := vnt f337 f27 (p := (0, 5)) (q := (1, 64)) rfl rfl (by decide)
            have f338 : h33 qA = some (eI D 5 q) := by rw [e35, hu_n n339, hu_n n340]; exact f337
            have n342 : nq aA mA := vnt za zm (p := (1, 64)) (q := (1, 2)) rfl rfl (by decide)
            have f341 : h13 aA = some (eJ D 64 (upN (fun _ => (0 : Int64)) a k)) := by rw [e14, hu_n n342]; exact za
            have f343 : h16 aA = some (eJ D 64 (upN (fun _ => (0 : Int64)) a k)) := by rw [e17, hu_n n342]; exact f341
            have f344 : h20 aA = some (eJ D 64 (upN (fun _ => (0 : Int64)) a k)) := by rw [e21, hu_n n342]; exact f343
            have f345 : h33 aA = some (eJ D 64 (upN (fun _ => (0 : Int64)) a k)) := by rw [e35, hu_n naf, hu_n nae]; exact f344
            have n347 : nq bA mA := vnt zb zm (p := (1, 64)) (q := (1, 2)) rfl rfl (by decide)
            have f346 : h13 bA = some (eJ D 64 (upN (fun _ => (0 : Int64)) b k)) := by rw [e14, hu_n n347]; exact zb
            have f348 : h16 bA = some (eJ D 64 (upN (fun _ => (0 : Int64)) b k)) := by rw [e17, hu_n n347]; exact f346
            have f349 : h20 bA = some (eJ D 64 (upN (fun _ => (0 : Int64)) b k)) := by rw [e21, hu_n n347]; exact f348
            have f350 : h33 bA = some (eJ D 64 (upN (fun _ => (0 : Int64)) b k)) := by rw [e35, hu_n nbf, hu_n nbe]; exact f349
            have n352 : nq cA mA := vnt zc zm (p := (1, 64)) (q := (1, 2)) rfl rfl (by decide)
            have f351 : h13 cA = some (eJ D 64 c) := by rw [e14, hu_n n352]; exact zc
            have f353 : h16 cA = some (eJ D 64 c) := by rw [e17, hu_n n352]; exact f351
            have f354 : h20 cA = some (eJ D 64 c) := by rw [e21, hu_n n352]; exact f353
            have f355 : h33 cA = some (eJ D 64 c) := by rw [e35, hu_n ncf, hu_n nce]; exact f354
            have n357 : nq dA mA := vnt zd zm (p := (1, 64)) (q := (1, 2)) rfl rfl (by decide)
            have f356 : h13 dA = some (eJ D 64 d) := by rw [e14, hu_n n357]; exact zd
            have f358 : h16 dA = some (eJ D 64 d) := by rw [e17, hu_n n357]; exact f356
            have f359 : h20 dA = some (eJ D 64 d) := by rw [e21, hu_n n357]; exact f358
            have f360 : h33 dA = some (eJ D 64 d) := by rw [e35, hu_n ndf, hu_n nde]; exact f359
            have f361 : h33 mA = some (eJ D 2 (vp_updL (vp_updL (vp_updL m (Int.toNat 0) 0) (Int.toNat 1) 0) (Int.toNat (((z.toNat / 48 : Nat) : Int))) (lsl 1 (((z.toNat % 48 : Nat) : Int))))) := by rw [e35, hu_n (Ne.symm n29), hu_n (Ne.symm n25)]; exact f22
            exact ML (6147) 0 ((-1)) 1 1 (upN (fun _ => (0 : Int64)) a k) (upN (fun _ => (0 : Int64)) b k) c d (mkL (upN (fun _ => (0 : Int64)) e k) ((cd x0))) (mkH (upN (fun _ => (0 : Int64)) f k) ((cd x0))) (vp_updL (vp_updL (vp_updL m (Int.toNat 0) 0) (Int.toNat 1) 0) (Int.toNat (((z.toNat / 48 : Nat) : Int))) (lsl 1 (((z.toNat % 48 : Nat) : Int)))) h33 f331 f338 f345 f350 f355 f360 f37 f36 f361 (⟨by omega, by omega⟩) (by have q8 : k = 64 := (by omega); subst q8; exact BS.z (by omega) (fun n hn => fun q9 => Mk_0 (Mk_up.mp q9)) (fun n hn => (Mk_mk hcl hn).trans ⟨fun q9 => q9.elim (fun y9 => absurd (Mk_up.mp y9) Mk_0) id, Or.inr⟩) (fun z9 hz9 => (Ms_1 (by omega) hz9).trans (by rw [hx0z]; omega)) (Cl_mk hcl (Cl_up Cl_0))) (Or.inr ⟨rfl, by omega, by omega⟩) (fun b9 y1 y2 y3 y4 y5 y6 y7 => by first | exact hfr b9 y1 y2 y3 y4 y5 y6 y7 | (rw [e35, e21, e17, e14]; simp only [hu_n y1, hu_n y2, hu_n y3, hu_n y4, hu_n y5, hu_n y6, hu_n y7]; exact hfr b9 y1 y2 y3 y4 y5 y6 y7))
          · skip
            refine x_iconst C dL_search_97 0 (by decide) ?_
            refine x_iret C G dL_search_98 ?_ (by decide) (by decide)
            have n363 : nq aA mA := vnt za zm (p := (1, 64)) (q := (1, 2)) rfl rfl (by decide)
            have f362 : h13 aA = some (eJ D 64 (upN (fun _ => (0 : Int64)) a k)) := by rw [e14, hu_n n363]; exact za
            have f364 : h16 aA = some (eJ D 64 (upN (fun _ => (0 : Int64)) a k)) := by rw [e17, hu_n n363]; exact f362
            have f365 : h20 aA = some (eJ D 64 (upN (fun _ => (0 : Int64)) a k)) := by rw [e21, hu_n n363]; exact f364
            have n367 : nq bA mA := vnt zb zm (p := (1, 64)) (q := (1, 2)) rfl rfl (by decide)
            have f366 : h13 bA = some (eJ D 64 (upN (fun _ => (0 : Int64)) b k)) := by rw [e14, hu_n n367]; exact zb
            have f368 : h16 bA = some (eJ D 64 (upN (fun _ => (0 : Int64)) b k)) := by rw [e17, hu_n n367]; exact f366
            have f369 : h20 bA = some (eJ D 64 (upN (fun _ => (0 : Int64)) b k)) := by rw [e21, hu_n n367]; exact f368
            have n371 : nq cA mA := vnt zc zm (p := (1, 64)) (q := (1, 2)) rfl rfl (by decide)
            have f370 : h13 cA = some (eJ D 64 c) := by rw [e14, hu_n n371]; exact zc
            have f372 : h16 cA = some (eJ D 64 c) := by rw [e17, hu_n n371]; exact f370
            have f373 : h20 cA = some (eJ D 64 c) := by rw [e21, hu_n n371]; exact f372
            have n375 : nq dA mA := vnt zd zm (p := (1, 64)) (q := (1, 2)) rfl rfl (by decide)
            have f374 : h13 dA = some (eJ D 64 d) := by rw [e14, hu_n n375]; exact zd
            have f376 : h16 dA = some (eJ D 64 d) := by rw [e17, hu_n n375]; exact f374
            have f377 : h20 dA = some (eJ D 64 d) := by rw [e21, hu_n n375]; exact f376
            have n379 : nq eA mA := vnt ze zm (p := (1, 64)) (q := (1, 2)) rfl rfl (by decide)
            have f378 : h13 eA = some (eJ D 64 (upN (fun _ => (0 : Int64)) e k)) := by rw [e14, hu_n n379]; exact ze
            have f380 : h16 eA = some (eJ D 64 (upN (fun _ => (0 : Int64)) e k)) := by rw [e17, hu_n n379]; exact f378
            have f381 : h20 eA = some (eJ D 64 (upN (fun _ => (0 : Int64)) e k)) := by rw [e21, hu_n n379]; exact f380
            have n383 : nq fA mA := vnt zf zm (p := (1, 64)) (q := (1, 2)) rfl rfl (by decide)
            have f382 : h13 fA = some (eJ D 64 (upN (fun _ => (0 : Int64)) f k)) := by rw [e14, hu_n n383]; exact zf
            have f384 : h16 fA = some (eJ D 64 (upN (fun _ => (0 : Int64)) f k)) := by rw [e17, hu_n n383]; exact f382
            have f385 : h20 fA = some (eJ D 64 (upN (fun _ => (0 : Int64)) f k)) := by rw [e21, hu_n n383]; exact f384
            have hs3 : x0.2.2.2 = 2 := by omega
            have hF9 := FS_won (T := (TTr (gk g o.toNat) (kbr (gk g o.toNat) (fun _ => 0)) (lyA (gk g o.toNat) 96) S)) hs3
            rw [hx0z, hxx] at hF9
            exact ⟨_, _, _, _, _, _, _, _, rfl, ⟨f365, f369, f373, f377, f381, f385, f22⟩, fun b9 y1 y2 y3 y4 y5 y6 y7 => by first | exact hfr b9 y1 y2 y3 y4 y5 y6 y7 | (rw [e21, e17, e14]; simp only [hu_n y1, hu_n y2, hu_n y3, hu_n y4, hu_n y5, hu_n y6, hu_n y7]; exact hfr b9 y1 y2 y3 y4 y5 y6 y7), by omega, hF9.1, fun z9 hz9 => (Ms_1 (by omega) hz9).trans (Iff.trans (by omega) (hF9.2 _).symm)⟩
        · skip
          refine x_iconst C dL_search_74 (-1) (by decide) ?_
          refine x_iret C G dL_search_75 ?_ (by decide) (by decide)
          have n387 : nq aA mA := vnt za zm (p := (1, 64)) (q := (1, 2)) rfl rfl (by decide)
          have f386 : h13 aA = some (eJ D 64 (upN (fun _ => (0 : Int64)) a k)) := by rw [e14, hu_n n387]; exact za
          have f388 : h16 aA = some (eJ D 64 (upN (fun _ => (0 : Int64)) a k)) := by rw [e17, hu_n n387]; exact f386
          have n390 : nq bA mA := vnt zb zm (p := (1, 64)) (q := (1, 2)) rfl rfl (by decide)
          have f389 : h13 bA = some (eJ D 64 (upN (fun _ => (0 : Int64)) b k)) := by rw [e14, hu_n n390]; exact zb
          have f391 : h16 bA = some (eJ D 64 (upN (fun _ => (0 : Int64)) b k)) := by rw [e17, hu_n n390]; exact f389
          have n393 : nq cA mA := vnt zc zm (p := (1, 64)) (q := (1, 2)) rfl rfl (by decide)
          have f392 : h13 cA = some (eJ D 64 c) := by rw [e14, hu_n n393]; exact zc
          have f394 : h16 cA = some (eJ D 64 c) := by rw [e17, hu_n n393]; exact f392
          have n396 : nq dA mA := vnt zd zm (p := (1, 64)) (q := (1, 2)) rfl rfl (by decide)
          have f395 : h13 dA = some (eJ D 64 d) := by rw [e14, hu_n n396]; exact zd
          have f397 : h16 dA = some (eJ D 64 d) := by rw [e17, hu_n n396]; exact f395
          have n399 : nq eA mA := vnt ze zm (p := (1, 64)) (q := (1, 2)) rfl rfl (by decide)
          have f398 : h13 eA = some (eJ D 64 (upN (fun _ => (0 : Int64)) e k)) := by rw [e14, hu_n n399]; exact ze
          have f400 : h16 eA = some (eJ D 64 (upN (fun _ => (0 : Int64)) e k)) := by rw [e17, hu_n n399]; exact f398
          have n402 : nq fA mA := vnt zf zm (p := (1, 64)) (q := (1, 2)) rfl rfl (by decide)
          have f401 : h13 fA = some (eJ D 64 (upN (fun _ => (0 : Int64)) f k)) := by rw [e14, hu_n n402]; exact zf
          have f403 : h16 fA = some (eJ D 64 (upN (fun _ => (0 : Int64)) f k)) := by rw [e17, hu_n n402]; exact f401
          have hs3 : x0.2.2.2 = 3 := by omega
          have hF9 := FS_lost (T := (TTr (gk g o.toNat) (kbr (gk g o.toNat) (fun _ => 0)) (lyA (gk g o.toNat) 96) S)) hs3
          rw [hxx] at hF9
          exact ⟨_, _, _, _, _, _, _, _, rfl, ⟨f388, f391, f394, f397, f400, f403, f18⟩, fun b9 y1 y2 y3 y4 y5 y6 y7 => by first | exact hfr b9 y1 y2 y3 y4 y5 y6 y7 | (rw [e17, e14]; simp only [hu_n y1, hu_n y2, hu_n y3, hu_n y4, hu_n y5, hu_n y6, hu_n y7]; exact hfr b9 y1 y2 y3 y4 y5 y6 y7), by omega, hF9.1, fun z9 hz9 => ⟨fun y9 => absurd y9 (Ms_0 hz9), fun y9 => absurd y9 (hF9.2 _)⟩⟩
      · skip
        refine x_aload C dL_search_27 4 rfl ?_
        refine x_iload C dL_search_29 13 rfl ?_
        refine x_lconst C (v := 0) dL_search_31 rfl ?_
        refine x_last C za ⟨by omega, by omega⟩ (by decide) dL_search_32 (x_hn (fun h404 e405 => ?_))
        have f406 : h404 aA = some (eJ D 64 (vp_updL (upN (fun _ => (0 : Int64)) a k) (Int.toNat (((k : Nat) : Int))) 0)) := by rw [e405]; exact hu_s
        refine x_aload C dL_search_33 5 rfl ?_
        refine x_iload C dL_search_35 13 rfl ?_
        refine x_lconst C (v := 0) dL_search_37 rfl ?_
        have f407 : h404 bA = some (eJ D 64 (upN (fun _ => (0 : Int64)) b k)) := by rw [e405, hu_n (Ne.symm nab)]; exact zb
        refine x_last C f407 ⟨by omega, by omega⟩ (by decide) dL_search_38 (x_hn (fun h408 e409 => ?_))
        have f410 : h408 bA = some (eJ D 64 (vp_updL (upN (fun _ => (0 : Int64)) b k) (Int.toNat (((k : Nat) : Int))) 0)) := by rw [e409]; exact hu_s
        refine x_aload C dL_search_39 8 rfl ?_
        refine x_iload C dL_search_41 13 rfl ?_
        refine x_lconst C (v := 0) dL_search_43 rfl ?_
        have f411 : h404 eA = some (eJ D 64 (upN (fun _ => (0 : Int64)) e k)) := by rw [e405, hu_n (Ne.symm nae)]; exact ze
        have f412 : h408 eA = some (eJ D 64 (upN (fun _ => (0 : Int64)) e k)) := by rw [e409, hu_n (Ne.symm nbe)]; exact f411
        refine x_last C f412 ⟨by omega, by omega⟩ (by decide) dL_search_44 (x_hn (fun h413 e414 => ?_))
        have f415 : h413 eA = some (eJ D 64 (vp_updL (upN (fun _ => (0 : Int64)) e k) (Int.toNat (((k : Nat) : Int))) 0)) := by rw [e414]; exact hu_s
        refine x_aload C dL_search_45 9 rfl ?_
        refine x_iload C dL_search_47 13 rfl ?_
        refine x_lconst C (v := 0) dL_search_49 rfl ?_
        have f416 : h404 fA = some (eJ D 64 (upN (fun _ => (0 : Int64)) f k)) := by rw [e405, hu_n (Ne.symm naf)]; exact zf
        have f417 : h408 fA = some (eJ D 64 (upN (fun _ => (0 : Int64)) f k)) := by rw [e409, hu_n (Ne.symm nbf)]; exact f416
        have f418 : h413 fA = some (eJ D 64 (upN (fun _ => (0 : Int64)) f k)) := by rw [e414, hu_n (Ne.symm nef)]; exact f417
        refine x_last C f418 ⟨by omega, by omega⟩ (by decide) dL_search_50 (x_hn (fun h419 e420 => ?_))
        have f421 : h419 fA = some (eJ D 64 (vp_updL (upN (fun _ => (0 : Int64)) f k) (Int.toNat (((k : Nat) : Int))) 0)) := by rw [e420]; exact hu_s
        refine x_iinc C (x := ((k : Nat) : Int)) (ls' := [(0, vI z), (1, vI o), (2, .ref qA), (3, .ref gA), (4, .ref aA), (5, .ref bA), (6, .ref cA), (7, .ref dA), (8, .ref eA), (9, .ref fA), (10, .ref mA), (11, vI ((al : Nat) : Int)), (12, vI bd), (13, vI ((((k : Nat) : Int)) + 1))]) dL_search_51 13 rfl (by decide) rfl ?_
        refine x_goto (tgt := 20) C dL_search_54 (by decide) ?_
        have n423 : nq gA aA := vnt zg za (p := (1, 60)) (q := (1, 64)) rfl rfl (by decide)
        have f422 : h404 gA = some (eJ D 60 g) := by rw [e405, hu_n n423]; exact zg
        have n425 : nq gA bA := vnt f422 f407 (p := (1, 60)) (q := (1, 64)) rfl rfl (by decide)
        have f424 : h408 gA = some (eJ D 60 g) := by rw [e409, hu_n n425]; exact f422
        have n427 : nq gA eA := vnt f424 f412 (p := (1, 60)) (q := (1, 64)) rfl rfl (by decide)
        have f426 : h413 gA = some (eJ D 60 g) := by rw [e414, hu_n n427]; exact f424
        have n429 : nq gA fA := vnt f426 f418 (p := (1, 60)) (q := (1, 64)) rfl rfl (by decide)
        have f428 : h419 gA = some (eJ D 60 g) := by rw [e420, hu_n n429]; exact f426
        have n431 : nq qA aA := vnt zq za (p := (0, 5)) (q := (1, 64)) rfl rfl (by decide)
        have f430 : h404 qA = some (eI D 5 q) := by rw [e405, hu_n n431]; exact zq
        have n433 : nq qA bA := vnt f430 f407 (p := (0, 5)) (q := (1, 64)) rfl rfl (by decide)
        have f432 : h408 qA = some (eI D 5 q) := by rw [e409, hu_n n433]; exact f430
        have n435 : nq qA eA := vnt f432 f412 (p := (0, 5)) (q := (1, 64)) rfl rfl (by decide)
        have f434 : h413 qA = some (eI D 5 q) := by rw [e414, hu_n n435]; exact f432
        have n437 : nq qA fA := vnt f434 f418 (p := (0, 5)) (q := (1, 64)) rfl rfl (by decide)
        have f436 : h419 qA = some (eI D 5 q) := by rw [e420, hu_n n437]; exact f434
        have f438 : h408 aA = some (eJ D 64 (vp_updL (upN (fun _ => (0 : Int64)) a k) (Int.toNat (((k : Nat) : Int))) 0)) := by rw [e409, hu_n nab]; exact f406
        have f439 : h413 aA = some (eJ D 64 (vp_updL (upN (fun _ => (0 : Int64)) a k) (Int.toNat (((k : Nat) : Int))) 0)) := by rw [e414, hu_n nae]; exact f438
        have f440 : h419 aA = some (eJ D 64 (vp_updL (upN (fun _ => (0 : Int64)) a k) (Int.toNat (((k : Nat) : Int))) 0)) := by rw [e420, hu_n naf]; exact f439
        have f441 : h413 bA = some (eJ D 64 (vp_updL (upN (fun _ => (0 : Int64)) b k) (Int.toNat (((k : Nat) : Int))) 0)) := by rw [e414, hu_n nbe]; exact f410
        have f442 : h419 bA = some (eJ D 64 (vp_updL (upN (fun _ => (0 : Int64)) b k) (Int.toNat (((k : Nat) : Int))) 0)) := by rw [e420, hu_n nbf]; exact f441
        have f443 : h404 cA = some (eJ D 64 c) := by rw [e405, hu_n (Ne.symm nac)]; exact zc
        have f444 : h408 cA = some (eJ D 64 c) := by rw [e409, hu_n (Ne.symm nbc)]; exact f443
        have f445 : h413 cA = some (eJ D 64 c) := by rw [e414, hu_n nce]; exact f444
        have f446 : h419 cA = some (eJ D 64 c) := by rw [e420, hu_n ncf]; exact f445
        have f447 : h404 dA = some (eJ D 64 d) := by rw [e405, hu_n (Ne.symm nad)]; exact zd
        have f448 : h408 dA = some (eJ D 64 d) := by rw [e409, hu_n (Ne.symm nbd)]; exact f447
        have f449 : h413 dA = some (eJ D 64 d) := by rw [e414, hu_n nde]; exact f448
        have f450 : h419 dA = some (eJ D 64 d) := by rw [e420, hu_n ndf]; exact f449
        have f451 : h419 eA = some (eJ D 64 (vp_updL (upN (fun _ => (0 : Int64)) e k) (Int.toNat (((k : Nat) : Int))) 0)) := by rw [e420, hu_n nef]; exact f415
        have n453 : nq mA aA := vnt zm za (p := (1, 2)) (q := (1, 64)) rfl rfl (by decide)
        have f452 : h404 mA = some (eJ D 2 m) := by rw [e405, hu_n n453]; exact zm
        have n455 : nq mA bA := vnt f452 f407 (p := (1, 2)) (q := (1, 64)) rfl rfl (by decide)
        have f454 : h408 mA = some (eJ D 2 m) := by rw [e409, hu_n n455]; exact f452
        have n457 : nq mA eA := vnt f454 f412 (p := (1, 2)) (q := (1, 64)) rfl rfl (by decide)
        have f456 : h413 mA = some (eJ D 2 m) := by rw [e414, hu_n n457]; exact f454
        have n459 : nq mA fA := vnt f456 f418 (p := (1, 2)) (q := (1, 64)) rfl rfl (by decide)
        have f458 : h419 mA = some (eJ D 2 m) := by rw [e420, hu_n n459]; exact f456
        exact ihZL (k + 1) bd h419 f428 f436 (by have q9 := f440; rw [show vp_updL (upN (fun _ => (0 : Int64)) a k) (Int.toNat ((k : Nat) : Int)) (0) = upN (fun _ => (0 : Int64)) a (k + 1) from upN_s rfl] at q9; exact q9) (by have q9 := f442; rw [show vp_updL (upN (fun _ => (0 : Int64)) b k) (Int.toNat ((k : Nat) : Int)) (0) = upN (fun _ => (0 : Int64)) b (k + 1) from upN_s rfl] at q9; exact q9) f446 f450 (by have q9 := f451; rw [show vp_updL (upN (fun _ => (0 : Int64)) e k) (Int.toNat ((k : Nat) : Int)) (0) = upN (fun _ => (0 : Int64)) e (k + 1) from upN_s rfl] at q9; exact q9) (by have q9 := f421; rw [show vp_updL (upN (fun _ => (0 : Int64)) f k) (Int.toNat ((k : Nat) : Int)) (0) = upN (fun _ => (0 : Int64)) f (k + 1) from upN_s rfl] at q9; exact q9) f458 (by omega) (by omega) (hbd) (fun b9 y1 y2 y3 y4 y5 y6 y7 => by first | exact hfr b9 y1 y2 y3 y4 y5 y6 y7 | (rw [e420, e414, e409, e405]; simp only [hu_n y1, hu_n y2, hu_n y3, hu_n y4, hu_n y5, hu_n y6, hu_n y7]; exact hfr b9 y1 y2 y3 y4 y5 y6 y7))
  exact ZL (65) 0 x9 h hg hq (by have q9 := ha; rw [← upN_0 (f := (fun _ => (0 : Int64))) (g := a)] at q9; exact q9) (by have q9 := hb; rw [← upN_0 (f := (fun _ => (0 : Int64))) (g := b)] at q9; exact q9) hc hd (by have q9 := he; rw [← upN_0 (f := (fun _ => (0 : Int64))) (g := e)] at q9; exact q9) (by have q9 := hf; rw [← upN_0 (f := (fun _ => (0 : Int64))) (g := f)] at q9; exact q9) hm (by omega) (by omega) (hx2) (fun _ _ _ _ _ _ _ _ => rfl)


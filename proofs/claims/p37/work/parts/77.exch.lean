/-! ===== the exchange ===== -/
theorem cpw {g g2 : Nat → Int64} {a b i : Nat} (h : ∀ j, g2 j = if a ≤ j ∧ j < a + i then g (j - a + b) else g j) : ∀ j, vp_updL g2 (a + i) (g (b + i)) j = if a ≤ j ∧ j < a + (i + 1) then g (j - a + b) else g j := fun j => by
  show (if j = a + i then g (b + i) else g2 j) = _
  by_cases q : j = a + i
  · rw [if_pos q, if_pos (by omega), q, show a + i - a + b = b + i by omega]
  · rw [if_neg q, h j]
    by_cases r : a ≤ j ∧ j < a + i
    · rw [if_pos r, if_pos (by omega)]
    · rw [if_neg r, if_neg (by omega)]
theorem cpw_a {g g2 : Nat → Int64} {a b : Nat} (h : ∀ j, g2 j = if a ≤ j ∧ j < a + 6 then g (j - a + b) else g j) : ∀ z, z < 96 → gk g2 a z = gk g b z := fun z hz => by
  unfold gk
  rw [if_pos hz, if_pos hz, h, if_pos (by omega), show a + z / 16 - a + b = b + z / 16 by omega]
theorem cpw_o {g g2 : Nat → Int64} {a b o : Nat} (h : ∀ j, g2 j = if a ≤ j ∧ j < a + 6 then g (j - a + b) else g j) (ho : o + 6 ≤ a ∨ a + 6 ≤ o) : ∀ z, z < 96 → gk g2 o z = gk g o z := fun z hz => by
  unfold gk
  rw [if_pos hz, if_pos hz, h, if_neg (by omega)]
theorem Sy.hr {D : va_G} {x t L W : Nat} {ar : Nat → Nat} {m : CS} {h : vh} {q : Nat → Int} {g : Nat → Int64} {l0 u v n w p r : Nat → Int} (hS : Sy D x ar m L W t h) (hP : PK m L W q g l0 u v n w p r) : ∀ y, y < 3 → m 22 0 y = 1 → 0 ≤ m 23 0 y ∧ m 23 0 y < (W : Int) := fun y hy hs => by
  obtain ⟨h1, h2, _⟩ := hS.run hP hy
  obtain ⟨k1, k2, _⟩ := hP.2.2.2.2.2.2 y hy
  have := h2.2.2 (by omega)
  omega
theorem Sy.st {D : va_G} {x t L W : Nat} {ar : Nat → Nat} {m : CS} {h : vh} (hS : Sy D x ar m L W t h) {i y : Nat} (hi : i < W) (hy : y < 6) : 0 ≤ m 21 0 (6 * i + y) ∧ m 21 0 (6 * i + y) ≤ 5 := by
  obtain ⟨ad, c, hR, hx, hC, hs, hB, hn⟩ := hS
  rw [(hs.2.2.2.1 i hi).2.2.2.2.2.2.1 y hy]
  exact (hC.2.2.2.1 i hi).2.2.2.2.2.2.2 y

set_option maxRecDepth 100000 in
set_option maxHeartbeats 4000000 in
theorem c_L_exchange0 {l : Launch} {D : va_G} {A : Nat → Prop} {h : vh} {x t L W : Nat} {ar : Nat → Nat} {m : CS} {g : Nat → Int64} {q l0 u v n w p r : Nat → Int} {zz : Int32} (hq : h (ar 0) = some (eI D 5 q)) (hg : h (ar 1) = some (eJ D 60 g)) (hl0 : h (ar 2) = some (eI D 20 l0)) (hu : h (ar 3) = some (eI D 60 u)) (hv : h (ar 4) = some (eI D 60 v)) (hn : h (ar 5) = some (eI D 10 n)) (hw : h (ar 6) = some (eI D 25 w)) (hp : h (ar 7) = some (eI D 15 p)) (hr : h (ar 8) = some (eI D 18 r)) (hai : ∀ i j, i < 16 → j < 16 → ar i = ar j → i = j) (hSy : Sy D x ar m L W t h) (hEX : EX m) (hPK : PK m L W q g l0 u v n w p r) (hSC : SC D ar h) (hL : 0 < L) : HX l D A yL_exchange wsL_exchange { frames := 9, cells := 6, slots := 122, locals := 159 } [.ref x, vI 0, .int zz, .ref (ar 0), .ref (ar 1), .ref (ar 2), .ref (ar 6), .ref (ar 7)] h (fun rv h' => rv = some (vI 1) ∧ WD D x ar (t + 1) h') := by
  refine HX.ofc (cc := cL_exchange) (maxL := 12) (ret := (some .boolean)) [(0, .ref x), (1, vI 0), (2, .int zz), (3, .ref (ar 0)), (4, .ref (ar 1)), (5, .ref (ar 2)), (6, .ref (ar 6)), (7, .ref (ar 7))] (by decide +kernel) rfl rfl (Nat.le_of_ble_eq_true rfl) ?_
  intro κ C hkl G kn
  subst hkl
  have C : CX κ "LedgeLevelsLaw" "exchange" cL_exchange wsL_exchange { frames := 9, cells := 6, slots := 122, locals := 159 } D A 12 := C
  have hiz : nq (D.1 20) (D.1 21) := cx_iz C
  obtain ⟨⟨hL5, hW5, hq0, hq1⟩, hqs, hPL, hPN, hPW, hPU, hPP⟩ := id hPK
  have hEB := hSy.eb hPK
  obtain ⟨hz8, hz21, hm2, hm14⟩ := hSy.zero
  obtain ⟨k, hk⟩ : ∃ k : Nat, k = lowF zz ((L : Nat) : Int) := ⟨_, rfl⟩
  have hkL : k < L := by
    have := lowF_lt (v := zz) (n := ((L : Nat) : Int)) (by omega)
    omega
  obtain ⟨hA7, hf8, hst, hpr, hau⟩ := hSy.lev hPK hkL
  obtain ⟨k1, k2, k3, k4, k5, _⟩ := hPL k hkL
  have e4 : ∀ y : Nat, y < 4 → Int.toNat (4 * ((k : Nat) : Int) + ((y : Nat) : Int)) = 4 * k + y := fun y hy => by omega
  refine x_iload_n C dL_exchange_0 1 rfl ?_
  refine x_if_ne (tgt := 195) C dL_exchange_1 (by decide) (by omega) (fun c1 => ?_) (fun c1 => ?_)
  · exfalso; omega
  · skip
    refine x_iload_n C dL_exchange_4 2 rfl ?_
    refine x_aload_n C dL_exchange_5 3 rfl ?_
    refine x_iconst C dL_exchange_6 0 (by decide) ?_
    refine x_iald C hq ⟨by omega, by omega⟩ (by decide) dL_exchange_7 ?_
    refine x_topv (show q (Int.toNat 0) = ((L : Nat) : Int) from by exact hq0) ?_
    refine x_callSJ C (n := 2) (As := [.int zz, vI ((L : Nat) : Int)]) (rest := []) (c_L_low (by omega)) gL_exchange_L_low (by decide +kernel) rfl rfl rfl (Nat.le_of_ble_eq_true rfl) ⟨by decide, by decide⟩ ⟨(by decide), (by decide)⟩ dL_exchange_8 (fun rv2 h3 hp4 => ?_)
    obtain ⟨rfl, e5, hr_8⟩ := hp4
    obtain rfl := e5.symm
    refine x_topv (show ((lowF zz (((L : Nat) : Int)) : Nat) : Int) = ((k : Nat) : Int) from by rw [hk]) ?_
    refine x_istore C (ls' := [(0, .ref x), (1, vI 0), (2, .int zz), (3, .ref (ar 0)), (4, .ref (ar 1)), (5, .ref (ar 2)), (6, .ref (ar 6)), (7, .ref (ar 7)), (8, vI ((k : Nat) : Int))]) dL_exchange_11 (by decide) rfl ?_
    refine x_aload C dL_exchange_13 5 rfl ?_
    refine x_iconst C dL_exchange_15 4 (by decide) ?_
    refine x_iload C dL_exchange_16 8 rfl ?_
    refine x_imul C dL_exchange_18 ?_
    refine x_iconst C dL_exchange_19 2 (by decide) ?_
    refine x_iadd C dL_exchange_20 ?_
    refine x_iald C hl0 ⟨by omega, by omega⟩ (by decide) dL_exchange_21 ?_
    refine x_topv (show l0 (Int.toNat ((4 * (((k : Nat) : Int))) + 2)) = l0 (4 * k + 2) from by rw [show Int.toNat (4 * ((k : Nat) : Int) + 2) = 4 * k + 2 by omega]) ?_
    refine x_if_ge (tgt := 30) C dL_exchange_22 (by decide) (by omega) (fun c6 => ?_) (fun c6 => ?_)
    · skip
      refine x_aload_n C dL_exchange_30 3 rfl ?_
      refine x_iconst C dL_exchange_31 1 (by decide) ?_
      refine x_iald C hq ⟨by omega, by omega⟩ (by decide) dL_exchange_32 ?_
      refine x_topv (show q (Int.toNat 1) = ((W : Nat) : Int) from by exact hq1) ?_
      refine x_istore C (ls' := [(0, .ref x), (1, vI 0), (2, .int zz), (3, .ref (ar 0)), (4, .ref (ar 1)), (5, .ref (ar 2)), (6, .ref (ar 6)), (7, .ref (ar 7)), (8, vI ((k : Nat) : Int)), (9, vI ((W : Nat) : Int))]) dL_exchange_33 (by decide) rfl ?_
      refine x_aload_n C dL_exchange_35 3 rfl ?_
      refine x_iconst C dL_exchange_36 1 (by decide) ?_
      refine x_iald C hq ⟨by omega, by omega⟩ (by decide) dL_exchange_37 ?_
      refine x_topv (show q (Int.toNat 1) = ((W : Nat) : Int) from by exact hq1) ?_
      refine x_iconst C dL_exchange_38 5 (by decide) ?_
      refine x_icmp_ne (tgt := 44) C dL_exchange_39 (by decide) (by omega) (by omega) (fun c7 => ?_) (fun c7 => ?_)
      · skip
        refine x_iload C dL_exchange_44 9 rfl ?_
        refine x_if_lt (tgt := 175) C dL_exchange_46 (by decide) (by omega) (fun c8 => ?_) (fun c8 => ?_)
        · skip
          refine x_aload_n C dL_exchange_175 0 rfl ?_
          refine x_iconst C dL_exchange_176 3 (by decide) ?_
          refine x_iload C dL_exchange_177 8 rfl ?_
          refine x_iconst C dL_exchange_179 0 (by decide) ?_
          refine x_iconst C dL_exchange_180 0 (by decide) ?_
          have hSy9 : Sy D x ar m L W t h := by repeat (first | exact hSy | exact hSyL | refine Sy.off ?_ (by decide))
          have hSC9 : SC D ar h := by repeat (first | exact hSC | exact hSCL | refine SC.off hai ?_ (by decide))
          have hAR9 : AR D ar q g l0 u v n w p r h := ⟨hq, hg, hl0, hu, hv, hn, hw, hp, hr⟩
          obtain ⟨P9, hM9, hP9⟩ := k_offer (l := kl κ) (A := A) hSy9 (u := k) hkL (by omega) (hAR9.live hSC9) (b1 := 0) (b2 := 0)
          refine x_callSh C (n := 5) (As := [.ref x, vI 3, vI ((k : Nat) : Int), vI 0, vI 0]) (rest := []) hM9 kn gL_exchange_L_calls (by decide +kernel) rfl rfl rfl (Nat.le_of_ble_eq_true rfl) ⟨by decide, by decide⟩ ⟨(by decide), (by decide)⟩ dL_exchange_181 (fun rv9 h9 hp9 => ?_)
          have hk9 := hP9 rv9 h9 hp9
          obtain ⟨hc9, rfl, he9⟩ := hk9.resolve_left (fun z9 => (by have y9 := z9.1; omega))
          obtain rfl := he9.symm
          refine x_iload C dL_exchange_184 9 rfl ?_
          refine x_icmp_ne (tgt := 193) C dL_exchange_186 (by decide) (by omega) (by omega) (fun c9 => ?_) (fun c9 => ?_)
          · exfalso; omega
          · skip
            refine x_iconst C dL_exchange_189 1 (by decide) ?_
            refine x_goto (tgt := 194) C dL_exchange_190 (by decide) ?_
            refine x_zret C G dL_exchange_194 (by first | exact Or.inl rfl | exact Or.inr rfl) ?_ (by decide) (by decide)
            first
              | (exfalso; omega)
              | (obtain rfl : i = 6 := by omega
                 exact ⟨rfl, _, _, _, _, _, _, _, _, _, _, _, _, hS9, hEX.of hm14 (hSy.hr hPK), hPK.of hEB (by omega) hm14 hz21 hkL (cpw_a hg2) (fun i9 h1 h2 => cpw_o hg2 (by omega)) ⟨by simp [fu], by simp [fu], by simp [fu], by simp [fu], by simp [fu], fun j9 hj9 => by rw [fu_n (by omega), fu_n (by omega), fu_n (by omega), fu_n (by omega), fu_n (by omega)]⟩, hAR9.kp hkp9, hSC9.kp hkp9⟩)
              | exact ⟨rfl, m, L, W, q, g, l0, u, v, n, w, p, r, hSy.le (by omega), hEX, hPK, ⟨hq, hg, hl0, hu, hv, hn, hw, hp, hr⟩, hSC⟩
        · skip
          refine x_iconst C dL_exchange_49 0 (by decide) ?_
          refine x_istore C (ls' := [(0, .ref x), (1, vI 0), (2, .int zz), (3, .ref (ar 0)), (4, .ref (ar 1)), (5, .ref (ar 2)), (6, .ref (ar 6)), (7, .ref (ar 7)), (8, vI ((k : Nat) : Int)), (9, vI ((W : Nat) : Int)), (10, vI 0)]) dL_exchange_50 (by decide) rfl ?_
          have LP : ∀ (N : Nat) (i : Nat) (g2 : Nat → Int64) (h10 : vh)  (uq : h10 (ar 0) = some (eI D 5 q)) (ug : h10 (ar 1) = some (eJ D 60 g2)) (ul0 : h10 (ar 2) = some (eI D 20 l0)) (uu : h10 (ar 3) = some (eI D 60 u)) (uv : h10 (ar 4) = some (eI D 60 v)) (un : h10 (ar 5) = some (eI D 10 n)) (uw : h10 (ar 6) = some (eI D 25 w)) (up : h10 (ar 7) = some (eI D 15 p)) (ur : h10 (ar 8) = some (eI D 18 r)) (hi : i ≤ 6) (hN : 6 - i < N) (hg2 : ∀ j, g2 j = if 30 + 6 * W ≤ j ∧ j < 30 + 6 * W + i then g (j - (30 + 6 * W) + 6 * k) else g j) (hSyL : Sy D x ar m L W t h10) (hSCL : SC D ar h10), X κ 0 0 h10 [(0, .ref x), (1, vI 0), (2, .int zz), (3, .ref (ar 0)), (4, .ref (ar 1)), (5, .ref (ar 2)), (6, .ref (ar 6)), (7, .ref (ar 7)), (8, vI ((k : Nat) : Int)), (9, vI ((W : Nat) : Int)), (10, vI ((i : Nat) : Int))] 52 [] := by
            intro N
            induction N with
            | zero => intro i g2 h10 uq ug ul0 uu uv un uw up ur hi hN hg2 hSyL hSCL; exfalso; omega
            | succ N ihLP =>
              intro i g2 h10 uq ug ul0 uu uv un uw up ur hi hN hg2 hSyL hSCL
              refine x_iload C dL_exchange_52 10 rfl ?_
              refine x_bipush C dL_exchange_54 6 (by decide) ?_
              refine x_icmp_ge (tgt := 90) C dL_exchange_56 (by decide) (by omega) (by omega) (fun c11 => ?_) (fun c11 => ?_)
              · skip
                refine x_aload C dL_exchange_90 6 rfl ?_
                refine x_iconst C dL_exchange_92 5 (by decide) ?_
                refine x_iload C dL_exchange_93 9 rfl ?_
                refine x_imul C dL_exchange_95 ?_
                refine x_aload C dL_exchange_96 5 rfl ?_
                refine x_iconst C dL_exchange_98 4 (by decide) ?_
                refine x_iload C dL_exchange_99 8 rfl ?_
                refine x_imul C dL_exchange_101 ?_
                refine x_iald C ul0 ⟨by omega, by omega⟩ (by decide) dL_exchange_102 ?_
                refine x_topv (show l0 (Int.toNat (4 * (((k : Nat) : Int)))) = l0 (4 * k) from by rw [show Int.toNat (4 * ((k : Nat) : Int)) = 4 * k by omega]) ?_
                refine x_iast C uw ⟨by omega, by omega⟩ (by decide) dL_exchange_103 (x_hn (fun h12 e13 => ?_))
                have f14 : h12 (ar 6) = some (eI D 25 (fu w (Int.toNat (5 * (((W : Nat) : Int)))) (l0 (4 * k)))) := by rw [e13]; exact hu_s
                refine x_aload C dL_exchange_104 6 rfl ?_
                refine x_iconst C dL_exchange_106 5 (by decide) ?_
                refine x_iload C dL_exchange_107 9 rfl ?_
                refine x_imul C dL_exchange_109 ?_
                refine x_iconst C dL_exchange_110 1 (by decide) ?_
                refine x_iadd C dL_exchange_111 ?_
                refine x_aload C dL_exchange_112 5 rfl ?_
                refine x_iconst C dL_exchange_114 4 (by decide) ?_
                refine x_iload C dL_exchange_115 8 rfl ?_
                refine x_imul C dL_exchange_117 ?_
                refine x_iconst C dL_exchange_118 1 (by decide) ?_
                refine x_iadd C dL_exchange_119 ?_
                have f15 : h12 (ar 2) = some (eI D 20 l0) := by rw [e13, hu_n (ari hai (i := 2) (j := 6) (by decide) (by decide) (by decide))]; exact ul0
                refine x_iald C f15 ⟨by omega, by omega⟩ (by decide) dL_exchange_120 ?_
                refine x_topv (show l0 (Int.toNat ((4 * (((k : Nat) : Int))) + 1)) = l0 (4 * k + 1) from by rw [show Int.toNat (4 * ((k : Nat) : Int) + 1) = 4 * k + 1 by omega]) ?_
                refine x_iast C f14 ⟨by omega, by omega⟩ (by decide) dL_exchange_121 (x_hn (fun h16 e17 => ?_))
                have f18 : h16 (ar 6) = some (eI D 25 (fu (fu w (Int.toNat (5 * (((W : Nat) : Int)))) (l0 (4 * k))) (Int.toNat ((5 * (((W : Nat) : Int))) + 1)) (l0 (4 * k + 1)))) := by rw [e17]; exact hu_s
                refine x_aload C dL_exchange_122 6 rfl ?_
                refine x_iconst C dL_exchange_124 5 (by decide) ?_
                refine x_iload C dL_exchange_125 9 rfl ?_
                refine x_imul C dL_exchange_127 ?_
                refine x_iconst C dL_exchange_128 2 (by decide) ?_
                refine x_iadd C dL_exchange_129 ?_
                refine x_aload C dL_exchange_130 5 rfl ?_
                refine x_iconst C dL_exchange_132 4 (by decide) ?_
                refine x_iload C dL_exchange_133 8 rfl ?_
                refine x_imul C dL_exchange_135 ?_
                refine x_iconst C dL_exchange_136 2 (by decide) ?_
                refine x_iadd C dL_exchange_137 ?_
                have f19 : h16 (ar 2) = some (eI D 20 l0) := by rw [e17, hu_n (ari hai (i := 2) (j := 6) (by decide) (by decide) (by decide))]; exact f15
                refine x_iald C f19 ⟨by omega, by omega⟩ (by decide) dL_exchange_138 ?_
                refine x_topv (show l0 (Int.toNat ((4 * (((k : Nat) : Int))) + 2)) = l0 (4 * k + 2) from by rw [show Int.toNat (4 * ((k : Nat) : Int) + 2) = 4 * k + 2 by omega]) ?_
                refine x_iast C f18 ⟨by omega, by omega⟩ (by decide) dL_exchange_139 (x_hn (fun h20 e21 => ?_))
                have f22 : h20 (ar 6) = some (eI D 25 (fu (fu (fu w (Int.toNat (5 * (((W : Nat) : Int)))) (l0 (4 * k))) (Int.toNat ((5 * (((W : Nat) : Int))) + 1)) (l0 (4 * k + 1))) (Int.toNat ((5 * (((W : Nat) : Int))) + 2)) (l0 (4 * k + 2)))) := by rw [e21]; exact hu_s
                refine x_aload C dL_exchange_140 6 rfl ?_
                refine x_iconst C dL_exchange_142 5 (by decide) ?_
                refine x_iload C dL_exchange_143 9 rfl ?_
                refine x_imul C dL_exchange_145 ?_
                refine x_iconst C dL_exchange_146 3 (by decide) ?_
                refine x_iadd C dL_exchange_147 ?_
                refine x_aload C dL_exchange_148 5 rfl ?_
                refine x_iconst C dL_exchange_150 4 (by decide) ?_
                refine x_iload C dL_exchange_151 8 rfl ?_
                refine x_imul C dL_exchange_153 ?_
                refine x_iconst C dL_exchange_154 3 (by decide) ?_
                refine x_iadd C dL_exchange_155 ?_
                have f23 : h20 (ar 2) = some (eI D 20 l0) := by rw [e21, hu_n (ari hai (i := 2) (j := 6) (by decide) (by decide) (by decide))]; exact f19
                refine x_iald C f23 ⟨by omega, by omega⟩ (by decide) dL_exchange_156 ?_
                refine x_topv (show l0 (Int.toNat ((4 * (((k : Nat) : Int))) + 3)) = l0 (4 * k + 3) from by rw [show Int.toNat (4 * ((k : Nat) : Int) + 3) = 4 * k + 3 by omega]) ?_
                refine x_iast C f22 ⟨by omega, by omega⟩ (by decide) dL_exchange_157 (x_hn (fun h24 e25 => ?_))
                have f26 : h24 (ar 6) = some (eI D 25 (fu (fu (fu (fu w (Int.toNat (5 * (((W : Nat) : Int)))) (l0 (4 * k))) (Int.toNat ((5 * (((W : Nat) : Int))) + 1)) (l0 (4 * k + 1))) (Int.toNat ((5 * (((W : Nat) : Int))) + 2)) (l0 (4 * k + 2))) (Int.toNat ((5 * (((W : Nat) : Int))) + 3)) (l0 (4 * k + 3)))) := by rw [e25]; exact hu_s
                refine x_aload C dL_exchange_158 6 rfl ?_
                refine x_iconst C dL_exchange_160 5 (by decide) ?_
                refine x_iload C dL_exchange_161 9 rfl ?_
                refine x_imul C dL_exchange_163 ?_
                refine x_iconst C dL_exchange_164 4 (by decide) ?_
                refine x_iadd C dL_exchange_165 ?_
                refine x_iconst C dL_exchange_166 (-1) (by decide) ?_
                refine x_iast C f26 ⟨by omega, by omega⟩ (by decide) dL_exchange_167 (x_hn (fun h27 e28 => ?_))
                have f29 : h27 (ar 6) = some (eI D 25 (fu (fu (fu (fu (fu w (Int.toNat (5 * (((W : Nat) : Int)))) (l0 (4 * k))) (Int.toNat ((5 * (((W : Nat) : Int))) + 1)) (l0 (4 * k + 1))) (Int.toNat ((5 * (((W : Nat) : Int))) + 2)) (l0 (4 * k + 2))) (Int.toNat ((5 * (((W : Nat) : Int))) + 3)) (l0 (4 * k + 3))) (Int.toNat ((5 * (((W : Nat) : Int))) + 4)) ((-1)))) := by rw [e28]; exact hu_s
                refine x_aload_n C dL_exchange_168 3 rfl ?_
                refine x_iconst C dL_exchange_169 1 (by decide) ?_
                refine x_dup2 C dL_exchange_170 rfl rfl ?_
                have f30 : h12 (ar 0) = some (eI D 5 q) := by rw [e13, hu_n (ari hai (i := 0) (j := 6) (by decide) (by decide) (by decide))]; exact uq
                have f31 : h16 (ar 0) = some (eI D 5 q) := by rw [e17, hu_n (ari hai (i := 0) (j := 6) (by decide) (by decide) (by decide))]; exact f30
                have f32 : h20 (ar 0) = some (eI D 5 q) := by rw [e21, hu_n (ari hai (i := 0) (j := 6) (by decide) (by decide) (by decide))]; exact f31
                have f33 : h24 (ar 0) = some (eI D 5 q) := by rw [e25, hu_n (ari hai (i := 0) (j := 6) (by decide) (by decide) (by decide))]; exact f32
                have f34 : h27 (ar 0) = some (eI D 5 q) := by rw [e28, hu_n (ari hai (i := 0) (j := 6) (by decide) (by decide) (by decide))]; exact f33
                refine x_iald C f34 ⟨by omega, by omega⟩ (by decide) dL_exchange_171 ?_
                refine x_topv (show q (Int.toNat 1) = ((W : Nat) : Int) from by exact hq1) ?_
                refine x_iconst C dL_exchange_172 1 (by decide) ?_
                refine x_iadd C dL_exchange_173 ?_
                refine x_iast C f34 ⟨by omega, by omega⟩ (by decide) dL_exchange_174 (x_hn (fun h35 e36 => ?_))
                have f37 : h35 (ar 0) = some (eI D 5 (fu q (Int.toNat 1) ((((W : Nat) : Int)) + 1))) := by rw [e36]; exact hu_s
                have f38 : h35 (ar 6) = some (eI D 25 (fu (fu (fu (fu (fu w (Int.toNat (5 * (((W : Nat) : Int)))) (l0 (4 * k))) (Int.toNat ((5 * (((W : Nat) : Int))) + 1)) (l0 (4 * k + 1))) (Int.toNat ((5 * (((W : Nat) : Int))) + 2)) (l0 (4 * k + 2))) (Int.toNat ((5 * (((W : Nat) : Int))) + 3)) (l0 (4 * k + 3))) (Int.toNat ((5 * (((W : Nat) : Int))) + 4)) ((-1)))) := by rw [e36, hu_n (ari hai (i := 6) (j := 0) (by decide) (by decide) (by decide))]; exact f29
                have f39 : h35 (ar 6) = some (eI D 25 (fu (fu (fu (fu (fu w (5 * W) (l0 (4 * k))) (5 * W + 1) (l0 (4 * k + 1))) (5 * W + 2) (l0 (4 * k + 2))) (5 * W + 3) (l0 (4 * k + 3))) (5 * W + 4) (-1))) := by have q9 := f38; rw [show Int.toNat (5 * ((W : Nat) : Int)) = 5 * W by omega] at q9; rw [show Int.toNat (5 * ((W : Nat) : Int) + 1) = 5 * W + 1 by omega] at q9; rw [show Int.toNat (5 * ((W : Nat) : Int) + 2) = 5 * W + 2 by omega] at q9; rw [show Int.toNat (5 * ((W : Nat) : Int) + 3) = 5 * W + 3 by omega] at q9; rw [show Int.toNat (5 * ((W : Nat) : Int) + 4) = 5 * W + 4 by omega] at q9; exact q9
                have f40 : h35 (ar 0) = some (eI D 5 (fu q 1 ((W + 1 : Nat) : Int))) := by have q9 := f37; rw [show ((W : Nat) : Int) + 1 = ((W + 1 : Nat) : Int) by omega] at q9; exact q9
                refine x_aload_n C dL_exchange_175 0 rfl ?_
                refine x_iconst C dL_exchange_176 3 (by decide) ?_
                refine x_iload C dL_exchange_177 8 rfl ?_
                refine x_iconst C dL_exchange_179 0 (by decide) ?_
                refine x_iconst C dL_exchange_180 0 (by decide) ?_
                have hSy9 : Sy D x ar m L W t h35 := by rw [e36, e28, e25, e21, e17, e13]; repeat (first | exact hSy | exact hSyL | refine Sy.off ?_ (by decide))
                have hSC9 : SC D ar h35 := by rw [e36, e28, e25, e21, e17, e13]; repeat (first | exact hSC | exact hSCL | refine SC.off hai ?_ (by decide))
                have f41 : h12 (ar 1) = some (eJ D 60 g2) := by rw [e13, hu_n (ari hai (i := 1) (j := 6) (by decide) (by decide) (by decide))]; exact ug
                have f42 : h16 (ar 1) = some (eJ D 60 g2) := by rw [e17, hu_n (ari hai (i := 1) (j := 6) (by decide) (by decide) (by decide))]; exact f41
                have f43 : h20 (ar 1) = some (eJ D 60 g2) := by rw [e21, hu_n (ari hai (i := 1) (j := 6) (by decide) (by decide) (by decide))]; exact f42
                have f44 : h24 (ar 1) = some (eJ D 60 g2) := by rw [e25, hu_n (ari hai (i := 1) (j := 6) (by decide) (by decide) (by decide))]; exact f43
                have f45 : h27 (ar 1) = some (eJ D 60 g2) := by rw [e28, hu_n (ari hai (i := 1) (j := 6) (by decide) (by decide) (by decide))]; exact f44
                have f46 : h35 (ar 1) = some (eJ D 60 g2) := by rw [e36, hu_n (ari hai (i := 1) (j := 0) (by decide) (by decide) (by decide))]; exact f45
                have f47 : h24 (ar 2) = some (eI D 20 l0) := by rw [e25, hu_n (ari hai (i := 2) (j := 6) (by decide) (by decide) (by decide))]; exact f23
                have f48 : h27 (ar 2) = some (eI D 20 l0) := by rw [e28, hu_n (ari hai (i := 2) (j := 6) (by decide) (by decide) (by decide))]; exact f47
                have f49 : h35 (ar 2) = some (eI D 20 l0) := by rw [e36, hu_n (ari hai (i := 2) (j := 0) (by decide) (by decide) (by decide))]; exact f48
                have f50 : h12 (ar 3) = some (eI D 60 u) := by rw [e13, hu_n (ari hai (i := 3) (j := 6) (by decide) (by decide) (by decide))]; exact uu
                have f51 : h16 (ar 3) = some (eI D 60 u) := by rw [e17, hu_n (ari hai (i := 3) (j := 6) (by decide) (by decide) (by decide))]; exact f50
                have f52 : h20 (ar 3) = some (eI D 60 u) := by rw [e21, hu_n (ari hai (i := 3) (j := 6) (by decide) (by decide) (by decide))]; exact f51
                have f53 : h24 (ar 3) = some (eI D 60 u) := by rw [e25, hu_n (ari hai (i := 3) (j := 6) (by decide) (by decide) (by decide))]; exact f52
                have f54 : h27 (ar 3) = some (eI D 60 u) := by rw [e28, hu_n (ari hai (i := 3) (j := 6) (by decide) (by decide) (by decide))]; exact f53
                have f55 : h35 (ar 3) = some (eI D 60 u) := by rw [e36, hu_n (ari hai (i := 3) (j := 0) (by decide) (by decide) (by decide))]; exact f54
                have f56 : h12 (ar 4) = some (eI D 60 v) := by rw [e13, hu_n (ari hai (i := 4) (j := 6) (by decide) (by decide) (by decide))]; exact uv
                have f57 : h16 (ar 4) = some (eI D 60 v) := by rw [e17, hu_n (ari hai (i := 4) (j := 6) (by decide) (by decide) (by decide))]; exact f56
                have f58 : h20 (ar 4) = some (eI D 60 v) := by rw [e21, hu_n (ari hai (i := 4) (j := 6) (by decide) (by decide) (by decide))]; exact f57
                have f59 : h24 (ar 4) = some (eI D 60 v) := by rw [e25, hu_n (ari hai (i := 4) (j := 6) (by decide) (by decide) (by decide))]; exact f58
                have f60 : h27 (ar 4) = some (eI D 60 v) := by rw [e28, hu_n (ari hai (i := 4) (j := 6) (by decide) (by decide) (by decide))]; exact f59
                have f61 : h35 (ar 4) = some (eI D 60 v) := by rw [e36, hu_n (ari hai (i := 4) (j := 0) (by decide) (by decide) (by decide))]; exact f60
                have f62 : h12 (ar 5) = some (eI D 10 n) := by rw [e13, hu_n (ari hai (i := 5) (j := 6) (by decide) (by decide) (by decide))]; exact un
                have f63 : h16 (ar 5) = some (eI D 10 n) := by rw [e17, hu_n (ari hai (i := 5) (j := 6) (by decide) (by decide) (by decide))]; exact f62
                have f64 : h20 (ar 5) = some (eI D 10 n) := by rw [e21, hu_n (ari hai (i := 5) (j := 6) (by decide) (by decide) (by decide))]; exact f63
                have f65 : h24 (ar 5) = some (eI D 10 n) := by rw [e25, hu_n (ari hai (i := 5) (j := 6) (by decide) (by decide) (by decide))]; exact f64
                have f66 : h27 (ar 5) = some (eI D 10 n) := by rw [e28, hu_n (ari hai (i := 5) (j := 6) (by decide) (by decide) (by decide))]; exact f65
                have f67 : h35 (ar 5) = some (eI D 10 n) := by rw [e36, hu_n (ari hai (i := 5) (j := 0) (by decide) (by decide) (by decide))]; exact f66
                have f68 : h12 (ar 7) = some (eI D 15 p) := by rw [e13, hu_n (ari hai (i := 7) (j := 6) (by decide) (by decide) (by decide))]; exact up
                have f69 : h16 (ar 7) = some (eI D 15 p) := by rw [e17, hu_n (ari hai (i := 7) (j := 6) (by decide) (by decide) (by decide))]; exact f68
                have f70 : h20 (ar 7) = some (eI D 15 p) := by rw [e21, hu_n (ari hai (i := 7) (j := 6) (by decide) (by decide) (by decide))]; exact f69
                have f71 : h24 (ar 7) = some (eI D 15 p) := by rw [e25, hu_n (ari hai (i := 7) (j := 6) (by decide) (by decide) (by decide))]; exact f70
                have f72 : h27 (ar 7) = some (eI D 15 p) := by rw [e28, hu_n (ari hai (i := 7) (j := 6) (by decide) (by decide) (by decide))]; exact f71
                have f73 : h35 (ar 7) = some (eI D 15 p) := by rw [e36, hu_n (ari hai (i := 7) (j := 0) (by decide) (by decide) (by decide))]; exact f72
                have f74 : h12 (ar 8) = some (eI D 18 r) := by rw [e13, hu_n (ari hai (i := 8) (j := 6) (by decide) (by decide) (by decide))]; exact ur
                have f75 : h16 (ar 8) = some (eI D 18 r) := by rw [e17, hu_n (ari hai (i := 8) (j := 6) (by decide) (by decide) (by decide))]; exact f74
                have f76 : h20 (ar 8) = some (eI D 18 r) := by rw [e21, hu_n (ari hai (i := 8) (j := 6) (by decide) (by decide) (by decide))]; exact f75
                have f77 : h24 (ar 8) = some (eI D 18 r) := by rw [e25, hu_n (ari hai (i := 8) (j := 6) (by decide) (by decide) (by decide))]; exact f76
                have f78 : h27 (ar 8) = some (eI D 18 r) := by rw [e28, hu_n (ari hai (i := 8) (j := 6) (by decide) (by decide) (by decide))]; exact f77
                have f79 : h35 (ar 8) = some (eI D 18 r) := by rw [e36, hu_n (ari hai (i := 8) (j := 0) (by decide) (by decide) (by decide))]; exact f78
                have hAR9 : AR D ar (fu q 1 ((W + 1 : Nat) : Int)) g2 l0 u v n (fu (fu (fu (fu (fu w (5 * W) (l0 (4 * k))) (5 * W + 1) (l0 (4 * k + 1))) (5 * W + 2) (l0 (4 * k + 2))) (5 * W + 3) (l0 (4 * k + 3))) (5 * W + 4) (-1)) p r h35 := ⟨f40, f46, f49, f55, f61, f67, f39, f73, f79⟩
                obtain ⟨P9, hM9, hP9⟩ := k_offer (l := kl κ) (A := A) hSy9 (u := k) hkL (by omega) (hAR9.live hSC9) (b1 := 0) (b2 := 0)
                refine x_callSh C (n := 5) (As := [.ref x, vI 3, vI ((k : Nat) : Int), vI 0, vI 0]) (rest := []) hM9 kn gL_exchange_L_calls (by decide +kernel) rfl rfl rfl (Nat.le_of_ble_eq_true rfl) ⟨by decide, by decide⟩ ⟨(by decide), (by decide)⟩ dL_exchange_181 (fun rv9 h9 hp9 => ?_)
                have hk9 := hP9 rv9 h9 hp9
                obtain ⟨hc9, rfl, hS9, hkp9⟩ := hk9.resolve_right (fun z9 => (by have y9 := z9.1; omega))
                refine x_iload C dL_exchange_184 9 rfl ?_
                refine x_icmp_ne (tgt := 193) C dL_exchange_186 (by decide) (by omega) (by omega) (fun c80 => ?_) (fun c80 => ?_)
                · exfalso; omega
                · skip
                  refine x_iconst C dL_exchange_189 1 (by decide) ?_
                  refine x_goto (tgt := 194) C dL_exchange_190 (by decide) ?_
                  refine x_zret C G dL_exchange_194 (by first | exact Or.inl rfl | exact Or.inr rfl) ?_ (by decide) (by decide)
                  first
                    | (exfalso; omega)
                    | (obtain rfl : i = 6 := by omega
                       exact ⟨rfl, _, _, _, _, _, _, _, _, _, _, _, _, hS9, hEX.of hm14 (hSy.hr hPK), hPK.of hEB (by omega) hm14 hz21 hkL (cpw_a hg2) (fun i9 h1 h2 => cpw_o hg2 (by omega)) ⟨by simp [fu], by simp [fu], by simp [fu], by simp [fu], by simp [fu], fun j9 hj9 => by rw [fu_n (by omega), fu_n (by omega), fu_n (by omega), fu_n (by omega), fu_n (by omega)]⟩, hAR9.kp hkp9, hSC9.kp hkp9⟩)
                    | exact ⟨rfl, m, L, W, q, g, l0, u, v, n, w, p, r, hSy.le (by omega), hEX, hPK, ⟨hq, hg, hl0, hu, hv, hn, hw, hp, hr⟩, hSC⟩
              · skip
                refine x_aload C dL_exchange_59 4 rfl ?_
                refine x_bipush C dL_exchange_61 30 (by decide) ?_
                refine x_bipush C dL_exchange_63 6 (by decide) ?_
                refine x_iload C dL_exchange_65 9 rfl ?_
                refine x_imul C dL_exchange_67 ?_
                refine x_iadd C dL_exchange_68 ?_
                refine x_iload C dL_exchange_69 10 rfl ?_
                refine x_iadd C dL_exchange_71 ?_
                refine x_aload C dL_exchange_72 4 rfl ?_
                refine x_bipush C dL_exchange_74 6 (by decide) ?_
                refine x_iload C dL_exchange_76 8 rfl ?_
                refine x_imul C dL_exchange_78 ?_
                refine x_iload C dL_exchange_79 10 rfl ?_
                refine x_iadd C dL_exchange_81 ?_
                refine x_lald C ug ⟨by omega, by omega⟩ (by decide) dL_exchange_82 ?_
                refine x_toplv (show g2 (Int.toNat ((6 * (((k : Nat) : Int))) + (((i : Nat) : Int)))) = g (6 * k + i) from by rw [show Int.toNat (6 * ((k : Nat) : Int) + ((i : Nat) : Int)) = 6 * k + i by omega, hg2]; exact if_neg (by omega)) ?_
                refine x_last C ug ⟨by omega, by omega⟩ (by decide) dL_exchange_83 (x_hn (fun h81 e82 => ?_))
                have f83 : h81 (ar 1) = some (eJ D 60 (vp_updL g2 (Int.toNat ((30 + (6 * (((W : Nat) : Int)))) + (((i : Nat) : Int)))) (g (6 * k + i)))) := by rw [e82]; exact hu_s
                refine x_iinc C (x := ((i : Nat) : Int)) (ls' := [(0, .ref x), (1, vI 0), (2, .int zz), (3, .ref (ar 0)), (4, .ref (ar 1)), (5, .ref (ar 2)), (6, .ref (ar 6)), (7, .ref (ar 7)), (8, vI ((k : Nat) : Int)), (9, vI ((W : Nat) : Int)), (10, vI ((((i : Nat) : Int)) + 1))]) dL_exchange_84 10 rfl (by decide) rfl ?_
                refine x_goto (tgt := 52) C dL_exchange_87 (by decide) ?_
                have f84 : h81 (ar 0) = some (eI D 5 q) := by rw [e82, hu_n (ari hai (i := 0) (j := 1) (by decide) (by decide) (by decide))]; exact uq
                have f85 : h81 (ar 2) = some (eI D 20 l0) := by rw [e82, hu_n (ari hai (i := 2) (j := 1) (by decide) (by decide) (by decide))]; exact ul0
                have f86 : h81 (ar 3) = some (eI D 60 u) := by rw [e82, hu_n (ari hai (i := 3) (j := 1) (by decide) (by decide) (by decide))]; exact uu
                have f87 : h81 (ar 4) = some (eI D 60 v) := by rw [e82, hu_n (ari hai (i := 4) (j := 1) (by decide) (by decide) (by decide))]; exact uv
                have f88 : h81 (ar 5) = some (eI D 10 n) := by rw [e82, hu_n (ari hai (i := 5) (j := 1) (by decide) (by decide) (by decide))]; exact un
                have f89 : h81 (ar 6) = some (eI D 25 w) := by rw [e82, hu_n (ari hai (i := 6) (j := 1) (by decide) (by decide) (by decide))]; exact uw
                have f90 : h81 (ar 7) = some (eI D 15 p) := by rw [e82, hu_n (ari hai (i := 7) (j := 1) (by decide) (by decide) (by decide))]; exact up
                have f91 : h81 (ar 8) = some (eI D 18 r) := by rw [e82, hu_n (ari hai (i := 8) (j := 1) (by decide) (by decide) (by decide))]; exact ur
                exact ihLP (i + 1) (vp_updL g2 (Int.toNat ((30 + (6 * (((W : Nat) : Int)))) + (((i : Nat) : Int)))) (g (6 * k + i))) h81 f84 f83 f85 f86 f87 f88 f89 f90 f91 (by omega) (by omega) (by rw [show Int.toNat (30 + 6 * ((W : Nat) : Int) + ((i : Nat) : Int)) = 30 + 6 * W + i by omega]; exact cpw hg2) (by rw [e82]; repeat (first | exact hSy | exact hSyL | refine Sy.off ?_ (by decide))) (by rw [e82]; repeat (first | exact hSC | exact hSCL | refine SC.off hai ?_ (by decide)))
          exact LP (7) 0 g h hq hg hl0 hu hv hn hw hp hr (by omega) (by omega) (fun j => (if_neg (by omega)).symm) (hSy) (hSC)
      · skip
        refine x_iconst C dL_exchange_42 1 (by decide) ?_
        refine x_zret C G dL_exchange_43 (by first | exact Or.inl rfl | exact Or.inr rfl) ?_ (by decide) (by decide)
        refine ⟨rfl, m, L, W, q, g, l0, u, v, n, w, p, r, hSy.le (by omega), hEX, hPK, ⟨hq, hg, hl0, hu, hv, hn, hw, hp, hr⟩, hSC⟩
    · skip
      refine x_bipush C dL_exchange_25 (-5) (by decide) ?_
      refine x_goto (tgt := 33) C dL_exchange_27 (by decide) ?_
      refine x_istore C (ls' := [(0, .ref x), (1, vI 0), (2, .int zz), (3, .ref (ar 0)), (4, .ref (ar 1)), (5, .ref (ar 2)), (6, .ref (ar 6)), (7, .ref (ar 7)), (8, vI ((k : Nat) : Int)), (9, vI (-5))]) dL_exchange_33 (by decide) rfl ?_
      refine x_aload_n C dL_exchange_35 3 rfl ?_
      refine x_iconst C dL_exchange_36 1 (by decide) ?_
      refine x_iald C hq ⟨by omega, by omega⟩ (by decide) dL_exchange_37 ?_
      refine x_topv (show q (Int.toNat 1) = ((W : Nat) : Int) from by exact hq1) ?_
      refine x_iconst C dL_exchange_38 5 (by decide) ?_
      refine x_icmp_ne (tgt := 44) C dL_exchange_39 (by decide) (by omega) (by omega) (fun c92 => ?_) (fun c92 => ?_)
      · skip
        refine x_iload C dL_exchange_44 9 rfl ?_
        refine x_if_lt (tgt := 175) C dL_exchange_46 (by decide) (by omega) (fun c93 => ?_) (fun c93 => ?_)
        · skip
          refine x_aload_n C dL_exchange_175 0 rfl ?_
          refine x_iconst C dL_exchange_176 3 (by decide) ?_
          refine x_iload C dL_exchange_177 8 rfl ?_
          refine x_iconst C dL_exchange_179 0 (by decide) ?_
          refine x_iconst C dL_exchange_180 0 (by decide) ?_
          have hSy9 : Sy D x ar m L W t h := by repeat (first | exact hSy | exact hSyL | refine Sy.off ?_ (by decide))
          have hSC9 : SC D ar h := by repeat (first | exact hSC | exact hSCL | refine SC.off hai ?_ (by decide))
          have hAR9 : AR D ar q g l0 u v n w p r h := ⟨hq, hg, hl0, hu, hv, hn, hw, hp, hr⟩
          obtain ⟨P9, hM9, hP9⟩ := k_offer (l := kl κ) (A := A) hSy9 (u := k) hkL (by omega) (hAR9.live hSC9) (b1 := 0) (b2 := 0)
          refine x_callSh C (n := 5) (As := [.ref x, vI 3, vI ((k : Nat) : Int), vI 0, vI 0]) (rest := []) hM9 kn gL_exchange_L_calls (by decide +kernel) rfl rfl rfl (Nat.le_of_ble_eq_true rfl) ⟨by decide, by decide⟩ ⟨(by decide), (by decide)⟩ dL_exchange_181 (fun rv9 h9 hp9 => ?_)
          have hk9 := hP9 rv9 h9 hp9
          obtain ⟨hc9, rfl, he9⟩ := hk9.resolve_left (fun z9 => (by have y9 := z9.1; omega))
          obtain rfl := he9.symm
          refine x_iload C dL_exchange_184 9 rfl ?_
          refine x_icmp_ne (tgt := 193) C dL_exchange_186 (by decide) (by omega) (by omega) (fun c94 => ?_) (fun c94 => ?_)
          · exfalso; omega
          · skip
            refine x_iconst C dL_exchange_189 1 (by decide) ?_
            refine x_goto (tgt := 194) C dL_exchange_190 (by decide) ?_
            refine x_zret C G dL_exchange_194 (by first | exact Or.inl rfl | exact Or.inr rfl) ?_ (by decide) (by decide)
            first
              | (exfalso; omega)
              | (obtain rfl : i = 6 := by omega
                 exact ⟨rfl, _, _, _, _, _, _, _, _, _, _, _, _, hS9, hEX.of hm14 (hSy.hr hPK), hPK.of hEB (by omega) hm14 hz21 hkL (cpw_a hg2) (fun i9 h1 h2 => cpw_o hg2 (by omega)) ⟨by simp [fu], by simp [fu], by simp [fu], by simp [fu], by simp [fu], fun j9 hj9 => by rw [fu_n (by omega), fu_n (by omega), fu_n (by omega), fu_n (by omega), fu_n (by omega)]⟩, hAR9.kp hkp9, hSC9.kp hkp9⟩)
              | exact ⟨rfl, m, L, W, q, g, l0, u, v, n, w, p, r, hSy.le (by omega), hEX, hPK, ⟨hq, hg, hl0, hu, hv, hn, hw, hp, hr⟩, hSC⟩
        · exfalso; omega
      · skip
        refine x_iconst C dL_exchange_42 1 (by decide) ?_
        refine x_zret C G dL_exchange_43 (by first | exact Or.inl rfl | exact Or.inr rfl) ?_ (by decide) (by decide)
        refine ⟨rfl, m, L, W, q, g, l0, u, v, n, w, p, r, hSy.le (by omega), hEX, hPK, ⟨hq, hg, hl0, hu, hv, hn, hw, hp, hr⟩, hSC⟩

set_option maxRecDepth 100000 in
set_option maxHeartbeats 4000000 in
theorem c_L_exchange1 {l : Launch} {D : va_G} {A : Nat → Prop} {h : vh} {x t L W : Nat} {ar : Nat → Nat} {m : CS} {g : Nat → Int64} {q l0 u v n w p r : Nat → Int} {zz : Int32} (hq : h (ar 0) = some (eI D 5 q)) (hg : h (ar 1) = some (eJ D 60 g)) (hl0 : h (ar 2) = some (eI D 20 l0)) (hu : h (ar 3) = some (eI D 60 u)) (hv : h (ar 4) = some (eI D 60 v)) (hn : h (ar 5) = some (eI D 10 n)) (hw : h (ar 6) = some (eI D 25 w)) (hp : h (ar 7) = some (eI D 15 p)) (hr : h (ar 8) = some (eI D 18 r)) (hai : ∀ i j, i < 16 → j < 16 → ar i = ar j → i = j) (hSy : Sy D x ar m L W t h) (hEX : EX m) (hPK : PK m L W q g l0 u v n w p r) (hSC : SC D ar h) (hW : 0 < W) : HX l D A yL_exchange wsL_exchange { frames := 9, cells := 11, slots := 251, locals := 162 } [.ref x, vI 1, .int zz, .ref (ar 0), .ref (ar 1), .ref (ar 2), .ref (ar 6), .ref (ar 7)] h (fun rv h' => rv = some (vI 1) ∧ WD D x ar (t + 1) h') := by
  refine HX.ofc (cc := cL_exchange) (maxL := 12) (ret := (some .boolean)) [(0, .ref x), (1, vI 1), (2, .int zz), (3, .ref (ar 0)), (4, .ref (ar 1)), (5, .ref (ar 2)), (6, .ref (ar 6)), (7, .ref (ar 7))] (by decide +kernel) rfl rfl (Nat.le_of_ble_eq_true rfl) ?_
  intro κ C hkl G kn
  subst hkl
  have C : CX κ "LedgeLevelsLaw" "exchange" cL_exchange wsL_exchange { frames := 9, cells := 11, slots := 251, locals := 162 } D A 12 := C
  have hiz : nq (D.1 20) (D.1 21) := cx_iz C
  obtain ⟨⟨hL5, hW5, hq0, hq1⟩, hqs, hPL, hPN, hPW, hPU, hPP⟩ := id hPK
  have hEB := hSy.eb hPK
  obtain ⟨hz8, hz21, hm2, hm14⟩ := hSy.zero
  obtain ⟨k, hk⟩ : ∃ k : Nat, k = lowF zz ((W : Nat) : Int) := ⟨_, rfl⟩
  have hkW : k < W := by
    have := lowF_lt (v := zz) (n := ((W : Nat) : Int)) (by omega)
    omega
  obtain ⟨hA7, hf8, hst, hbe, hau, hpa, hrec⟩ := hSy.wrk hPK hkW
  obtain ⟨k1, k2, k3, k4, k5, k6, k7, k8⟩ := hPW k hkW
  obtain ⟨pn, hpn⟩ : ∃ pn : Nat, pn = lowF (zz >>> ((iI 3) &&& 31)) 3 := ⟨_, rfl⟩
  have hpn3 : pn < 3 := by
    have := lowF_lt (v := zz >>> ((iI 3) &&& 31)) (n := 3) (by omega)
    omega
  refine x_iload_n C dL_exchange_0 1 rfl ?_
  refine x_if_ne (tgt := 195) C dL_exchange_1 (by decide) (by omega) (fun c1 => ?_) (fun c1 => ?_)
  · skip
    refine x_iload_n C dL_exchange_195 2 rfl ?_
    refine x_aload_n C dL_exchange_196 3 rfl ?_
    refine x_iconst C dL_exchange_197 1 (by decide) ?_
    refine x_iald C hq ⟨by omega, by omega⟩ (by decide) dL_exchange_198 ?_
    refine x_topv (show q (Int.toNat 1) = ((W : Nat) : Int) from by exact hq1) ?_
    refine x_callSJ C (n := 2) (As := [.int zz, vI ((W : Nat) : Int)]) (rest := []) (c_L_low (by omega)) gL_exchange_L_low (by decide +kernel) rfl rfl rfl (Nat.le_of_ble_eq_true rfl) ⟨by decide, by decide⟩ ⟨(by decide), (by decide)⟩ dL_exchange_199 (fun rv2 h3 hp4 => ?_)
    obtain ⟨rfl, e5, hr_199⟩ := hp4
    obtain rfl := e5.symm
    refine x_topv (show ((lowF zz (((W : Nat) : Int)) : Nat) : Int) = ((k : Nat) : Int) from by rw [hk]) ?_
    refine x_istore C (ls' := [(0, .ref x), (1, vI 1), (2, .int zz), (3, .ref (ar 0)), (4, .ref (ar 1)), (5, .ref (ar 2)), (6, .ref (ar 6)), (7, .ref (ar 7)), (8, vI ((k : Nat) : Int))]) dL_exchange_202 (by decide) rfl ?_
    refine x_iload_n C dL_exchange_204 2 rfl ?_
    refine x_iconst C dL_exchange_205 3 (by decide) ?_
    refine x_ishr C dL_exchange_206 _ rfl ?_
    refine x_iconst C dL_exchange_207 3 (by decide) ?_
    refine x_callSJ C (n := 2) (As := [.int (zz >>> ((iI 3) &&& 31)), vI 3]) (rest := []) (c_L_low (by omega)) gL_exchange_L_low (by decide +kernel) rfl rfl rfl (Nat.le_of_ble_eq_true rfl) ⟨by decide, by decide⟩ ⟨(by decide), (by decide)⟩ dL_exchange_208 (fun rv6 h7 hp8 => ?_)
    obtain ⟨rfl, e9, hr_208⟩ := hp8
    obtain rfl := e9.symm
    refine x_topv (show ((lowF (zz >>> ((iI 3) &&& 31)) 3 : Nat) : Int) = ((pn : Nat) : Int) from by rw [hpn]) ?_
    refine x_istore C (ls' := [(0, .ref x), (1, vI 1), (2, .int zz), (3, .ref (ar 0)), (4, .ref (ar 1)), (5, .ref (ar 2)), (6, .ref (ar 6)), (7, .ref (ar 7)), (8, vI ((k : Nat) : Int)), (9, vI ((pn : Nat) : Int))]) dL_exchange_211 (by decide) rfl ?_
    refine x_iload_n C dL_exchange_213 1 rfl ?_
    refine x_iconst C dL_exchange_214 1 (by decide) ?_
    refine x_icmp_ne (tgt := 332) C dL_exchange_215 (by decide) (by omega) (by omega) (fun c10 => ?_) (fun c10 => ?_)
    · exfalso; omega
    · skip
      refine x_aload_n C dL_exchange_218 3 rfl ?_
      refine x_iconst C dL_exchange_219 0 (by decide) ?_
      refine x_iald C hq ⟨by omega, by omega⟩ (by decide) dL_exchange_220 ?_
      refine x_topv (show q (Int.toNat 0) = ((L : Nat) : Int) from by exact hq0) ?_
      refine x_iconst C dL_exchange_221 5 (by decide) ?_
      refine x_icmp_ne (tgt := 227) C dL_exchange_222 (by decide) (by omega) (by omega) (fun c11 => ?_) (fun c11 => ?_)
      · skip
        refine x_aload C dL_exchange_227 6 rfl ?_
        refine x_iconst C dL_exchange_229 5 (by decide) ?_
        refine x_iload C dL_exchange_230 8 rfl ?_
        refine x_imul C dL_exchange_232 ?_
        refine x_iconst C dL_exchange_233 2 (by decide) ?_
        refine x_iadd C dL_exchange_234 ?_
        refine x_iald C hw ⟨by omega, by omega⟩ (by decide) dL_exchange_235 ?_
        refine x_topv (show w (Int.toNat ((5 * (((k : Nat) : Int))) + 2)) = m 18 0 k from by rw [show Int.toNat (5 * ((k : Nat) : Int) + 2) = 5 * k + 2 by omega]; exact k3) ?_
        refine x_if_ge (tgt := 244) C dL_exchange_236 (by decide) (by omega) (fun c12 => ?_) (fun c12 => ?_)
        · skip
          refine x_iload C dL_exchange_244 9 rfl ?_
          refine x_aload C dL_exchange_246 6 rfl ?_
          refine x_iconst C dL_exchange_248 5 (by decide) ?_
          refine x_iload C dL_exchange_249 8 rfl ?_
          refine x_imul C dL_exchange_251 ?_
          refine x_iconst C dL_exchange_252 1 (by decide) ?_
          refine x_iadd C dL_exchange_253 ?_
          refine x_iald C hw ⟨by omega, by omega⟩ (by decide) dL_exchange_254 ?_
          refine x_topv (show w (Int.toNat ((5 * (((k : Nat) : Int))) + 1)) = m 17 0 k from by rw [show Int.toNat (5 * ((k : Nat) : Int) + 1) = 5 * k + 1 by omega]; exact k2) ?_
          refine x_iload C dL_exchange_255 8 rfl ?_
          refine x_aload_n C dL_exchange_257 3 rfl ?_
          refine x_aload C dL_exchange_258 5 rfl ?_
          refine x_callSJ C (n := 5) (As := [vI ((pn : Nat) : Int), vI (m 17 0 k), vI ((k : Nat) : Int), .ref (ar 0), .ref (ar 2)]) (rest := []) (c_L_begins (n := L) hq hl0 (⟨hq0, by omega⟩)) gL_exchange_L_begins (by decide +kernel) rfl rfl rfl (Nat.le_of_ble_eq_true rfl) ⟨by decide, by decide⟩ ⟨(by decide), (by decide)⟩ dL_exchange_260 (fun rv13 h14 hp15 => ?_)
          obtain ⟨rfl, e16⟩ := hp15
          have f17 : h14 (ar 0) = some (eI D 5 (fu q 0 (((L + 1 : Nat)) : Int))) := by rw [e16]; exact hu_s
          have f18 : h14 (ar 2) = some (eI D 20 (lB l0 L (((pn : Nat) : Int)) (m 17 0 k) (((k : Nat) : Int)))) := by rw [e16, hu_n (ari hai (i := 2) (j := 0) (by decide) (by decide) (by decide))]; exact hu_s
          refine x_istore C (ls' := [(0, .ref x), (1, vI 1), (2, .int zz), (3, .ref (ar 0)), (4, .ref (ar 1)), (5, .ref (ar 2)), (6, .ref (ar 6)), (7, .ref (ar 7)), (8, vI ((k : Nat) : Int)), (9, vI ((pn : Nat) : Int)), (10, vI ((L : Nat) : Int))]) dL_exchange_263 (by decide) rfl ?_
          refine x_iconst C dL_exchange_265 0 (by decide) ?_
          refine x_istore C (ls' := [(0, .ref x), (1, vI 1), (2, .int zz), (3, .ref (ar 0)), (4, .ref (ar 1)), (5, .ref (ar 2)), (6, .ref (ar 6)), (7, .ref (ar 7)), (8, vI ((k : Nat) : Int)), (9, vI ((pn : Nat) : Int)), (10, vI ((L : Nat) : Int)), (11, vI 0)]) dL_exchange_266 (by decide) rfl ?_
          have LP : ∀ (N : Nat) (i : Nat) (g2 : Nat → Int64) (h19 : vh)  (uq : h19 (ar 0) = some (eI D 5 (fu q 0 (((L + 1 : Nat)) : Int)))) (ug : h19 (ar 1) = some (eJ D 60 g2)) (ul0 : h19 (ar 2) = some (eI D 20 (lB l0 L ((pn : Nat) : Int) (m 17 0 k) ((k : Nat) : Int)))) (uu : h19 (ar 3) = some (eI D 60 u)) (uv : h19 (ar 4) = some (eI D 60 v)) (un : h19 (ar 5) = some (eI D 10 n)) (uw : h19 (ar 6) = some (eI D 25 w)) (up : h19 (ar 7) = some (eI D 15 p)) (ur : h19 (ar 8) = some (eI D 18 r)) (hi : i ≤ 6) (hN : 6 - i < N) (hg2 : ∀ j, g2 j = if 6 * L ≤ j ∧ j < 6 * L + i then g (j - (6 * L) + (30 + 6 * k)) else g j) (hSyL : Sy D x ar m L W t h19) (hSCL : SC D ar h19), X κ 0 0 h19 [(0, .ref x), (1, vI 1), (2, .int zz), (3, .ref (ar 0)), (4, .ref (ar 1)), (5, .ref (ar 2)), (6, .ref (ar 6)), (7, .ref (ar 7)), (8, vI ((k : Nat) : Int)), (9, vI ((pn : Nat) : Int)), (10, vI ((L : Nat) : Int)), (11, vI ((i : Nat) : Int))] 268 [] := by
            intro N
            induction N with
            | zero => intro i g2 h19 uq ug ul0 uu uv un uw up ur hi hN hg2 hSyL hSCL; exfalso; omega
            | succ N ihLP =>
              intro i g2 h19 uq ug ul0 uu uv un uw up ur hi hN hg2 hSyL hSCL
              refine x_iload C dL_exchange_268 11 rfl ?_
              refine x_bipush C dL_exchange_270 6 (by decide) ?_
              refine x_icmp_ge (tgt := 311) C dL_exchange_272 (by decide) (by omega) (by omega) (fun c20 => ?_) (fun c20 => ?_)
              · skip
                refine x_aload_n C dL_exchange_311 0 rfl ?_
                refine x_iconst C dL_exchange_312 4 (by decide) ?_
                refine x_iload C dL_exchange_313 8 rfl ?_
                refine x_iload C dL_exchange_315 9 rfl ?_
                refine x_iconst C dL_exchange_317 0 (by decide) ?_
                have hSy9 : Sy D x ar m L W t h19 := by repeat (first | exact hSy | exact hSyL | refine Sy.off ?_ (by decide))
                have hSC9 : SC D ar h19 := by repeat (first | exact hSC | exact hSCL | refine SC.off hai ?_ (by decide))
                have hAR9 : AR D ar (fu q 0 (((L + 1 : Nat)) : Int)) g2 (lB l0 L ((pn : Nat) : Int) (m 17 0 k) ((k : Nat) : Int)) u v n w p r h19 := ⟨uq, ug, ul0, uu, uv, un, uw, up, ur⟩
                obtain ⟨P9, hM9, hP9⟩ := k_copy (l := kl κ) (A := A) hSy9 (u := k) (p := pn) hkW (by omega) (by omega) (hAR9.live hSC9) (b2 := 0)
                refine x_callSh C (n := 5) (As := [.ref x, vI 4, vI ((k : Nat) : Int), vI ((pn : Nat) : Int), vI 0]) (rest := []) hM9 kn gL_exchange_L_calls (by decide +kernel) rfl rfl rfl (Nat.le_of_ble_eq_true rfl) ⟨by decide, by decide⟩ ⟨(by decide), (by decide)⟩ dL_exchange_318 (fun rv9 h9 hp9 => ?_)
                have hk9 := hP9 rv9 h9 hp9
                obtain ⟨hc9, rfl, hS9, hkp9⟩ := hk9.resolve_right (fun z9 => (by have y9 := z9.1; omega))
                refine x_iload C dL_exchange_321 10 rfl ?_
                refine x_icmp_ne (tgt := 330) C dL_exchange_323 (by decide) (by omega) (by omega) (fun c21 => ?_) (fun c21 => ?_)
                · exfalso; omega
                · skip
                  refine x_iconst C dL_exchange_326 1 (by decide) ?_
                  refine x_goto (tgt := 331) C dL_exchange_327 (by decide) ?_
                  refine x_zret C G dL_exchange_331 (by first | exact Or.inl rfl | exact Or.inr rfl) ?_ (by decide) (by decide)
                  first
                    | (exfalso; omega)
                    | (obtain rfl : i = 6 := by omega
                       exact ⟨rfl, _, _, _, _, _, _, _, _, _, _, _, _, hS9, hEX.op, hPK.op hEB (by omega) hm2 (hz8 L (Nat.le_refl _)) (fun z9 hz9 => (cpw_a hg2 z9 hz9).trans (k6 z9 hz9)) (fun i9 h1 h2 => cpw_o hg2 (by omega)), hAR9.kp hkp9, hSC9.kp hkp9⟩)
                    | exact ⟨rfl, m, L, W, q, g, l0, u, v, n, w, p, r, hSy.le (by omega), hEX, hPK, ⟨hq, hg, hl0, hu, hv, hn, hw, hp, hr⟩, hSC⟩
              · skip
                refine x_iload C dL_exchange_275 10 rfl ?_
                refine x_if_lt (tgt := 311) C dL_exchange_277 (by decide) (by omega) (fun c22 => ?_) (fun c22 => ?_)
                · skip
                  refine x_aload_n C dL_exchange_311 0 rfl ?_
                  refine x_iconst C dL_exchange_312 4 (by decide) ?_
                  refine x_iload C dL_exchange_313 8 rfl ?_
                  refine x_iload C dL_exchange_315 9 rfl ?_
                  refine x_iconst C dL_exchange_317 0 (by decide) ?_
                  have hSy9 : Sy D x ar m L W t h19 := by repeat (first | exact hSy | exact hSyL | refine Sy.off ?_ (by decide))
                  have hSC9 : SC D ar h19 := by repeat (first | exact hSC | exact hSCL | refine SC.off hai ?_ (by decide))
                  have hAR9 : AR D ar (fu q 0 (((L + 1 : Nat)) : Int)) g2 (lB l0 L ((pn : Nat) : Int) (m 17 0 k) ((k : Nat) : Int)) u v n w p r h19 := ⟨uq, ug, ul0, uu, uv, un, uw, up, ur⟩
                  obtain ⟨P9, hM9, hP9⟩ := k_copy (l := kl κ) (A := A) hSy9 (u := k) (p := pn) hkW (by omega) (by omega) (hAR9.live hSC9) (b2 := 0)
                  refine x_callSh C (n := 5) (As := [.ref x, vI 4, vI ((k : Nat) : Int), vI ((pn : Nat) : Int), vI 0]) (rest := []) hM9 kn gL_exchange_L_calls (by decide +kernel) rfl rfl rfl (Nat.le_of_ble_eq_true rfl) ⟨by decide, by decide⟩ ⟨(by decide), (by decide)⟩ dL_exchange_318 (fun rv9 h9 hp9 => ?_)
                  have hk9 := hP9 rv9 h9 hp9
                  obtain ⟨hc9, rfl, hS9, hkp9⟩ := hk9.resolve_right (fun z9 => (by have y9 := z9.1; omega))
                  refine x_iload C dL_exchange_321 10 rfl ?_
                  refine x_icmp_ne (tgt := 330) C dL_exchange_323 (by decide) (by omega) (by omega) (fun c23 => ?_) (fun c23 => ?_)
                  · exfalso; omega
                  · skip
                    refine x_iconst C dL_exchange_326 1 (by decide) ?_
                    refine x_goto (tgt := 331) C dL_exchange_327 (by decide) ?_
                    refine x_zret C G dL_exchange_331 (by first | exact Or.inl rfl | exact Or.inr rfl) ?_ (by decide) (by decide)
                    first
                      | (exfalso; omega)
                      | (obtain rfl : i = 6 := by omega
                         exact ⟨rfl, _, _, _, _, _, _, _, _, _, _, _, _, hS9, hEX.op, hPK.op hEB (by omega) hm2 (hz8 L (Nat.le_refl _)) (fun z9 hz9 => (cpw_a hg2 z9 hz9).trans (k6 z9 hz9)) (fun i9 h1 h2 => cpw_o hg2 (by omega)), hAR9.kp hkp9, hSC9.kp hkp9⟩)
                      | exact ⟨rfl, m, L, W, q, g, l0, u, v, n, w, p, r, hSy.le (by omega), hEX, hPK, ⟨hq, hg, hl0, hu, hv, hn, hw, hp, hr⟩, hSC⟩
                · skip
                  refine x_aload C dL_exchange_280 4 rfl ?_
                  refine x_bipush C dL_exchange_282 6 (by decide) ?_
                  refine x_iload C dL_exchange_284 10 rfl ?_
                  refine x_imul C dL_exchange_286 ?_
                  refine x_iload C dL_exchange_287 11 rfl ?_
                  refine x_iadd C dL_exchange_289 ?_
                  refine x_aload C dL_exchange_290 4 rfl ?_
                  refine x_bipush C dL_exchange_292 30 (by decide) ?_
                  refine x_bipush C dL_exchange_294 6 (by decide) ?_
                  refine x_iload C dL_exchange_296 8 rfl ?_
                  refine x_imul C dL_exchange_298 ?_
                  refine x_iadd C dL_exchange_299 ?_
                  refine x_iload C dL_exchange_300 11 rfl ?_
                  refine x_iadd C dL_exchange_302 ?_
                  refine x_lald C ug ⟨by omega, by omega⟩ (by decide) dL_exchange_303 ?_
                  refine x_toplv (show g2 (Int.toNat ((30 + (6 * (((k : Nat) : Int)))) + (((i : Nat) : Int)))) = g (30 + 6 * k + i) from by rw [show Int.toNat (30 + 6 * ((k : Nat) : Int) + ((i : Nat) : Int)) = 30 + 6 * k + i by omega, hg2]; exact if_neg (by omega)) ?_
                  refine x_last C ug ⟨by omega, by omega⟩ (by decide) dL_exchange_304 (x_hn (fun h24 e25 => ?_))
                  have f26 : h24 (ar 1) = some (eJ D 60 (vp_updL g2 (Int.toNat ((6 * (((L : Nat) : Int))) + (((i : Nat) : Int)))) (g (30 + 6 * k + i)))) := by rw [e25]; exact hu_s
                  refine x_iinc C (x := ((i : Nat) : Int)) (ls' := [(0, .ref x), (1, vI 1), (2, .int zz), (3, .ref (ar 0)), (4, .ref (ar 1)), (5, .ref (ar 2)), (6, .ref (ar 6)), (7, .ref (ar 7)), (8, vI ((k : Nat) : Int)), (9, vI ((pn : Nat) : Int)), (10, vI ((L : Nat) : Int)), (11, vI ((((i : Nat) : Int)) + 1))]) dL_exchange_305 11 rfl (by decide) rfl ?_
                  refine x_goto (tgt := 268) C dL_exchange_308 (by decide) ?_
                  have f27 : h24 (ar 0) = some (eI D 5 (fu q 0 (((L + 1 : Nat)) : Int))) := by rw [e25, hu_n (ari hai (i := 0) (j := 1) (by decide) (by decide) (by decide))]; exact uq
                  have f28 : h24 (ar 2) = some (eI D 20 (lB l0 L ((pn : Nat) : Int) (m 17 0 k) ((k : Nat) : Int))) := by rw [e25, hu_n (ari hai (i := 2) (j := 1) (by decide) (by decide) (by decide))]; exact ul0
                  have f29 : h24 (ar 3) = some (eI D 60 u) := by rw [e25, hu_n (ari hai (i := 3) (j := 1) (by decide) (by decide) (by decide))]; exact uu
                  have f30 : h24 (ar 4) = some (eI D 60 v) := by rw [e25, hu_n (ari hai (i := 4) (j := 1) (by decide) (by decide) (by decide))]; exact uv
                  have f31 : h24 (ar 5) = some (eI D 10 n) := by rw [e25, hu_n (ari hai (i := 5) (j := 1) (by decide) (by decide) (by decide))]; exact un
                  have f32 : h24 (ar 6) = some (eI D 25 w) := by rw [e25, hu_n (ari hai (i := 6) (j := 1) (by decide) (by decide) (by decide))]; exact uw
                  have f33 : h24 (ar 7) = some (eI D 15 p) := by rw [e25, hu_n (ari hai (i := 7) (j := 1) (by decide) (by decide) (by decide))]; exact up
                  have f34 : h24 (ar 8) = some (eI D 18 r) := by rw [e25, hu_n (ari hai (i := 8) (j := 1) (by decide) (by decide) (by decide))]; exact ur
                  exact ihLP (i + 1) (vp_updL g2 (Int.toNat ((6 * (((L : Nat) : Int))) + (((i : Nat) : Int)))) (g (30 + 6 * k + i))) h24 f27 f26 f28 f29 f30 f31 f32 f33 f34 (by omega) (by omega) (by rw [show Int.toNat (6 * ((L : Nat) : Int) + ((i : Nat) : Int)) = 6 * L + i by omega]; exact cpw hg2) (by rw [e25]; repeat (first | exact hSy | exact hSyL | refine Sy.off ?_ (by decide))) (by rw [e25]; repeat (first | exact hSC | exact hSCL | refine SC.off hai ?_ (by decide)))
          have f35 : h14 (ar 1) = some (eJ D 60 g) := by rw [e16, hu_n (ari hai (i := 1) (j := 0) (by decide) (by decide) (by decide)), hu_n (ari hai (i := 1) (j := 2) (by decide) (by decide) (by decide))]; exact hg
          have f36 : h14 (ar 3) = some (eI D 60 u) := by rw [e16, hu_n (ari hai (i := 3) (j := 0) (by decide) (by decide) (by decide)), hu_n (ari hai (i := 3) (j := 2) (by decide) (by decide) (by decide))]; exact hu
          have f37 : h14 (ar 4) = some (eI D 60 v) := by rw [e16, hu_n (ari hai (i := 4) (j := 0) (by decide) (by decide) (by decide)), hu_n (ari hai (i := 4) (j := 2) (by decide) (by decide) (by decide))]; exact hv
          have f38 : h14 (ar 5) = some (eI D 10 n) := by rw [e16, hu_n (ari hai (i := 5) (j := 0) (by decide) (by decide) (by decide)), hu_n (ari hai (i := 5) (j := 2) (by decide) (by decide) (by decide))]; exact hn
          have f39 : h14 (ar 6) = some (eI D 25 w) := by rw [e16, hu_n (ari hai (i := 6) (j := 0) (by decide) (by decide) (by decide)), hu_n (ari hai (i := 6) (j := 2) (by decide) (by decide) (by decide))]; exact hw
          have f40 : h14 (ar 7) = some (eI D 15 p) := by rw [e16, hu_n (ari hai (i := 7) (j := 0) (by decide) (by decide) (by decide)), hu_n (ari hai (i := 7) (j := 2) (by decide) (by decide) (by decide))]; exact hp
          have f41 : h14 (ar 8) = some (eI D 18 r) := by rw [e16, hu_n (ari hai (i := 8) (j := 0) (by decide) (by decide) (by decide)), hu_n (ari hai (i := 8) (j := 2) (by decide) (by decide) (by decide))]; exact hr
          exact LP (7) 0 g h14 f17 f35 f18 f36 f37 f38 f39 f40 f41 (by omega) (by omega) (fun j => (if_neg (by omega)).symm) (by rw [e16]; repeat (first | exact hSy | exact hSyL | refine Sy.off ?_ (by decide))) (by rw [e16]; repeat (first | exact hSC | exact hSCL | refine SC.off hai ?_ (by decide)))
        · skip
          refine x_bipush C dL_exchange_239 (-5) (by decide) ?_
          refine x_goto (tgt := 263) C dL_exchange_241 (by decide) ?_
          refine x_istore C (ls' := [(0, .ref x), (1, vI 1), (2, .int zz), (3, .ref (ar 0)), (4, .ref (ar 1)), (5, .ref (ar 2)), (6, .ref (ar 6)), (7, .ref (ar 7)), (8, vI ((k : Nat) : Int)), (9, vI ((pn : Nat) : Int)), (10, vI (-5))]) dL_exchange_263 (by decide) rfl ?_
          refine x_iconst C dL_exchange_265 0 (by decide) ?_
          refine x_istore C (ls' := [(0, .ref x), (1, vI 1), (2, .int zz), (3, .ref (ar 0)), (4, .ref (ar 1)), (5, .ref (ar 2)), (6, .ref (ar 6)), (7, .ref (ar 7)), (8, vI ((k : Nat) : Int)), (9, vI ((pn : Nat) : Int)), (10, vI (-5)), (11, vI 0)]) dL_exchange_266 (by decide) rfl ?_
          refine x_iload C dL_exchange_268 11 rfl ?_
          refine x_bipush C dL_exchange_270 6 (by decide) ?_
          refine x_icmp_ge (tgt := 311) C dL_exchange_272 (by decide) (by omega) (by omega) (fun c42 => ?_) (fun c42 => ?_)
          · exfalso; omega
          · skip
            refine x_iload C dL_exchange_275 10 rfl ?_
            refine x_if_lt (tgt := 311) C dL_exchange_277 (by decide) (by omega) (fun c43 => ?_) (fun c43 => ?_)
            · skip
              refine x_aload_n C dL_exchange_311 0 rfl ?_
              refine x_iconst C dL_exchange_312 4 (by decide) ?_
              refine x_iload C dL_exchange_313 8 rfl ?_
              refine x_iload C dL_exchange_315 9 rfl ?_
              refine x_iconst C dL_exchange_317 0 (by decide) ?_
              have hSy9 : Sy D x ar m L W t h := by repeat (first | exact hSy | exact hSyL | refine Sy.off ?_ (by decide))
              have hSC9 : SC D ar h := by repeat (first | exact hSC | exact hSCL | refine SC.off hai ?_ (by decide))
              have hAR9 : AR D ar q g l0 u v n w p r h := ⟨hq, hg, hl0, hu, hv, hn, hw, hp, hr⟩
              obtain ⟨P9, hM9, hP9⟩ := k_copy (l := kl κ) (A := A) hSy9 (u := k) (p := pn) hkW (by omega) (by omega) (hAR9.live hSC9) (b2 := 0)
              refine x_callSh C (n := 5) (As := [.ref x, vI 4, vI ((k : Nat) : Int), vI ((pn : Nat) : Int), vI 0]) (rest := []) hM9 kn gL_exchange_L_calls (by decide +kernel) rfl rfl rfl (Nat.le_of_ble_eq_true rfl) ⟨by decide, by decide⟩ ⟨(by decide), (by decide)⟩ dL_exchange_318 (fun rv9 h9 hp9 => ?_)
              have hk9 := hP9 rv9 h9 hp9
              obtain ⟨hc9, rfl, he9⟩ := hk9.resolve_left (fun z9 => (by have y9 := z9.1; omega))
              obtain rfl := he9.symm
              refine x_iload C dL_exchange_321 10 rfl ?_
              refine x_icmp_ne (tgt := 330) C dL_exchange_323 (by decide) (by omega) (by omega) (fun c44 => ?_) (fun c44 => ?_)
              · exfalso; omega
              · skip
                refine x_iconst C dL_exchange_326 1 (by decide) ?_
                refine x_goto (tgt := 331) C dL_exchange_327 (by decide) ?_
                refine x_zret C G dL_exchange_331 (by first | exact Or.inl rfl | exact Or.inr rfl) ?_ (by decide) (by decide)
                first
                  | (exfalso; omega)
                  | (obtain rfl : i = 6 := by omega
                     exact ⟨rfl, _, _, _, _, _, _, _, _, _, _, _, _, hS9, hEX.op, hPK.op hEB (by omega) hm2 (hz8 L (Nat.le_refl _)) (fun z9 hz9 => (cpw_a hg2 z9 hz9).trans (k6 z9 hz9)) (fun i9 h1 h2 => cpw_o hg2 (by omega)), hAR9.kp hkp9, hSC9.kp hkp9⟩)
                  | exact ⟨rfl, m, L, W, q, g, l0, u, v, n, w, p, r, hSy.le (by omega), hEX, hPK, ⟨hq, hg, hl0, hu, hv, hn, hw, hp, hr⟩, hSC⟩
            · exfalso; omega
      · skip
        refine x_iconst C dL_exchange_225 1 (by decide) ?_
        refine x_zret C G dL_exchange_226 (by first | exact Or.inl rfl | exact Or.inr rfl) ?_ (by decide) (by decide)
        refine ⟨rfl, m, L, W, q, g, l0, u, v, n, w, p, r, hSy.le (by omega), hEX, hPK, ⟨hq, hg, hl0, hu, hv, hn, hw, hp, hr⟩, hSC⟩
  · exfalso; omega

set_option maxRecDepth 100000 in
set_option maxHeartbeats 4000000 in
theorem c_L_exchange2 {l : Launch} {D : va_G} {A : Nat → Prop} {h : vh} {x t L W : Nat} {ar : Nat → Nat} {m : CS} {g : Nat → Int64} {q l0 u v n w p r : Nat → Int} {zz : Int32} (hq : h (ar 0) = some (eI D 5 q)) (hg : h (ar 1) = some (eJ D 60 g)) (hl0 : h (ar 2) = some (eI D 20 l0)) (hu : h (ar 3) = some (eI D 60 u)) (hv : h (ar 4) = some (eI D 60 v)) (hn : h (ar 5) = some (eI D 10 n)) (hw : h (ar 6) = some (eI D 25 w)) (hp : h (ar 7) = some (eI D 15 p)) (hr : h (ar 8) = some (eI D 18 r)) (hai : ∀ i j, i < 16 → j < 16 → ar i = ar j → i = j) (hSy : Sy D x ar m L W t h) (hEX : EX m) (hPK : PK m L W q g l0 u v n w p r) (hSC : SC D ar h) (hW : 0 < W) : HX l D A yL_exchange wsL_exchange { frames := 9, cells := 4, slots := 24, locals := 162 } [.ref x, vI 2, .int zz, .ref (ar 0), .ref (ar 1), .ref (ar 2), .ref (ar 6), .ref (ar 7)] h (fun rv h' => rv = some (vI 1) ∧ WD D x ar (t + 1) h') := by
  refine HX.ofc (cc := cL_exchange) (maxL := 12) (ret := (some .boolean)) [(0, .ref x), (1, vI 2), (2, .int zz), (3, .ref (ar 0)), (4, .ref (ar 1)), (5, .ref (ar 2)), (6, .ref (ar 6)), (7, .ref (ar 7))] (by decide +kernel) rfl rfl (Nat.le_of_ble_eq_true rfl) ?_
  intro κ C hkl G kn
  subst hkl
  have C : CX κ "LedgeLevelsLaw" "exchange" cL_exchange wsL_exchange { frames := 9, cells := 4, slots := 24, locals := 162 } D A 12 := C
  have hiz : nq (D.1 20) (D.1 21) := cx_iz C
  obtain ⟨⟨hL5, hW5, hq0, hq1⟩, hqs, hPL, hPN, hPW, hPU, hPP⟩ := id hPK
  have hEB := hSy.eb hPK
  obtain ⟨hz8, hz21, hm2, hm14⟩ := hSy.zero
  obtain ⟨k, hk⟩ : ∃ k : Nat, k = lowF zz ((W : Nat) : Int) := ⟨_, rfl⟩
  have hkW : k < W := by
    have := lowF_lt (v := zz) (n := ((W : Nat) : Int)) (by omega)
    omega
  obtain ⟨hA7, hf8, hst, hbe, hau, hpa, hrec⟩ := hSy.wrk hPK hkW
  obtain ⟨k1, k2, k3, k4, k5, k6, k7, k8⟩ := hPW k hkW
  obtain ⟨pn, hpn⟩ : ∃ pn : Nat, pn = lowF (zz >>> ((iI 3) &&& 31)) 3 := ⟨_, rfl⟩
  have hpn3 : pn < 3 := by
    have := lowF_lt (v := zz >>> ((iI 3) &&& 31)) (n := 3) (by omega)
    omega
  obtain ⟨sn, hsn⟩ : ∃ sn : Nat, sn = lowF (zz >>> ((iI 5) &&& 31)) 5 := ⟨_, rfl⟩
  have hsn5 : sn < 5 := by
    have := lowF_lt (v := zz >>> ((iI 5) &&& 31)) (n := 5) (by omega)
    omega
  have hs21 := hSy.st hkW (y := pn) (by omega)
  have k7p := k7 pn hpn3
  have e3 : Int.toNat (3 * ((k : Nat) : Int) + ((pn : Nat) : Int)) = 3 * k + pn := by omega
  have hau15 : 0 ≤ m 15 0 k ∧ m 15 0 k ≤ 5 := by rw [← k1]; exact hau
  have hbe18 : -1 ≤ m 18 0 k ∧ m 18 0 k ≤ 7000 := by rw [← k3]; exact hbe
  refine x_iload_n C dL_exchange_0 1 rfl ?_
  refine x_if_ne (tgt := 195) C dL_exchange_1 (by decide) (by omega) (fun c1 => ?_) (fun c1 => ?_)
  · skip
    refine x_iload_n C dL_exchange_195 2 rfl ?_
    refine x_aload_n C dL_exchange_196 3 rfl ?_
    refine x_iconst C dL_exchange_197 1 (by decide) ?_
    refine x_iald C hq ⟨by omega, by omega⟩ (by decide) dL_exchange_198 ?_
    refine x_topv (show q (Int.toNat 1) = ((W : Nat) : Int) from by exact hq1) ?_
    refine x_callSJ C (n := 2) (As := [.int zz, vI ((W : Nat) : Int)]) (rest := []) (c_L_low (by omega)) gL_exchange_L_low (by decide +kernel) rfl rfl rfl (Nat.le_of_ble_eq_true rfl) ⟨by decide, by decide⟩ ⟨(by decide), (by decide)⟩ dL_exchange_199 (fun rv2 h3 hp4 => ?_)
    obtain ⟨rfl, e5, hr_199⟩ := hp4
    obtain rfl := e5.symm
    refine x_topv (show ((lowF zz (((W : Nat) : Int)) : Nat) : Int) = ((k : Nat) : Int) from by rw [hk]) ?_
    refine x_istore C (ls' := [(0, .ref x), (1, vI 2), (2, .int zz), (3, .ref (ar 0)), (4, .ref (ar 1)), (5, .ref (ar 2)), (6, .ref (ar 6)), (7, .ref (ar 7)), (8, vI ((k : Nat) : Int))]) dL_exchange_202 (by decide) rfl ?_
    refine x_iload_n C dL_exchange_204 2 rfl ?_
    refine x_iconst C dL_exchange_205 3 (by decide) ?_
    refine x_ishr C dL_exchange_206 _ rfl ?_
    refine x_iconst C dL_exchange_207 3 (by decide) ?_
    refine x_callSJ C (n := 2) (As := [.int (zz >>> ((iI 3) &&& 31)), vI 3]) (rest := []) (c_L_low (by omega)) gL_exchange_L_low (by decide +kernel) rfl rfl rfl (Nat.le_of_ble_eq_true rfl) ⟨by decide, by decide⟩ ⟨(by decide), (by decide)⟩ dL_exchange_208 (fun rv6 h7 hp8 => ?_)
    obtain ⟨rfl, e9, hr_208⟩ := hp8
    obtain rfl := e9.symm
    refine x_topv (show ((lowF (zz >>> ((iI 3) &&& 31)) 3 : Nat) : Int) = ((pn : Nat) : Int) from by rw [hpn]) ?_
    refine x_istore C (ls' := [(0, .ref x), (1, vI 2), (2, .int zz), (3, .ref (ar 0)), (4, .ref (ar 1)), (5, .ref (ar 2)), (6, .ref (ar 6)), (7, .ref (ar 7)), (8, vI ((k : Nat) : Int)), (9, vI ((pn : Nat) : Int))]) dL_exchange_211 (by decide) rfl ?_
    refine x_iload_n C dL_exchange_213 1 rfl ?_
    refine x_iconst C dL_exchange_214 1 (by decide) ?_
    refine x_icmp_ne (tgt := 332) C dL_exchange_215 (by decide) (by omega) (by omega) (fun c10 => ?_) (fun c10 => ?_)
    · skip
      refine x_iconst C dL_exchange_332 1 (by decide) ?_
      refine x_iload_n C dL_exchange_333 2 rfl ?_
      refine x_iconst C dL_exchange_334 5 (by decide) ?_
      refine x_ishr C dL_exchange_335 _ rfl ?_
      refine x_iconst C dL_exchange_336 5 (by decide) ?_
      refine x_callSJ C (n := 2) (As := [.int (zz >>> ((iI 5) &&& 31)), vI 5]) (rest := [vI 1]) (c_L_low (by omega)) gL_exchange_L_low (by decide +kernel) rfl rfl rfl (Nat.le_of_ble_eq_true rfl) ⟨by decide, by decide⟩ ⟨(by decide), (by decide)⟩ dL_exchange_337 (fun rv11 h12 hp13 => ?_)
      obtain ⟨rfl, e14, hr_337⟩ := hp13
      obtain rfl := e14.symm
      refine x_topv (show ((lowF (zz >>> ((iI 5) &&& 31)) 5 : Nat) : Int) = ((sn : Nat) : Int) from by rw [hsn]) ?_
      refine x_iadd C dL_exchange_340 ?_
      refine x_istore C (ls' := [(0, .ref x), (1, vI 2), (2, .int zz), (3, .ref (ar 0)), (4, .ref (ar 1)), (5, .ref (ar 2)), (6, .ref (ar 6)), (7, .ref (ar 7)), (8, vI ((k : Nat) : Int)), (9, vI ((pn : Nat) : Int)), (10, vI (1 + (((sn : Nat) : Int))))]) dL_exchange_341 (by decide) rfl ?_
      refine x_aload C dL_exchange_343 6 rfl ?_
      refine x_iconst C dL_exchange_345 5 (by decide) ?_
      refine x_iload C dL_exchange_346 8 rfl ?_
      refine x_imul C dL_exchange_348 ?_
      refine x_iconst C dL_exchange_349 2 (by decide) ?_
      refine x_iadd C dL_exchange_350 ?_
      refine x_iald C hw ⟨by omega, by omega⟩ (by decide) dL_exchange_351 ?_
      refine x_topv (show w (Int.toNat ((5 * (((k : Nat) : Int))) + 2)) = m 18 0 k from by rw [show Int.toNat (5 * ((k : Nat) : Int) + 2) = 5 * k + 2 by omega]; exact k3) ?_
      refine x_if_lt (tgt := 367) C dL_exchange_352 (by decide) (by omega) (fun c15 => ?_) (fun c15 => ?_)
      · skip
        refine x_bipush C dL_exchange_367 (-5) (by decide) ?_
        refine x_goto (tgt := 382) C dL_exchange_369 (by decide) ?_
        refine x_istore C (ls' := [(0, .ref x), (1, vI 2), (2, .int zz), (3, .ref (ar 0)), (4, .ref (ar 1)), (5, .ref (ar 2)), (6, .ref (ar 6)), (7, .ref (ar 7)), (8, vI ((k : Nat) : Int)), (9, vI ((pn : Nat) : Int)), (10, vI (1 + (((sn : Nat) : Int)))), (11, vI (-5))]) dL_exchange_382 (by decide) rfl ?_
        refine x_aload C dL_exchange_384 7 rfl ?_
        refine x_iconst C dL_exchange_386 3 (by decide) ?_
        refine x_iload C dL_exchange_387 8 rfl ?_
        refine x_imul C dL_exchange_389 ?_
        refine x_iload C dL_exchange_390 9 rfl ?_
        refine x_iadd C dL_exchange_392 ?_
        refine x_iload C dL_exchange_393 11 rfl ?_
        refine x_if_ge (tgt := 411) C dL_exchange_395 (by decide) (by omega) (fun c16 => ?_) (fun c16 => ?_)
        · exfalso; omega
        · skip
          refine x_aload C dL_exchange_398 7 rfl ?_
          refine x_iconst C dL_exchange_400 3 (by decide) ?_
          refine x_iload C dL_exchange_401 8 rfl ?_
          refine x_imul C dL_exchange_403 ?_
          refine x_iload C dL_exchange_404 9 rfl ?_
          refine x_iadd C dL_exchange_406 ?_
          refine x_iald C hp ⟨by omega, by omega⟩ (by decide) dL_exchange_407 ?_
          refine x_topv (show p (Int.toNat ((3 * (((k : Nat) : Int))) + (((pn : Nat) : Int)))) = m 21 0 (6 * k + pn) from by rw [e3]; exact k7p) ?_
          refine x_goto (tgt := 413) C dL_exchange_408 (by decide) ?_
          refine x_iast C hp ⟨by omega, by omega⟩ (by decide) dL_exchange_413 (x_hn (fun h17 e18 => ?_))
          have f19 : h17 (ar 7) = some (eI D 15 (fu p (Int.toNat ((3 * (((k : Nat) : Int))) + (((pn : Nat) : Int)))) (m 21 0 (6 * k + pn)))) := by rw [e18]; exact hu_s
          have f20 : h17 (ar 7) = some (eI D 15 p) := by have q9 := f19; rw [e3, ← k7p, fu_self] at q9; exact q9
          refine x_aload_n C dL_exchange_414 0 rfl ?_
          refine x_iconst C dL_exchange_415 5 (by decide) ?_
          refine x_iload C dL_exchange_416 8 rfl ?_
          refine x_iload C dL_exchange_418 9 rfl ?_
          refine x_iload C dL_exchange_420 10 rfl ?_
          have hSy9 : Sy D x ar m L W t h17 := by rw [e18]; repeat (first | exact hSy | exact hSyL | refine Sy.off ?_ (by decide))
          have hSC9 : SC D ar h17 := by rw [e18]; repeat (first | exact hSC | exact hSCL | refine SC.off hai ?_ (by decide))
          have f21 : h17 (ar 0) = some (eI D 5 q) := by rw [e18, hu_n (ari hai (i := 0) (j := 7) (by decide) (by decide) (by decide))]; exact hq
          have f22 : h17 (ar 1) = some (eJ D 60 g) := by rw [e18, hu_n (ari hai (i := 1) (j := 7) (by decide) (by decide) (by decide))]; exact hg
          have f23 : h17 (ar 2) = some (eI D 20 l0) := by rw [e18, hu_n (ari hai (i := 2) (j := 7) (by decide) (by decide) (by decide))]; exact hl0
          have f24 : h17 (ar 3) = some (eI D 60 u) := by rw [e18, hu_n (ari hai (i := 3) (j := 7) (by decide) (by decide) (by decide))]; exact hu
          have f25 : h17 (ar 4) = some (eI D 60 v) := by rw [e18, hu_n (ari hai (i := 4) (j := 7) (by decide) (by decide) (by decide))]; exact hv
          have f26 : h17 (ar 5) = some (eI D 10 n) := by rw [e18, hu_n (ari hai (i := 5) (j := 7) (by decide) (by decide) (by decide))]; exact hn
          have f27 : h17 (ar 6) = some (eI D 25 w) := by rw [e18, hu_n (ari hai (i := 6) (j := 7) (by decide) (by decide) (by decide))]; exact hw
          have f28 : h17 (ar 8) = some (eI D 18 r) := by rw [e18, hu_n (ari hai (i := 8) (j := 7) (by decide) (by decide) (by decide))]; exact hr
          have hAR9 : AR D ar q g l0 u v n w p r h17 := ⟨f21, f22, f23, f24, f25, f26, f27, f20, f28⟩
          obtain ⟨P9, hM9, hP9⟩ := k_star (l := kl κ) (A := A) hSy9 (u := k) (p := pn) (k := 1 + ((sn : Nat) : Int)) hkW (by omega) (by omega)
          refine x_callSh C (n := 5) (As := [.ref x, vI 5, vI ((k : Nat) : Int), vI ((pn : Nat) : Int), vI (1 + (((sn : Nat) : Int)))]) (rest := []) hM9 kn gL_exchange_L_calls (by decide +kernel) rfl rfl rfl (Nat.le_of_ble_eq_true rfl) ⟨by decide, by decide⟩ ⟨(by decide), (by decide)⟩ dL_exchange_422 (fun rv9 h9 hp9 => ?_)
          have hk9 := hP9 rv9 h9 hp9
          obtain ⟨hc9, rfl, he9⟩ := hk9.resolve_left (fun z9 => (by have y9 := z9.1; omega))
          obtain rfl := he9.symm
          refine x_iload C dL_exchange_425 11 rfl ?_
          refine x_icmp_ne (tgt := 434) C dL_exchange_427 (by decide) (by omega) (by omega) (fun c29 => ?_) (fun c29 => ?_)
          · exfalso; omega
          · skip
            refine x_iconst C dL_exchange_430 1 (by decide) ?_
            refine x_goto (tgt := 435) C dL_exchange_431 (by decide) ?_
            refine x_zret C G dL_exchange_435 (by first | exact Or.inl rfl | exact Or.inr rfl) ?_ (by decide) (by decide)
            first
              | (exfalso; omega)
              | exact ⟨rfl, _, _, _, _, _, _, _, _, _, _, _, _, hS9, hEX, hPK.sr hEB hkW hpn3, hAR9.kp hkp9, hSC9.kp hkp9⟩
              | exact ⟨rfl, m, L, W, q, g, l0, u, v, n, w, p, r, hSy9.le (by omega), hEX, hPK, hAR9, hSC9⟩
      · skip
        refine x_aload C dL_exchange_355 6 rfl ?_
        refine x_iconst C dL_exchange_357 5 (by decide) ?_
        refine x_iload C dL_exchange_358 8 rfl ?_
        refine x_imul C dL_exchange_360 ?_
        refine x_iald C hw ⟨by omega, by omega⟩ (by decide) dL_exchange_361 ?_
        refine x_topv (show w (Int.toNat (5 * (((k : Nat) : Int)))) = m 15 0 k from by rw [show Int.toNat (5 * ((k : Nat) : Int)) = 5 * k by omega]; exact k1) ?_
        refine x_iload C dL_exchange_362 9 rfl ?_
        refine x_icmp_ne (tgt := 372) C dL_exchange_364 (by decide) (by omega) (by omega) (fun c30 => ?_) (fun c30 => ?_)
        · skip
          refine x_aload C dL_exchange_372 7 rfl ?_
          refine x_iconst C dL_exchange_374 3 (by decide) ?_
          refine x_iload C dL_exchange_375 8 rfl ?_
          refine x_imul C dL_exchange_377 ?_
          refine x_iload C dL_exchange_378 9 rfl ?_
          refine x_iadd C dL_exchange_380 ?_
          refine x_iald C hp ⟨by omega, by omega⟩ (by decide) dL_exchange_381 ?_
          refine x_topv (show p (Int.toNat ((3 * (((k : Nat) : Int))) + (((pn : Nat) : Int)))) = m 21 0 (6 * k + pn) from by rw [e3]; exact k7p) ?_
          refine x_istore C (ls' := [(0, .ref x), (1, vI 2), (2, .int zz), (3, .ref (ar 0)), (4, .ref (ar 1)), (5, .ref (ar 2)), (6, .ref (ar 6)), (7, .ref (ar 7)), (8, vI ((k : Nat) : Int)), (9, vI ((pn : Nat) : Int)), (10, vI (1 + (((sn : Nat) : Int)))), (11, vI (m 21 0 (6 * k + pn)))]) dL_exchange_382 (by decide) rfl ?_
          refine x_aload C dL_exchange_384 7 rfl ?_
          refine x_iconst C dL_exchange_386 3 (by decide) ?_
          refine x_iload C dL_exchange_387 8 rfl ?_
          refine x_imul C dL_exchange_389 ?_
          refine x_iload C dL_exchange_390 9 rfl ?_
          refine x_iadd C dL_exchange_392 ?_
          refine x_iload C dL_exchange_393 11 rfl ?_
          refine x_if_ge (tgt := 411) C dL_exchange_395 (by decide) (by omega) (fun c31 => ?_) (fun c31 => ?_)
          · skip
            refine x_iload C dL_exchange_411 10 rfl ?_
            refine x_iast C hp ⟨by omega, by omega⟩ (by decide) dL_exchange_413 (x_hn (fun h32 e33 => ?_))
            have f34 : h32 (ar 7) = some (eI D 15 (fu p (Int.toNat ((3 * (((k : Nat) : Int))) + (((pn : Nat) : Int)))) (1 + (((sn : Nat) : Int))))) := by rw [e33]; exact hu_s
            have f35 : h32 (ar 7) = some (eI D 15 (fu p (3 * k + pn) (1 + ((sn : Nat) : Int)))) := by have q9 := f34; rw [e3] at q9; exact q9
            refine x_aload_n C dL_exchange_414 0 rfl ?_
            refine x_iconst C dL_exchange_415 5 (by decide) ?_
            refine x_iload C dL_exchange_416 8 rfl ?_
            refine x_iload C dL_exchange_418 9 rfl ?_
            refine x_iload C dL_exchange_420 10 rfl ?_
            have hSy9 : Sy D x ar m L W t h32 := by rw [e33]; repeat (first | exact hSy | exact hSyL | refine Sy.off ?_ (by decide))
            have hSC9 : SC D ar h32 := by rw [e33]; repeat (first | exact hSC | exact hSCL | refine SC.off hai ?_ (by decide))
            have f36 : h32 (ar 0) = some (eI D 5 q) := by rw [e33, hu_n (ari hai (i := 0) (j := 7) (by decide) (by decide) (by decide))]; exact hq
            have f37 : h32 (ar 1) = some (eJ D 60 g) := by rw [e33, hu_n (ari hai (i := 1) (j := 7) (by decide) (by decide) (by decide))]; exact hg
            have f38 : h32 (ar 2) = some (eI D 20 l0) := by rw [e33, hu_n (ari hai (i := 2) (j := 7) (by decide) (by decide) (by decide))]; exact hl0
            have f39 : h32 (ar 3) = some (eI D 60 u) := by rw [e33, hu_n (ari hai (i := 3) (j := 7) (by decide) (by decide) (by decide))]; exact hu
            have f40 : h32 (ar 4) = some (eI D 60 v) := by rw [e33, hu_n (ari hai (i := 4) (j := 7) (by decide) (by decide) (by decide))]; exact hv
            have f41 : h32 (ar 5) = some (eI D 10 n) := by rw [e33, hu_n (ari hai (i := 5) (j := 7) (by decide) (by decide) (by decide))]; exact hn
            have f42 : h32 (ar 6) = some (eI D 25 w) := by rw [e33, hu_n (ari hai (i := 6) (j := 7) (by decide) (by decide) (by decide))]; exact hw
            have f43 : h32 (ar 8) = some (eI D 18 r) := by rw [e33, hu_n (ari hai (i := 8) (j := 7) (by decide) (by decide) (by decide))]; exact hr
            have hAR9 : AR D ar q g l0 u v n w (fu p (3 * k + pn) (1 + ((sn : Nat) : Int))) r h32 := ⟨f36, f37, f38, f39, f40, f41, f42, f35, f43⟩
            obtain ⟨P9, hM9, hP9⟩ := k_star (l := kl κ) (A := A) hSy9 (u := k) (p := pn) (k := 1 + ((sn : Nat) : Int)) hkW (by omega) (by omega)
            refine x_callSh C (n := 5) (As := [.ref x, vI 5, vI ((k : Nat) : Int), vI ((pn : Nat) : Int), vI (1 + (((sn : Nat) : Int)))]) (rest := []) hM9 kn gL_exchange_L_calls (by decide +kernel) rfl rfl rfl (Nat.le_of_ble_eq_true rfl) ⟨by decide, by decide⟩ ⟨(by decide), (by decide)⟩ dL_exchange_422 (fun rv9 h9 hp9 => ?_)
            have hk9 := hP9 rv9 h9 hp9
            obtain ⟨hc9, rfl, hS9, hkp9⟩ := hk9.resolve_right (fun z9 => (by have y9 := z9.1; omega))
            refine x_iload C dL_exchange_425 11 rfl ?_
            refine x_icmp_ne (tgt := 434) C dL_exchange_427 (by decide) (by omega) (by omega) (fun c44 => ?_) (fun c44 => ?_)
            · exfalso; omega
            · skip
              refine x_iconst C dL_exchange_430 1 (by decide) ?_
              refine x_goto (tgt := 435) C dL_exchange_431 (by decide) ?_
              refine x_zret C G dL_exchange_435 (by first | exact Or.inl rfl | exact Or.inr rfl) ?_ (by decide) (by decide)
              first
                | (exfalso; omega)
                | exact ⟨rfl, _, _, _, _, _, _, _, _, _, _, _, _, hS9, hEX, hPK.sr hEB hkW hpn3, hAR9.kp hkp9, hSC9.kp hkp9⟩
                | exact ⟨rfl, m, L, W, q, g, l0, u, v, n, w, p, r, hSy9.le (by omega), hEX, hPK, hAR9, hSC9⟩
          · skip
            refine x_aload C dL_exchange_398 7 rfl ?_
            refine x_iconst C dL_exchange_400 3 (by decide) ?_
            refine x_iload C dL_exchange_401 8 rfl ?_
            refine x_imul C dL_exchange_403 ?_
            refine x_iload C dL_exchange_404 9 rfl ?_
            refine x_iadd C dL_exchange_406 ?_
            refine x_iald C hp ⟨by omega, by omega⟩ (by decide) dL_exchange_407 ?_
            refine x_topv (show p (Int.toNat ((3 * (((k : Nat) : Int))) + (((pn : Nat) : Int)))) = m 21 0 (6 * k + pn) from by rw [e3]; exact k7p) ?_
            refine x_goto (tgt := 413) C dL_exchange_408 (by decide) ?_
            refine x_iast C hp ⟨by omega, by omega⟩ (by decide) dL_exchange_413 (x_hn (fun h45 e46 => ?_))
            have f47 : h45 (ar 7) = some (eI D 15 (fu p (Int.toNat ((3 * (((k : Nat) : Int))) + (((pn : Nat) : Int)))) (m 21 0 (6 * k + pn)))) := by rw [e46]; exact hu_s
            have f48 : h45 (ar 7) = some (eI D 15 p) := by have q9 := f47; rw [e3, ← k7p, fu_self] at q9; exact q9
            refine x_aload_n C dL_exchange_414 0 rfl ?_
            refine x_iconst C dL_exchange_415 5 (by decide) ?_
            refine x_iload C dL_exchange_416 8 rfl ?_
            refine x_iload C dL_exchange_418 9 rfl ?_
            refine x_iload C dL_exchange_420 10 rfl ?_
            have hSy9 : Sy D x ar m L W t h45 := by rw [e46]; repeat (first | exact hSy | exact hSyL | refine Sy.off ?_ (by decide))
            have hSC9 : SC D ar h45 := by rw [e46]; repeat (first | exact hSC | exact hSCL | refine SC.off hai ?_ (by decide))
            have f49 : h45 (ar 0) = some (eI D 5 q) := by rw [e46, hu_n (ari hai (i := 0) (j := 7) (by decide) (by decide) (by decide))]; exact hq
            have f50 : h45 (ar 1) = some (eJ D 60 g) := by rw [e46, hu_n (ari hai (i := 1) (j := 7) (by decide) (by decide) (by decide))]; exact hg
            have f51 : h45 (ar 2) = some (eI D 20 l0) := by rw [e46, hu_n (ari hai (i := 2) (j := 7) (by decide) (by decide) (by decide))]; exact hl0
            have f52 : h45 (ar 3) = some (eI D 60 u) := by rw [e46, hu_n (ari hai (i := 3) (j := 7) (by decide) (by decide) (by decide))]; exact hu
            have f53 : h45 (ar 4) = some (eI D 60 v) := by rw [e46, hu_n (ari hai (i := 4) (j := 7) (by decide) (by decide) (by decide))]; exact hv
            have f54 : h45 (ar 5) = some (eI D 10 n) := by rw [e46, hu_n (ari hai (i := 5) (j := 7) (by decide) (by decide) (by decide))]; exact hn
            have f55 : h45 (ar 6) = some (eI D 25 w) := by rw [e46, hu_n (ari hai (i := 6) (j := 7) (by decide) (by decide) (by decide))]; exact hw
            have f56 : h45 (ar 8) = some (eI D 18 r) := by rw [e46, hu_n (ari hai (i := 8) (j := 7) (by decide) (by decide) (by decide))]; exact hr
            have hAR9 : AR D ar q g l0 u v n w p r h45 := ⟨f49, f50, f51, f52, f53, f54, f55, f48, f56⟩
            obtain ⟨P9, hM9, hP9⟩ := k_star (l := kl κ) (A := A) hSy9 (u := k) (p := pn) (k := 1 + ((sn : Nat) : Int)) hkW (by omega) (by omega)
            refine x_callSh C (n := 5) (As := [.ref x, vI 5, vI ((k : Nat) : Int), vI ((pn : Nat) : Int), vI (1 + (((sn : Nat) : Int)))]) (rest := []) hM9 kn gL_exchange_L_calls (by decide +kernel) rfl rfl rfl (Nat.le_of_ble_eq_true rfl) ⟨by decide, by decide⟩ ⟨(by decide), (by decide)⟩ dL_exchange_422 (fun rv9 h9 hp9 => ?_)
            have hk9 := hP9 rv9 h9 hp9
            obtain ⟨hc9, rfl, he9⟩ := hk9.resolve_left (fun z9 => (by have y9 := z9.1; omega))
            obtain rfl := he9.symm
            refine x_iload C dL_exchange_425 11 rfl ?_
            refine x_icmp_ne (tgt := 434) C dL_exchange_427 (by decide) (by omega) (by omega) (fun c57 => ?_) (fun c57 => ?_)
            · exfalso; omega
            · skip
              refine x_iconst C dL_exchange_430 1 (by decide) ?_
              refine x_goto (tgt := 435) C dL_exchange_431 (by decide) ?_
              refine x_zret C G dL_exchange_435 (by first | exact Or.inl rfl | exact Or.inr rfl) ?_ (by decide) (by decide)
              first
                | (exfalso; omega)
                | exact ⟨rfl, _, _, _, _, _, _, _, _, _, _, _, _, hS9, hEX, hPK.sr hEB hkW hpn3, hAR9.kp hkp9, hSC9.kp hkp9⟩
                | exact ⟨rfl, m, L, W, q, g, l0, u, v, n, w, p, r, hSy9.le (by omega), hEX, hPK, hAR9, hSC9⟩
        · skip
          refine x_bipush C dL_exchange_367 (-5) (by decide) ?_
          refine x_goto (tgt := 382) C dL_exchange_369 (by decide) ?_
          refine x_istore C (ls' := [(0, .ref x), (1, vI 2), (2, .int zz), (3, .ref (ar 0)), (4, .ref (ar 1)), (5, .ref (ar 2)), (6, .ref (ar 6)), (7, .ref (ar 7)), (8, vI ((k : Nat) : Int)), (9, vI ((pn : Nat) : Int)), (10, vI (1 + (((sn : Nat) : Int)))), (11, vI (-5))]) dL_exchange_382 (by decide) rfl ?_
          refine x_aload C dL_exchange_384 7 rfl ?_
          refine x_iconst C dL_exchange_386 3 (by decide) ?_
          refine x_iload C dL_exchange_387 8 rfl ?_
          refine x_imul C dL_exchange_389 ?_
          refine x_iload C dL_exchange_390 9 rfl ?_
          refine x_iadd C dL_exchange_392 ?_
          refine x_iload C dL_exchange_393 11 rfl ?_
          refine x_if_ge (tgt := 411) C dL_exchange_395 (by decide) (by omega) (fun c58 => ?_) (fun c58 => ?_)
          · exfalso; omega
          · skip
            refine x_aload C dL_exchange_398 7 rfl ?_
            refine x_iconst C dL_exchange_400 3 (by decide) ?_
            refine x_iload C dL_exchange_401 8 rfl ?_
            refine x_imul C dL_exchange_403 ?_
            refine x_iload C dL_exchange_404 9 rfl ?_
            refine x_iadd C dL_exchange_406 ?_
            refine x_iald C hp ⟨by omega, by omega⟩ (by decide) dL_exchange_407 ?_
            refine x_topv (show p (Int.toNat ((3 * (((k : Nat) : Int))) + (((pn : Nat) : Int)))) = m 21 0 (6 * k + pn) from by rw [e3]; exact k7p) ?_
            refine x_goto (tgt := 413) C dL_exchange_408 (by decide) ?_
            refine x_iast C hp ⟨by omega, by omega⟩ (by decide) dL_exchange_413 (x_hn (fun h59 e60 => ?_))
            have f61 : h59 (ar 7) = some (eI D 15 (fu p (Int.toNat ((3 * (((k : Nat) : Int))) + (((pn : Nat) : Int)))) (m 21 0 (6 * k + pn)))) := by rw [e60]; exact hu_s
            have f62 : h59 (ar 7) = some (eI D 15 p) := by have q9 := f61; rw [e3, ← k7p, fu_self] at q9; exact q9
            refine x_aload_n C dL_exchange_414 0 rfl ?_
            refine x_iconst C dL_exchange_415 5 (by decide) ?_
            refine x_iload C dL_exchange_416 8 rfl ?_
            refine x_iload C dL_exchange_418 9 rfl ?_
            refine x_iload C dL_exchange_420 10 rfl ?_
            have hSy9 : Sy D x ar m L W t h59 := by rw [e60]; repeat (first | exact hSy | exact hSyL | refine Sy.off ?_ (by decide))
            have hSC9 : SC D ar h59 := by rw [e60]; repeat (first | exact hSC | exact hSCL | refine SC.off hai ?_ (by decide))
            have f63 : h59 (ar 0) = some (eI D 5 q) := by rw [e60, hu_n (ari hai (i := 0) (j := 7) (by decide) (by decide) (by decide))]; exact hq
            have f64 : h59 (ar 1) = some (eJ D 60 g) := by rw [e60, hu_n (ari hai (i := 1) (j := 7) (by decide) (by decide) (by decide))]; exact hg
            have f65 : h59 (ar 2) = some (eI D 20 l0) := by rw [e60, hu_n (ari hai (i := 2) (j := 7) (by decide) (by decide) (by decide))]; exact hl0
            have f66 : h59 (ar 3) = some (eI D 60 u) := by rw [e60, hu_n (ari hai (i := 3) (j := 7) (by decide) (by decide) (by decide))]; exact hu
            have f67 : h59 (ar 4) = some (eI D 60 v) := by rw [e60, hu_n (ari hai (i := 4) (j := 7) (by decide) (by decide) (by decide))]; exact hv
            have f68 : h59 (ar 5) = some (eI D 10 n) := by rw [e60, hu_n (ari hai (i := 5) (j := 7) (by decide) (by decide) (by decide))]; exact hn
            have f69 : h59 (ar 6) = some (eI D 25 w) := by rw [e60, hu_n (ari hai (i := 6) (j := 7) (by decide) (by decide) (by decide))]; exact hw
            have f70 : h59 (ar 8) = some (eI D 18 r) := by rw [e60, hu_n (ari hai (i := 8) (j := 7) (by decide) (by decide) (by decide))]; exact hr
            have hAR9 : AR D ar q g l0 u v n w p r h59 := ⟨f63, f64, f65, f66, f67, f68, f69, f62, f70⟩
            obtain ⟨P9, hM9, hP9⟩ := k_star (l := kl κ) (A := A) hSy9 (u := k) (p := pn) (k := 1 + ((sn : Nat) : Int)) hkW (by omega) (by omega)
            refine x_callSh C (n := 5) (As := [.ref x, vI 5, vI ((k : Nat) : Int), vI ((pn : Nat) : Int), vI (1 + (((sn : Nat) : Int)))]) (rest := []) hM9 kn gL_exchange_L_calls (by decide +kernel) rfl rfl rfl (Nat.le_of_ble_eq_true rfl) ⟨by decide, by decide⟩ ⟨(by decide), (by decide)⟩ dL_exchange_422 (fun rv9 h9 hp9 => ?_)
            have hk9 := hP9 rv9 h9 hp9
            obtain ⟨hc9, rfl, he9⟩ := hk9.resolve_left (fun z9 => (by have y9 := z9.1; omega))
            obtain rfl := he9.symm
            refine x_iload C dL_exchange_425 11 rfl ?_
            refine x_icmp_ne (tgt := 434) C dL_exchange_427 (by decide) (by omega) (by omega) (fun c71 => ?_) (fun c71 => ?_)
            · exfalso; omega
            · skip
              refine x_iconst C dL_exchange_430 1 (by decide) ?_
              refine x_goto (tgt := 435) C dL_exchange_431 (by decide) ?_
              refine x_zret C G dL_exchange_435 (by first | exact Or.inl rfl | exact Or.inr rfl) ?_ (by decide) (by decide)
              first
                | (exfalso; omega)
                | exact ⟨rfl, _, _, _, _, _, _, _, _, _, _, _, _, hS9, hEX, hPK.sr hEB hkW hpn3, hAR9.kp hkp9, hSC9.kp hkp9⟩
                | exact ⟨rfl, m, L, W, q, g, l0, u, v, n, w, p, r, hSy9.le (by omega), hEX, hPK, hAR9, hSC9⟩
    · exfalso; omega
  · exfalso; omega


/-! ===== edits ===== -/
theorem ly7 {f : Nat → Int} (hA : lyA f 96 ≤ 7) : 7 ≤ lyA f 96 ↔ 3 ≤ cnK f 96 := by
  have h1 := lyA_k f 96
  constructor
  · intro h
    apply Classical.byContradiction
    intro q
    have h2 : 2 ^ cnK f 96 ≤ 2 ^ 2 := Nat.pow_le_pow_right (by decide) (by omega)
    omega
  · intro h
    have h2 : 2 ^ 3 ≤ 2 ^ cnK f 96 := Nat.pow_le_pow_right (by decide) h
    omega
theorem gk0_e {m : CS} {L W : Nat} {q : Nat → Int} {g : Nat → Int64} {l0 u v n w p r : Nat → Int} (hP : PK m L W q g l0 u v n w p r) {k : Nat} (hk : k < L) : cnK (gk0 m k) 96 = cnK (gk g (6 * k)) 96 := cnK_c (fun z hz => ((hP.2.2.1 k hk).2.2.2.2.1 z hz).symm)
theorem Sy.r8 {D : va_G} {x t L W : Nat} {ar : Nat → Nat} {m : CS} {h : vh} {q : Nat → Int} {g : Nat → Int64} {l0 u v n w p r : Nat → Int} (hS : Sy D x ar m L W t h) (hP : PK m L W q g l0 u v n w p r) {i j : Nat} (hi : i < L) (hj : (j : Int) < n (5 + i)) : m 13 0 (40 * i + j) % 10 ≤ 8 := by
  obtain ⟨ad, c, hR, hx, hC, hs, hB, hn⟩ := hS
  have h1 := (hs.2.2.1 i hi).2
  have k7 := (hP.2.2.1 i hi).2.2.2.2.2.2.1
  have h2 := h1.2.2.2.2 j (by have := h1.2.1; omega)
  have h3 := (hC.2.2.1 i hi).2.2.2
  have h5 := h3.2.1 (c 14 i 3 + c 14 i 4 - 1 - j).toNat
  have h6 := h3.2.2 (c 14 i 3 + c 14 i 4 - 1 - j).toNat
  omega

set_option maxRecDepth 100000 in
set_option maxHeartbeats 4000000 in
theorem c_L_edits0 {l : Launch} {D : va_G} {A : Nat → Prop} {h : vh} {x t L W : Nat} {ar : Nat → Nat} {m : CS} {g : Nat → Int64} {q l0 u v n w p r : Nat → Int} {zz : Int32} (hq : h (ar 0) = some (eI D 5 q)) (hg : h (ar 1) = some (eJ D 60 g)) (hl0 : h (ar 2) = some (eI D 20 l0)) (hu : h (ar 3) = some (eI D 60 u)) (hv : h (ar 4) = some (eI D 60 v)) (hn : h (ar 5) = some (eI D 10 n)) (hw : h (ar 6) = some (eI D 25 w)) (hp : h (ar 7) = some (eI D 15 p)) (hr : h (ar 8) = some (eI D 18 r)) (hai : ∀ i j, i < 16 → j < 16 → ar i = ar j → i = j) (hSy : Sy D x ar m L W t h) (hEX : EX m) (hPK : PK m L W q g l0 u v n w p r) (hSC : SC D ar h) (hL : 0 < L) : HX l D A yL_edits wsL_edits { frames := 9, cells := 3, slots := 18, locals := 162 } [.ref x, vI 0, .int zz, .ref (ar 0), .ref (ar 1), .ref (ar 2), .ref (ar 3), .ref (ar 4), .ref (ar 5)] h (fun rv h' => rv = some (vI 1) ∧ WD D x ar (t + 1) h') := by
  refine HX.ofc (cc := cL_edits) (maxL := 15) (ret := (some .boolean)) [(0, .ref x), (1, vI 0), (2, .int zz), (3, .ref (ar 0)), (4, .ref (ar 1)), (5, .ref (ar 2)), (6, .ref (ar 3)), (7, .ref (ar 4)), (8, .ref (ar 5))] (by decide +kernel) rfl rfl (Nat.le_of_ble_eq_true rfl) ?_
  intro κ C hkl G kn
  subst hkl
  have C : CX κ "LedgeLevelsLaw" "edits" cL_edits wsL_edits { frames := 9, cells := 3, slots := 18, locals := 162 } D A 15 := C
  have hiz : nq (D.1 20) (D.1 21) := cx_iz C
  obtain ⟨⟨hL5, hW5, hq0, hq1⟩, hqs, hPL, _⟩ := id hPK
  obtain ⟨k, hk⟩ : ∃ k : Nat, k = lowF zz ((L : Nat) : Int) := ⟨_, rfl⟩
  have hkL : k < L := by
    have := lowF_lt (v := zz) (n := ((L : Nat) : Int)) (by omega)
    omega
  obtain ⟨hA7, hf8, hst, hpr, hau⟩ := hSy.lev hPK hkL
  have hEB := hSy.eb hPK
  obtain ⟨hn0, hn1, hn12⟩ := (hEB k hkL).1
  obtain ⟨k1, k2, k3, k4, k5, k6, k7, k8, k9, k10⟩ := hPL k hkL
  have e6k : (6 * ((k : Nat) : Int)).toNat = 6 * k := by omega
  have e41 : Int.toNat (4 * ((k : Nat) : Int) + 1) = 4 * k + 1 := by omega
  have e42 : Int.toNat (4 * ((k : Nat) : Int) + 2) = 4 * k + 2 := by omega
  have e5k : Int.toNat (5 + ((k : Nat) : Int)) = 5 + k := by omega
  obtain ⟨kd, hkd⟩ : ∃ kd : Nat, kd = lowF (zz >>> ((iI 5) &&& 31)) 9 := ⟨_, rfl⟩
  have hkd9 : kd < 9 := by
    have := lowF_lt (v := zz >>> ((iI 5) &&& 31)) (n := 9) (by omega)
    omega
  obtain ⟨kk, hkk⟩ : ∃ kk : Nat, kk = lyA (gk g (6 * k)) 96 := ⟨_, rfl⟩
  have hK3 : 7 ≤ kk ↔ 3 ≤ cnK (gk0 m k) 96 := by rw [hkk, gk0_e hPK hkL]; exact ly7 hA7
  refine x_iload_n C dL_edits_0 2 rfl ?_
  refine x_aload_n C dL_edits_1 3 rfl ?_
  refine x_iconst C dL_edits_2 0 (by decide) ?_
  refine x_iald C hq ⟨by omega, by omega⟩ (by decide) dL_edits_3 ?_
  refine x_topv (show q (Int.toNat 0) = ((L : Nat) : Int) from by exact hq0) ?_
  refine x_callSJ C (n := 2) (As := [.int zz, vI ((L : Nat) : Int)]) (rest := []) (c_L_low (by omega)) gL_edits_L_low (by decide +kernel) rfl rfl rfl (Nat.le_of_ble_eq_true rfl) ⟨by decide, by decide⟩ ⟨(by decide), (by decide)⟩ dL_edits_4 (fun rv1 h2 hp3 => ?_)
  obtain ⟨rfl, e4, hr_4⟩ := hp3
  obtain rfl := e4.symm
  refine x_topv (show ((lowF zz (((L : Nat) : Int)) : Nat) : Int) = ((k : Nat) : Int) from by rw [hk]) ?_
  refine x_istore C (ls' := [(0, .ref x), (1, vI 0), (2, .int zz), (3, .ref (ar 0)), (4, .ref (ar 1)), (5, .ref (ar 2)), (6, .ref (ar 3)), (7, .ref (ar 4)), (8, .ref (ar 5)), (9, vI ((k : Nat) : Int))]) dL_edits_7 (by decide) rfl ?_
  refine x_iload_n C dL_edits_9 1 rfl ?_
  refine x_if_ne (tgt := 263) C dL_edits_10 (by decide) (by omega) (fun c5 => ?_) (fun c5 => ?_)
  · exfalso; omega
  · skip
    have CZ : ∀ (z9 : Nat)   (hz9 : z9 < 96), X κ 0 0 h [(0, .ref x), (1, vI 0), (2, .int zz), (3, .ref (ar 0)), (4, .ref (ar 1)), (5, .ref (ar 2)), (6, .ref (ar 3)), (7, .ref (ar 4)), (8, .ref (ar 5)), (9, vI ((k : Nat) : Int)), (10, vI ((z9 : Nat) : Int))] 61 [] := by
      intro z9 hz9
      have hw8 := hf8 z9
      rw [k5 z9 hz9] at hw8
      refine x_iload_n C dL_edits_61 2 rfl ?_
      refine x_iconst C dL_edits_62 5 (by decide) ?_
      refine x_ishr C dL_edits_63 _ rfl ?_
      refine x_bipush C dL_edits_64 9 (by decide) ?_
      refine x_callSJ C (n := 2) (As := [.int (zz >>> ((iI 5) &&& 31)), vI 9]) (rest := []) (c_L_low (by omega)) gL_edits_L_low (by decide +kernel) rfl rfl rfl (Nat.le_of_ble_eq_true rfl) ⟨by decide, by decide⟩ ⟨(by decide), (by decide)⟩ dL_edits_66 (fun rv7 h8 hp9 => ?_)
      obtain ⟨rfl, e10, hr_66⟩ := hp9
      obtain rfl := e10.symm
      refine x_topv (show ((lowF (zz >>> ((iI 5) &&& 31)) 9 : Nat) : Int) = ((kd : Nat) : Int) from by rw [hkd]) ?_
      refine x_istore C (ls' := [(0, .ref x), (1, vI 0), (2, .int zz), (3, .ref (ar 0)), (4, .ref (ar 1)), (5, .ref (ar 2)), (6, .ref (ar 3)), (7, .ref (ar 4)), (8, .ref (ar 5)), (9, vI ((k : Nat) : Int)), (10, vI ((z9 : Nat) : Int)), (11, vI ((kd : Nat) : Int))]) dL_edits_69 (by decide) rfl ?_
      refine x_aload C dL_edits_71 4 rfl ?_
      refine x_bipush C dL_edits_73 6 (by decide) ?_
      refine x_iload C dL_edits_75 9 rfl ?_
      refine x_imul C dL_edits_77 ?_
      refine x_iload C dL_edits_78 10 rfl ?_
      refine x_callSJ C (n := 3) (As := [.ref (ar 1), vI (6 * (((k : Nat) : Int))), vI ((z9 : Nat) : Int)]) (rest := []) (c_L_get hg (by omega) (by omega)) gL_edits_L_get (by decide +kernel) rfl rfl rfl (Nat.le_of_ble_eq_true rfl) ⟨by decide, by decide⟩ ⟨(by decide), (by decide)⟩ dL_edits_80 (fun rv11 h12 hp13 => ?_)
      obtain ⟨rfl, e14⟩ := hp13
      obtain rfl := e14.symm
      refine x_topv (show gk g (6 * (((k : Nat) : Int))).toNat z9 = m 4 0 (96 * k + z9) from by rw [e6k]; exact k5 z9 hz9) ?_
      refine x_istore C (ls' := [(0, .ref x), (1, vI 0), (2, .int zz), (3, .ref (ar 0)), (4, .ref (ar 1)), (5, .ref (ar 2)), (6, .ref (ar 3)), (7, .ref (ar 4)), (8, .ref (ar 5)), (9, vI ((k : Nat) : Int)), (10, vI ((z9 : Nat) : Int)), (11, vI ((kd : Nat) : Int)), (12, vI (m 4 0 (96 * k + z9)))]) dL_edits_83 (by decide) rfl ?_
      refine x_aload C dL_edits_85 4 rfl ?_
      refine x_bipush C dL_edits_87 6 (by decide) ?_
      refine x_iload C dL_edits_89 9 rfl ?_
      refine x_imul C dL_edits_91 ?_
      refine x_bipush C dL_edits_92 96 (by decide) ?_
      refine x_callSJ C (n := 3) (As := [.ref (ar 1), vI (6 * (((k : Nat) : Int))), vI 96]) (rest := []) (c_L_keys (b := (96 : Int)) hg (by omega) (by omega)) gL_edits_L_keys (by decide +kernel) rfl rfl rfl (Nat.le_of_ble_eq_true rfl) ⟨by decide, by decide⟩ ⟨(by decide), (by decide)⟩ dL_edits_94 (fun rv15 h16 hp17 => ?_)
      obtain ⟨rfl, e18⟩ := hp17
      obtain rfl := e18.symm
      refine x_topv (show ((lyA (gk g (6 * (((k : Nat) : Int))).toNat) ((96 : Int)).toNat : Nat) : Int) = ((kk : Nat) : Int) from by rw [hkk, e6k]; rfl) ?_
      refine x_istore C (ls' := [(0, .ref x), (1, vI 0), (2, .int zz), (3, .ref (ar 0)), (4, .ref (ar 1)), (5, .ref (ar 2)), (6, .ref (ar 3)), (7, .ref (ar 4)), (8, .ref (ar 5)), (9, vI ((k : Nat) : Int)), (10, vI ((z9 : Nat) : Int)), (11, vI ((kd : Nat) : Int)), (12, vI (m 4 0 (96 * k + z9))), (13, vI ((kk : Nat) : Int))]) dL_edits_97 (by decide) rfl ?_
      have CC : ∀ (cn : Int)   (hcn : (cn = 1 ∧ ¬ (kd = 2 ∧ m 4 0 (96 * k + z9) ≠ 2 ∧ 7 ≤ kk)) ∨ (cn = 0 ∧ (kd = 2 ∧ m 4 0 (96 * k + z9) ≠ 2 ∧ 7 ≤ kk))), X κ 0 0 h [(0, .ref x), (1, vI 0), (2, .int zz), (3, .ref (ar 0)), (4, .ref (ar 1)), (5, .ref (ar 2)), (6, .ref (ar 3)), (7, .ref (ar 4)), (8, .ref (ar 5)), (9, vI ((k : Nat) : Int)), (10, vI ((z9 : Nat) : Int)), (11, vI ((kd : Nat) : Int)), (12, vI (m 4 0 (96 * k + z9))), (14, vI cn)] 125 [] := by
        intro cn hcn
        refine x_aload C dL_edits_125 8 rfl ?_
        refine x_iload C dL_edits_127 9 rfl ?_
        refine x_iald C hn ⟨by omega, by omega⟩ (by decide) dL_edits_129 ?_
        refine x_topv (show n (Int.toNat (((k : Nat) : Int))) = n k from by rfl) ?_
        refine x_bipush C dL_edits_130 12 (by decide) ?_
        refine x_icmp_eq (tgt := 154) C dL_edits_132 (by decide) (by omega) (by omega) (fun c20 => ?_) (fun c20 => ?_)
        · skip
          refine x_iconst C dL_edits_154 1 (by decide) ?_
          refine x_zret C G dL_edits_155 (by first | exact Or.inl rfl | exact Or.inr rfl) ?_ (by decide) (by decide)
          refine ⟨rfl, m, L, W, q, g, l0, u, v, n, w, p, r, hSy.le (by omega), hEX, hPK, ⟨hq, hg, hl0, hu, hv, hn, hw, hp, hr⟩, hSC⟩
        · skip
          refine x_iload C dL_edits_135 10 rfl ?_
          refine x_aload C dL_edits_137 5 rfl ?_
          refine x_iconst C dL_edits_139 4 (by decide) ?_
          refine x_iload C dL_edits_140 9 rfl ?_
          refine x_imul C dL_edits_142 ?_
          refine x_iconst C dL_edits_143 1 (by decide) ?_
          refine x_iadd C dL_edits_144 ?_
          refine x_iald C hl0 ⟨by omega, by omega⟩ (by decide) dL_edits_145 ?_
          refine x_topv (show l0 (Int.toNat ((4 * (((k : Nat) : Int))) + 1)) = l0 (4 * k + 1) from by rw [e41]) ?_
          refine x_icmp_ne (tgt := 156) C dL_edits_146 (by decide) (by omega) (by omega) (fun c21 => ?_) (fun c21 => ?_)
          · skip
            refine x_iload C dL_edits_156 13 rfl ?_
            refine x_if_eq (tgt := 231) C dL_edits_158 (by decide) (by omega) (fun c22 => ?_) (fun c22 => ?_)
            · skip
              refine x_aload_n C dL_edits_231 0 rfl ?_
              refine x_iconst C dL_edits_232 0 (by decide) ?_
              refine x_iload C dL_edits_233 9 rfl ?_
              refine x_iload C dL_edits_235 10 rfl ?_
              refine x_iload C dL_edits_237 11 rfl ?_
              have hSy9 : Sy D x ar m L W t h := by repeat (first | exact hSy | refine Sy.off ?_ (by decide))
              have hSC9 : SC D ar h := by repeat (first | exact hSC | refine SC.off hai ?_ (by decide))
              have hAR9 : AR D ar q g l0 u v n w p r h := ⟨hq, hg, hl0, hu, hv, hn, hw, hp, hr⟩
              obtain ⟨P9, hM9, hP9⟩ := k_set (l := kl κ) (A := A) hSy9 (u := k) (z := ((z9 : Nat) : Int)) (k := ((kd : Nat) : Int)) hkL (by omega) (by omega)
              refine x_callSh C (n := 5) (As := [.ref x, vI 0, vI ((k : Nat) : Int), vI ((z9 : Nat) : Int), vI ((kd : Nat) : Int)]) (rest := []) hM9 kn gL_edits_L_calls (by decide +kernel) rfl rfl rfl (Nat.le_of_ble_eq_true rfl) ⟨by decide, by decide⟩ ⟨(by decide), (by decide)⟩ dL_edits_239 (fun rv9 h9 hp9 => ?_)
              have hk9 := hP9 rv9 h9 hp9
              simp only [Int.toNat_natCast] at hk9
              obtain ⟨hc9, rfl, he9⟩ := hk9.resolve_left (fun z9 => (by have y9 := z9.1; omega))
              obtain rfl := he9.symm
              refine x_iload C dL_edits_242 13 rfl ?_
              refine x_if_eq (tgt := 252) C dL_edits_244 (by decide) (by omega) (fun c23 => ?_) (fun c23 => ?_)
              · skip
                refine x_bipush C dL_edits_252 (-5) (by decide) ?_
                refine x_icmp_ne (tgt := 261) C dL_edits_254 (by decide) (by omega) (by omega) (fun c24 => ?_) (fun c24 => ?_)
                · exfalso; omega
                · skip
                  refine x_iconst C dL_edits_257 1 (by decide) ?_
                  refine x_goto (tgt := 262) C dL_edits_258 (by decide) ?_
                  refine x_zret C G dL_edits_262 (by first | exact Or.inl rfl | exact Or.inr rfl) ?_ (by decide) (by decide)
                  first
                    | exact ⟨rfl, _, _, _, _, _, _, _, _, _, _, _, _, hS9, hEX, PK.ed hPK hEB hkL hz9 (by omega) (by omega), hAR9.kp hkp9, hSC9.kp hkp9⟩
                    | exact ⟨rfl, m, L, W, q, g, l0, u, v, n, w, p, r, hSy.le (by omega), hEX, hPK, ⟨hq, hg, hl0, hu, hv, hn, hw, hp, hr⟩, hSC⟩
              · skip
                refine x_iload C dL_edits_247 12 rfl ?_
                refine x_goto (tgt := 254) C dL_edits_249 (by decide) ?_
                refine x_icmp_ne (tgt := 261) C dL_edits_254 (by decide) (by omega) (by omega) (fun c25 => ?_) (fun c25 => ?_)
                · exfalso; omega
                · skip
                  refine x_iconst C dL_edits_257 1 (by decide) ?_
                  refine x_goto (tgt := 262) C dL_edits_258 (by decide) ?_
                  refine x_zret C G dL_edits_262 (by first | exact Or.inl rfl | exact Or.inr rfl) ?_ (by decide) (by decide)
                  first
                    | exact ⟨rfl, _, _, _, _, _, _, _, _, _, _, _, _, hS9, hEX, PK.ed hPK hEB hkL hz9 (by omega) (by omega), hAR9.kp hkp9, hSC9.kp hkp9⟩
                    | exact ⟨rfl, m, L, W, q, g, l0, u, v, n, w, p, r, hSy.le (by omega), hEX, hPK, ⟨hq, hg, hl0, hu, hv, hn, hw, hp, hr⟩, hSC⟩
            · skip
              refine x_aload C dL_edits_161 4 rfl ?_
              refine x_bipush C dL_edits_163 6 (by decide) ?_
              refine x_iload C dL_edits_165 9 rfl ?_
              refine x_imul C dL_edits_167 ?_
              refine x_iload C dL_edits_168 10 rfl ?_
              refine x_iload C dL_edits_170 11 rfl ?_
              refine x_callSJ C (n := 4) (As := [.ref (ar 1), vI (6 * (((k : Nat) : Int))), vI ((z9 : Nat) : Int), vI ((kd : Nat) : Int)]) (rest := []) (c_L_put hg (by omega) (by omega) (by omega)) gL_edits_L_put (by decide +kernel) rfl rfl rfl (Nat.le_of_ble_eq_true rfl) ⟨by decide, by decide⟩ ⟨(by decide), (by decide)⟩ dL_edits_172 (fun rv26 h27 hp28 => ?_)
              obtain ⟨rfl, e29⟩ := hp28
              have f30 : h27 (ar 1) = some (eJ D 60 (gput g (6 * (((k : Nat) : Int))).toNat z9 kd)) := by rw [e29]; exact hu_s
              refine x_aload C dL_edits_175 6 rfl ?_
              refine x_bipush C dL_edits_177 12 (by decide) ?_
              refine x_iload C dL_edits_179 9 rfl ?_
              refine x_imul C dL_edits_181 ?_
              refine x_aload C dL_edits_182 8 rfl ?_
              refine x_iload C dL_edits_184 9 rfl ?_
              have f31 : h27 (ar 5) = some (eI D 10 n) := by rw [e29, hu_n (ari hai (i := 5) (j := 1) (by decide) (by decide) (by decide))]; exact hn
              refine x_iald C f31 ⟨by omega, by omega⟩ (by decide) dL_edits_186 ?_
              refine x_topv (show n (Int.toNat (((k : Nat) : Int))) = n k from by rfl) ?_
              refine x_iadd C dL_edits_187 ?_
              refine x_bipush C dL_edits_188 100 (by decide) ?_
              refine x_iload C dL_edits_190 10 rfl ?_
              refine x_imul C dL_edits_192 ?_
              refine x_bipush C dL_edits_193 10 (by decide) ?_
              refine x_iload C dL_edits_195 12 rfl ?_
              refine x_imul C dL_edits_197 ?_
              refine x_iadd C dL_edits_198 ?_
              refine x_iload C dL_edits_199 11 rfl ?_
              refine x_iadd C dL_edits_201 ?_
              have f32 : h27 (ar 3) = some (eI D 60 u) := by rw [e29, hu_n (ari hai (i := 3) (j := 1) (by decide) (by decide) (by decide))]; exact hu
              refine x_iast C f32 ⟨by omega, by omega⟩ (by decide) dL_edits_202 (x_hn (fun h33 e34 => ?_))
              have f35 : h33 (ar 3) = some (eI D 60 (fu u (Int.toNat ((12 * (((k : Nat) : Int))) + (n k))) (((100 * (((z9 : Nat) : Int))) + (10 * (m 4 0 (96 * k + z9)))) + (((kd : Nat) : Int))))) := by rw [e34]; exact hu_s
              refine x_aload C dL_edits_203 8 rfl ?_
              refine x_iload C dL_edits_205 9 rfl ?_
              refine x_dup2 C dL_edits_207 rfl rfl ?_
              have f36 : h33 (ar 5) = some (eI D 10 n) := by rw [e34, hu_n (ari hai (i := 5) (j := 3) (by decide) (by decide) (by decide))]; exact f31
              refine x_iald C f36 ⟨by omega, by omega⟩ (by decide) dL_edits_208 ?_
              refine x_topv (show n (Int.toNat (((k : Nat) : Int))) = n k from by rfl) ?_
              refine x_iconst C dL_edits_209 1 (by decide) ?_
              refine x_iadd C dL_edits_210 ?_
              refine x_iast C f36 ⟨by omega, by omega⟩ (by decide) dL_edits_211 (x_hn (fun h37 e38 => ?_))
              have f39 : h37 (ar 5) = some (eI D 10 (fu n (Int.toNat (((k : Nat) : Int))) ((n k) + 1))) := by rw [e38]; exact hu_s
              refine x_aload C dL_edits_212 8 rfl ?_
              refine x_iconst C dL_edits_214 5 (by decide) ?_
              refine x_iload C dL_edits_215 9 rfl ?_
              refine x_iadd C dL_edits_217 ?_
              refine x_iconst C dL_edits_218 0 (by decide) ?_
              refine x_iast C f39 ⟨by omega, by omega⟩ (by decide) dL_edits_219 (x_hn (fun h40 e41 => ?_))
              have f42 : h40 (ar 5) = some (eI D 10 (fu (fu n (Int.toNat (((k : Nat) : Int))) ((n k) + 1)) (Int.toNat (5 + (((k : Nat) : Int)))) 0)) := by rw [e41]; exact hu_s
              refine x_aload C dL_edits_220 5 rfl ?_
              refine x_iconst C dL_edits_222 4 (by decide) ?_
              refine x_iload C dL_edits_223 9 rfl ?_
              refine x_imul C dL_edits_225 ?_
              refine x_iconst C dL_edits_226 2 (by decide) ?_
              refine x_iadd C dL_edits_227 ?_
              refine x_bipush C dL_edits_228 (-2) (by decide) ?_
              have f43 : h27 (ar 2) = some (eI D 20 l0) := by rw [e29, hu_n (ari hai (i := 2) (j := 1) (by decide) (by decide) (by decide))]; exact hl0
              have f44 : h33 (ar 2) = some (eI D 20 l0) := by rw [e34, hu_n (ari hai (i := 2) (j := 3) (by decide) (by decide) (by decide))]; exact f43
              have f45 : h37 (ar 2) = some (eI D 20 l0) := by rw [e38, hu_n (ari hai (i := 2) (j := 5) (by decide) (by decide) (by decide))]; exact f44
              have f46 : h40 (ar 2) = some (eI D 20 l0) := by rw [e41, hu_n (ari hai (i := 2) (j := 5) (by decide) (by decide) (by decide))]; exact f45
              refine x_iast C f46 ⟨by omega, by omega⟩ (by decide) dL_edits_230 (x_hn (fun h47 e48 => ?_))
              have f49 : h47 (ar 2) = some (eI D 20 (fu l0 (Int.toNat ((4 * (((k : Nat) : Int))) + 2)) ((-2)))) := by rw [e48]; exact hu_s
              have f50 : h33 (ar 1) = some (eJ D 60 (gput g (6 * (((k : Nat) : Int))).toNat z9 kd)) := by rw [e34, hu_n (ari hai (i := 1) (j := 3) (by decide) (by decide) (by decide))]; exact f30
              have f51 : h37 (ar 1) = some (eJ D 60 (gput g (6 * (((k : Nat) : Int))).toNat z9 kd)) := by rw [e38, hu_n (ari hai (i := 1) (j := 5) (by decide) (by decide) (by decide))]; exact f50
              have f52 : h40 (ar 1) = some (eJ D 60 (gput g (6 * (((k : Nat) : Int))).toNat z9 kd)) := by rw [e41, hu_n (ari hai (i := 1) (j := 5) (by decide) (by decide) (by decide))]; exact f51
              have f53 : h47 (ar 1) = some (eJ D 60 (gput g (6 * (((k : Nat) : Int))).toNat z9 kd)) := by rw [e48, hu_n (ari hai (i := 1) (j := 2) (by decide) (by decide) (by decide))]; exact f52
              have f54 : h47 (ar 1) = some (eJ D 60 (gput g (6 * k) z9 kd)) := by have q9 := f53; rw [e6k] at q9; exact q9
              have f55 : h37 (ar 3) = some (eI D 60 (fu u (Int.toNat ((12 * (((k : Nat) : Int))) + (n k))) (((100 * (((z9 : Nat) : Int))) + (10 * (m 4 0 (96 * k + z9)))) + (((kd : Nat) : Int))))) := by rw [e38, hu_n (ari hai (i := 3) (j := 5) (by decide) (by decide) (by decide))]; exact f35
              have f56 : h40 (ar 3) = some (eI D 60 (fu u (Int.toNat ((12 * (((k : Nat) : Int))) + (n k))) (((100 * (((z9 : Nat) : Int))) + (10 * (m 4 0 (96 * k + z9)))) + (((kd : Nat) : Int))))) := by rw [e41, hu_n (ari hai (i := 3) (j := 5) (by decide) (by decide) (by decide))]; exact f55
              have f57 : h47 (ar 3) = some (eI D 60 (fu u (Int.toNat ((12 * (((k : Nat) : Int))) + (n k))) (((100 * (((z9 : Nat) : Int))) + (10 * (m 4 0 (96 * k + z9)))) + (((kd : Nat) : Int))))) := by rw [e48, hu_n (ari hai (i := 3) (j := 2) (by decide) (by decide) (by decide))]; exact f56
              have f58 : h47 (ar 3) = some (eI D 60 (fu u (12 * k + (n k).toNat) (100 * ((z9 : Nat) : Int) + 10 * m 4 0 (96 * k + z9) + ((kd : Nat) : Int)))) := by have q9 := f57; rw [show Int.toNat (12 * ((k : Nat) : Int) + n k) = 12 * k + (n k).toNat by omega] at q9; exact q9
              have f59 : h47 (ar 5) = some (eI D 10 (fu (fu n (Int.toNat (((k : Nat) : Int))) ((n k) + 1)) (Int.toNat (5 + (((k : Nat) : Int)))) 0)) := by rw [e48, hu_n (ari hai (i := 5) (j := 2) (by decide) (by decide) (by decide))]; exact f42
              have f60 : h47 (ar 5) = some (eI D 10 (fu (fu n k (n k + 1)) (5 + k) 0)) := by have q9 := f59; rw [e5k] at q9; exact q9
              have f61 : h47 (ar 2) = some (eI D 20 (fu l0 (4 * k + 2) (-2))) := by have q9 := f49; rw [e42] at q9; exact q9
              refine x_aload_n C dL_edits_231 0 rfl ?_
              refine x_iconst C dL_edits_232 0 (by decide) ?_
              refine x_iload C dL_edits_233 9 rfl ?_
              refine x_iload C dL_edits_235 10 rfl ?_
              refine x_iload C dL_edits_237 11 rfl ?_
              have hSy9 : Sy D x ar m L W t h47 := by rw [e48, e41, e38, e34, e29]; repeat (first | exact hSy | refine Sy.off ?_ (by decide))
              have hSC9 : SC D ar h47 := by rw [e48, e41, e38, e34, e29]; repeat (first | exact hSC | refine SC.off hai ?_ (by decide))
              have f62 : h27 (ar 0) = some (eI D 5 q) := by rw [e29, hu_n (ari hai (i := 0) (j := 1) (by decide) (by decide) (by decide))]; exact hq
              have f63 : h33 (ar 0) = some (eI D 5 q) := by rw [e34, hu_n (ari hai (i := 0) (j := 3) (by decide) (by decide) (by decide))]; exact f62
              have f64 : h37 (ar 0) = some (eI D 5 q) := by rw [e38, hu_n (ari hai (i := 0) (j := 5) (by decide) (by decide) (by decide))]; exact f63
              have f65 : h40 (ar 0) = some (eI D 5 q) := by rw [e41, hu_n (ari hai (i := 0) (j := 5) (by decide) (by decide) (by decide))]; exact f64
              have f66 : h47 (ar 0) = some (eI D 5 q) := by rw [e48, hu_n (ari hai (i := 0) (j := 2) (by decide) (by decide) (by decide))]; exact f65
              have f67 : h27 (ar 4) = some (eI D 60 v) := by rw [e29, hu_n (ari hai (i := 4) (j := 1) (by decide) (by decide) (by decide))]; exact hv
              have f68 : h33 (ar 4) = some (eI D 60 v) := by rw [e34, hu_n (ari hai (i := 4) (j := 3) (by decide) (by decide) (by decide))]; exact f67
              have f69 : h37 (ar 4) = some (eI D 60 v) := by rw [e38, hu_n (ari hai (i := 4) (j := 5) (by decide) (by decide) (by decide))]; exact f68
              have f70 : h40 (ar 4) = some (eI D 60 v) := by rw [e41, hu_n (ari hai (i := 4) (j := 5) (by decide) (by decide) (by decide))]; exact f69
              have f71 : h47 (ar 4) = some (eI D 60 v) := by rw [e48, hu_n (ari hai (i := 4) (j := 2) (by decide) (by decide) (by decide))]; exact f70
              have f72 : h27 (ar 6) = some (eI D 25 w) := by rw [e29, hu_n (ari hai (i := 6) (j := 1) (by decide) (by decide) (by decide))]; exact hw
              have f73 : h33 (ar 6) = some (eI D 25 w) := by rw [e34, hu_n (ari hai (i := 6) (j := 3) (by decide) (by decide) (by decide))]; exact f72
              have f74 : h37 (ar 6) = some (eI D 25 w) := by rw [e38, hu_n (ari hai (i := 6) (j := 5) (by decide) (by decide) (by decide))]; exact f73
              have f75 : h40 (ar 6) = some (eI D 25 w) := by rw [e41, hu_n (ari hai (i := 6) (j := 5) (by decide) (by decide) (by decide))]; exact f74
              have f76 : h47 (ar 6) = some (eI D 25 w) := by rw [e48, hu_n (ari hai (i := 6) (j := 2) (by decide) (by decide) (by decide))]; exact f75
              have f77 : h27 (ar 7) = some (eI D 15 p) := by rw [e29, hu_n (ari hai (i := 7) (j := 1) (by decide) (by decide) (by decide))]; exact hp
              have f78 : h33 (ar 7) = some (eI D 15 p) := by rw [e34, hu_n (ari hai (i := 7) (j := 3) (by decide) (by decide) (by decide))]; exact f77
              have f79 : h37 (ar 7) = some (eI D 15 p) := by rw [e38, hu_n (ari hai (i := 7) (j := 5) (by decide) (by decide) (by decide))]; exact f78
              have f80 : h40 (ar 7) = some (eI D 15 p) := by rw [e41, hu_n (ari hai (i := 7) (j := 5) (by decide) (by decide) (by decide))]; exact f79
              have f81 : h47 (ar 7) = some (eI D 15 p) := by rw [e48, hu_n (ari hai (i := 7) (j := 2) (by decide) (by decide) (by decide))]; exact f80
              have f82 : h27 (ar 8) = some (eI D 18 r) := by rw [e29, hu_n (ari hai (i := 8) (j := 1) (by decide) (by decide) (by decide))]; exact hr
              have f83 : h33 (ar 8) = some (eI D 18 r) := by rw [e34, hu_n (ari hai (i := 8) (j := 3) (by decide) (by decide) (by decide))]; exact f82
              have f84 : h37 (ar 8) = some (eI D 18 r) := by rw [e38, hu_n (ari hai (i := 8) (j := 5) (by decide) (by decide) (by decide))]; exact f83
              have f85 : h40 (ar 8) = some (eI D 18 r) := by rw [e41, hu_n (ari hai (i := 8) (j := 5) (by decide) (by decide) (by decide))]; exact f84
              have f86 : h47 (ar 8) = some (eI D 18 r) := by rw [e48, hu_n (ari hai (i := 8) (j := 2) (by decide) (by decide) (by decide))]; exact f85
              have hAR9 : AR D ar q (gput g (6 * k) z9 kd) (fu l0 (4 * k + 2) (-2)) (fu u (12 * k + (n k).toNat) (100 * ((z9 : Nat) : Int) + 10 * m 4 0 (96 * k + z9) + ((kd : Nat) : Int))) v (fu (fu n k (n k + 1)) (5 + k) 0) w p r h47 := ⟨f66, f54, f61, f58, f71, f60, f76, f81, f86⟩
              obtain ⟨P9, hM9, hP9⟩ := k_set (l := kl κ) (A := A) hSy9 (u := k) (z := ((z9 : Nat) : Int)) (k := ((kd : Nat) : Int)) hkL (by omega) (by omega)
              refine x_callSh C (n := 5) (As := [.ref x, vI 0, vI ((k : Nat) : Int), vI ((z9 : Nat) : Int), vI ((kd : Nat) : Int)]) (rest := []) hM9 kn gL_edits_L_calls (by decide +kernel) rfl rfl rfl (Nat.le_of_ble_eq_true rfl) ⟨by decide, by decide⟩ ⟨(by decide), (by decide)⟩ dL_edits_239 (fun rv9 h9 hp9 => ?_)
              have hk9 := hP9 rv9 h9 hp9
              simp only [Int.toNat_natCast] at hk9
              obtain ⟨hc9, rfl, hS9, hkp9⟩ := hk9.resolve_right (fun z9 => (by have y9 := z9.1; omega))
              refine x_iload C dL_edits_242 13 rfl ?_
              refine x_if_eq (tgt := 252) C dL_edits_244 (by decide) (by omega) (fun c87 => ?_) (fun c87 => ?_)
              · skip
                refine x_bipush C dL_edits_252 (-5) (by decide) ?_
                refine x_icmp_ne (tgt := 261) C dL_edits_254 (by decide) (by omega) (by omega) (fun c88 => ?_) (fun c88 => ?_)
                · exfalso; omega
                · skip
                  refine x_iconst C dL_edits_257 1 (by decide) ?_
                  refine x_goto (tgt := 262) C dL_edits_258 (by decide) ?_
                  refine x_zret C G dL_edits_262 (by first | exact Or.inl rfl | exact Or.inr rfl) ?_ (by decide) (by decide)
                  first
                    | exact ⟨rfl, _, _, _, _, _, _, _, _, _, _, _, _, hS9, hEX, PK.ed hPK hEB hkL hz9 (by omega) (by omega), hAR9.kp hkp9, hSC9.kp hkp9⟩
                    | exact ⟨rfl, m, L, W, q, g, l0, u, v, n, w, p, r, hSy.le (by omega), hEX, hPK, ⟨hq, hg, hl0, hu, hv, hn, hw, hp, hr⟩, hSC⟩
              · skip
                refine x_iload C dL_edits_247 12 rfl ?_
                refine x_goto (tgt := 254) C dL_edits_249 (by decide) ?_
                refine x_icmp_ne (tgt := 261) C dL_edits_254 (by decide) (by omega) (by omega) (fun c89 => ?_) (fun c89 => ?_)
                · exfalso; omega
                · skip
                  refine x_iconst C dL_edits_257 1 (by decide) ?_
                  refine x_goto (tgt := 262) C dL_edits_258 (by decide) ?_
                  refine x_zret C G dL_edits_262 (by first | exact Or.inl rfl | exact Or.inr rfl) ?_ (by decide) (by decide)
                  first
                    | exact ⟨rfl, _, _, _, _, _, _, _, _, _, _, _, _, hS9, hEX, PK.ed hPK hEB hkL hz9 (by omega) (by omega), hAR9.kp hkp9, hSC9.kp hkp9⟩
                    | exact ⟨rfl, m, L, W, q, g, l0, u, v, n, w, p, r, hSy.le (by omega), hEX, hPK, ⟨hq, hg, hl0, hu, hv, hn, hw, hp, hr⟩, hSC⟩
          · skip
            refine x_iload C dL_edits_149 11 rfl ?_
            refine x_if_eq (tgt := 156) C dL_edits_151 (by decide) (by omega) (fun c90 => ?_) (fun c90 => ?_)
            · skip
              refine x_iload C dL_edits_156 13 rfl ?_
              refine x_if_eq (tgt := 231) C dL_edits_158 (by decide) (by omega) (fun c91 => ?_) (fun c91 => ?_)
              · skip
                refine x_aload_n C dL_edits_231 0 rfl ?_
                refine x_iconst C dL_edits_232 0 (by decide) ?_
                refine x_iload C dL_edits_233 9 rfl ?_
                refine x_iload C dL_edits_235 10 rfl ?_
                refine x_iload C dL_edits_237 11 rfl ?_
                have hSy9 : Sy D x ar m L W t h := by repeat (first | exact hSy | refine Sy.off ?_ (by decide))
                have hSC9 : SC D ar h := by repeat (first | exact hSC | refine SC.off hai ?_ (by decide))
                have hAR9 : AR D ar q g l0 u v n w p r h := ⟨hq, hg, hl0, hu, hv, hn, hw, hp, hr⟩
                obtain ⟨P9, hM9, hP9⟩ := k_set (l := kl κ) (A := A) hSy9 (u := k) (z := ((z9 : Nat) : Int)) (k := ((kd : Nat) : Int)) hkL (by omega) (by omega)
                refine x_callSh C (n := 5) (As := [.ref x, vI 0, vI ((k : Nat) : Int), vI ((z9 : Nat) : Int), vI ((kd : Nat) : Int)]) (rest := []) hM9 kn gL_edits_L_calls (by decide +kernel) rfl rfl rfl (Nat.le_of_ble_eq_true rfl) ⟨by decide, by decide⟩ ⟨(by decide), (by decide)⟩ dL_edits_239 (fun rv9 h9 hp9 => ?_)
                have hk9 := hP9 rv9 h9 hp9
                simp only [Int.toNat_natCast] at hk9
                obtain ⟨hc9, rfl, he9⟩ := hk9.resolve_left (fun z9 => (by have y9 := z9.1; omega))
                obtain rfl := he9.symm
                refine x_iload C dL_edits_242 13 rfl ?_
                refine x_if_eq (tgt := 252) C dL_edits_244 (by decide) (by omega) (fun c92 => ?_) (fun c92 => ?_)
                · skip
                  refine x_bipush C dL_edits_252 (-5) (by decide) ?_
                  refine x_icmp_ne (tgt := 261) C dL_edits_254 (by decide) (by omega) (by omega) (fun c93 => ?_) (fun c93 => ?_)
                  · exfalso; omega
                  · skip
                    refine x_iconst C dL_edits_257 1 (by decide) ?_
                    refine x_goto (tgt := 262) C dL_edits_258 (by decide) ?_
                    refine x_zret C G dL_edits_262 (by first | exact Or.inl rfl | exact Or.inr rfl) ?_ (by decide) (by decide)
                    first
                      | exact ⟨rfl, _, _, _, _, _, _, _, _, _, _, _, _, hS9, hEX, PK.ed hPK hEB hkL hz9 (by omega) (by omega), hAR9.kp hkp9, hSC9.kp hkp9⟩
                      | exact ⟨rfl, m, L, W, q, g, l0, u, v, n, w, p, r, hSy.le (by omega), hEX, hPK, ⟨hq, hg, hl0, hu, hv, hn, hw, hp, hr⟩, hSC⟩
                · skip
                  refine x_iload C dL_edits_247 12 rfl ?_
                  refine x_goto (tgt := 254) C dL_edits_249 (by decide) ?_
                  refine x_icmp_ne (tgt := 261) C dL_edits_254 (by decide) (by omega) (by omega) (fun c94 => ?_) (fun c94 => ?_)
                  · exfalso; omega
                  · skip
                    refine x_iconst C dL_edits_257 1 (by decide) ?_
                    refine x_goto (tgt := 262) C dL_edits_258 (by decide) ?_
                    refine x_zret C G dL_edits_262 (by first | exact Or.inl rfl | exact Or.inr rfl) ?_ (by decide) (by decide)
                    first
                      | exact ⟨rfl, _, _, _, _, _, _, _, _, _, _, _, _, hS9, hEX, PK.ed hPK hEB hkL hz9 (by omega) (by omega), hAR9.kp hkp9, hSC9.kp hkp9⟩
                      | exact ⟨rfl, m, L, W, q, g, l0, u, v, n, w, p, r, hSy.le (by omega), hEX, hPK, ⟨hq, hg, hl0, hu, hv, hn, hw, hp, hr⟩, hSC⟩
              · skip
                refine x_aload C dL_edits_161 4 rfl ?_
                refine x_bipush C dL_edits_163 6 (by decide) ?_
                refine x_iload C dL_edits_165 9 rfl ?_
                refine x_imul C dL_edits_167 ?_
                refine x_iload C dL_edits_168 10 rfl ?_
                refine x_iload C dL_edits_170 11 rfl ?_
                refine x_callSJ C (n := 4) (As := [.ref (ar 1), vI (6 * (((k : Nat) : Int))), vI ((z9 : Nat) : Int), vI ((kd : Nat) : Int)]) (rest := []) (c_L_put hg (by omega) (by omega) (by omega)) gL_edits_L_put (by decide +kernel) rfl rfl rfl (Nat.le_of_ble_eq_true rfl) ⟨by decide, by decide⟩ ⟨(by decide), (by decide)⟩ dL_edits_172 (fun rv95 h96 hp97 => ?_)
                obtain ⟨rfl, e98⟩ := hp97
                have f99 : h96 (ar 1) = some (eJ D 60 (gput g (6 * (((k : Nat) : Int))).toNat z9 kd)) := by rw [e98]; exact hu_s
                refine x_aload C dL_edits_175 6 rfl ?_
                refine x_bipush C dL_edits_177 12 (by decide) ?_
                refine x_iload C dL_edits_179 9 rfl ?_
                refine x_imul C dL_edits_181 ?_
                refine x_aload C dL_edits_182 8 rfl ?_
                refine x_iload C dL_edits_184 9 rfl ?_
                have f100 : h96 (ar 5) = some (eI D 10 n) := by rw [e98, hu_n (ari hai (i := 5) (j := 1) (by decide) (by decide) (by decide))]; exact hn
                refine x_iald C f100 ⟨by omega, by omega⟩ (by decide) dL_edits_186 ?_
                refine x_topv (show n (Int.toNat (((k : Nat) : Int))) = n k from by rfl) ?_
                refine x_iadd C dL_edits_187 ?_
                refine x_bipush C dL_edits_188 100 (by decide) ?_
                refine x_iload C dL_edits_190 10 rfl ?_
                refine x_imul C dL_edits_192 ?_
                refine x_bipush C dL_edits_193 10 (by decide) ?_
                refine x_iload C dL_edits_195 12 rfl ?_
                refine x_imul C dL_edits_197 ?_
                refine x_iadd C dL_edits_198 ?_
                refine x_iload C dL_edits_199 11 rfl ?_
                refine x_iadd C dL_edits_201 ?_
                have f101 : h96 (ar 3) = some (eI D 60 u) := by rw [e98, hu_n (ari hai (i := 3) (j := 1) (by decide) (by decide) (by decide))]; exact hu
                refine x_iast C f101 ⟨by omega, by omega⟩ (by decide) dL_edits_202 (x_hn (fun h102 e103 => ?_))
                have f104 : h102 (ar 3) = some (eI D 60 (fu u (Int.toNat ((12 * (((k : Nat) : Int))) + (n k))) (((100 * (((z9 : Nat) : Int))) + (10 * (m 4 0 (96 * k + z9)))) + (((kd : Nat) : Int))))) := by rw [e103]; exact hu_s
                refine x_aload C dL_edits_203 8 rfl ?_
                refine x_iload C dL_edits_205 9 rfl ?_
                refine x_dup2 C dL_edits_207 rfl rfl ?_
                have f105 : h102 (ar 5) = some (eI D 10 n) := by rw [e103, hu_n (ari hai (i := 5) (j := 3) (by decide) (by decide) (by decide))]; exact f100
                refine x_iald C f105 ⟨by omega, by omega⟩ (by decide) dL_edits_208 ?_
                refine x_topv (show n (Int.toNat (((k : Nat) : Int))) = n k from by rfl) ?_
                refine x_iconst C dL_edits_209 1 (by decide) ?_
                refine x_iadd C dL_edits_210 ?_
                refine x_iast C f105 ⟨by omega, by omega⟩ (by decide) dL_edits_211 (x_hn (fun h106 e107 => ?_))
                have f108 : h106 (ar 5) = some (eI D 10 (fu n (Int.toNat (((k : Nat) : Int))) ((n k) + 1))) := by rw [e107]; exact hu_s
                refine x_aload C dL_edits_212 8 rfl ?_
                refine x_iconst C dL_edits_214 5 (by decide) ?_
                refine x_iload C dL_edits_215 9 rfl ?_
                refine x_iadd C dL_edits_217 ?_
                refine x_iconst C dL_edits_218 0 (by decide) ?_
                refine x_iast C f108 ⟨by omega, by omega⟩ (by decide) dL_edits_219 (x_hn (fun h109 e110 => ?_))
                have f111 : h109 (ar 5) = some (eI D 10 (fu (fu n (Int.toNat (((k : Nat) : Int))) ((n k) + 1)) (Int.toNat (5 + (((k : Nat) : Int)))) 0)) := by rw [e110]; exact hu_s
                refine x_aload C dL_edits_220 5 rfl ?_
                refine x_iconst C dL_edits_222 4 (by decide) ?_
                refine x_iload C dL_edits_223 9 rfl ?_
                refine x_imul C dL_edits_225 ?_
                refine x_iconst C dL_edits_226 2 (by decide) ?_
                refine x_iadd C dL_edits_227 ?_
                refine x_bipush C dL_edits_228 (-2) (by decide) ?_
                have f112 : h96 (ar 2) = some (eI D 20 l0) := by rw [e98, hu_n (ari hai (i := 2) (j := 1) (by decide) (by decide) (by decide))]; exact hl0
                have f113 : h102 (ar 2) = some (eI D 20 l0) := by rw [e103, hu_n (ari hai (i := 2) (j := 3) (by decide) (by decide) (by decide))]; exact f112
                have f114 : h106 (ar 2) = some (eI D 20 l0) := by rw [e107, hu_n (ari hai (i := 2) (j := 5) (by decide) (by decide) (by decide))]; exact f113
                have f115 : h109 (ar 2) = some (eI D 20 l0) := by rw [e110, hu_n (ari hai (i := 2) (j := 5) (by decide) (by decide) (by decide))]; exact f114
                refine x_iast C f115 ⟨by omega, by omega⟩ (by decide) dL_edits_230 (x_hn (fun h116 e117 => ?_))
                have f118 : h116 (ar 2) = some (eI D 20 (fu l0 (Int.toNat ((4 * (((k : Nat) : Int))) + 2)) ((-2)))) := by rw [e117]; exact hu_s
                have f119 : h102 (ar 1) = some (eJ D 60 (gput g (6 * (((k : Nat) : Int))).toNat z9 kd)) := by rw [e103, hu_n (ari hai (i := 1) (j := 3) (by decide) (by decide) (by decide))]; exact f99
                have f120 : h106 (ar 1) = some (eJ D 60 (gput g (6 * (((k : Nat) : Int))).toNat z9 kd)) := by rw [e107, hu_n (ari hai (i := 1) (j := 5) (by decide) (by decide) (by decide))]; exact f119
                have f121 : h109 (ar 1) = some (eJ D 60 (gput g (6 * (((k : Nat) : Int))).toNat z9 kd)) := by rw [e110, hu_n (ari hai (i := 1) (j := 5) (by decide) (by decide) (by decide))]; exact f120
                have f122 : h116 (ar 1) = some (eJ D 60 (gput g (6 * (((k : Nat) : Int))).toNat z9 kd)) := by rw [e117, hu_n (ari hai (i := 1) (j := 2) (by decide) (by decide) (by decide))]; exact f121
                have f123 : h116 (ar 1) = some (eJ D 60 (gput g (6 * k) z9 kd)) := by have q9 := f122; rw [e6k] at q9; exact q9
                have f124 : h106 (ar 3) = some (eI D 60 (fu u (Int.toNat ((12 * (((k : Nat) : Int))) + (n k))) (((100 * (((z9 : Nat) : Int))) + (10 * (m 4 0 (96 * k + z9)))) + (((kd : Nat) : Int))))) := by rw [e107, hu_n (ari hai (i := 3) (j := 5) (by decide) (by decide) (by decide))]; exact f104
                have f125 : h109 (ar 3) = some (eI D 60 (fu u (Int.toNat ((12 * (((k : Nat) : Int))) + (n k))) (((100 * (((z9 : Nat) : Int))) + (10 * (m 4 0 (96 * k + z9)))) + (((kd : Nat) : Int))))) := by rw [e110, hu_n (ari hai (i := 3) (j := 5) (by decide) (by decide) (by decide))]; exact f124
                have f126 : h116 (ar 3) = some (eI D 60 (fu u (Int.toNat ((12 * (((k : Nat) : Int))) + (n k))) (((100 * (((z9 : Nat) : Int))) + (10 * (m 4 0 (96 * k + z9)))) + (((kd : Nat) : Int))))) := by rw [e117, hu_n (ari hai (i := 3) (j := 2) (by decide) (by decide) (by decide))]; exact f125
                have f127 : h116 (ar 3) = some (eI D 60 (fu u (12 * k + (n k).toNat) (100 * ((z9 : Nat) : Int) + 10 * m 4 0 (96 * k + z9) + ((kd : Nat) : Int)))) := by have q9 := f126; rw [show Int.toNat (12 * ((k : Nat) : Int) + n k) = 12 * k + (n k).toNat by omega] at q9; exact q9
                have f128 : h116 (ar 5) = some (eI D 10 (fu (fu n (Int.toNat (((k : Nat) : Int))) ((n k) + 1)) (Int.toNat (5 + (((k : Nat) : Int)))) 0)) := by rw [e117, hu_n (ari hai (i := 5) (j := 2) (by decide) (by decide) (by decide))]; exact f111
                have f129 : h116 (ar 5) = some (eI D 10 (fu (fu n k (n k + 1)) (5 + k) 0)) := by have q9 := f128; rw [e5k] at q9; exact q9
                have f130 : h116 (ar 2) = some (eI D 20 (fu l0 (4 * k + 2) (-2))) := by have q9 := f118; rw [e42] at q9; exact q9
                refine x_aload_n C dL_edits_231 0 rfl ?_
                refine x_iconst C dL_edits_232 0 (by decide) ?_
                refine x_iload C dL_edits_233 9 rfl ?_
                refine x_iload C dL_edits_235 10 rfl ?_
                refine x_iload C dL_edits_237 11 rfl ?_
                have hSy9 : Sy D x ar m L W t h116 := by rw [e117, e110, e107, e103, e98]; repeat (first | exact hSy | refine Sy.off ?_ (by decide))
                have hSC9 : SC D ar h116 := by rw [e117, e110, e107, e103, e98]; repeat (first | exact hSC | refine SC.off hai ?_ (by decide))
                have f131 : h96 (ar 0) = some (eI D 5 q) := by rw [e98, hu_n (ari hai (i := 0) (j := 1) (by decide) (by decide) (by decide))]; exact hq
                have f132 : h102 (ar 0) = some (eI D 5 q) := by rw [e103, hu_n (ari hai (i := 0) (j := 3) (by decide) (by decide) (by decide))]; exact f131
                have f133 : h106 (ar 0) = some (eI D 5 q) := by rw [e107, hu_n (ari hai (i := 0) (j := 5) (by decide) (by decide) (by decide))]; exact f132
                have f134 : h109 (ar 0) = some (eI D 5 q) := by rw [e110, hu_n (ari hai (i := 0) (j := 5) (by decide) (by decide) (by decide))]; exact f133
                have f135 : h116 (ar 0) = some (eI D 5 q) := by rw [e117, hu_n (ari hai (i := 0) (j := 2) (by decide) (by decide) (by decide))]; exact f134
                have f136 : h96 (ar 4) = some (eI D 60 v) := by rw [e98, hu_n (ari hai (i := 4) (j := 1) (by decide) (by decide) (by decide))]; exact hv
                have f137 : h102 (ar 4) = some (eI D 60 v) := by rw [e103, hu_n (ari hai (i := 4) (j := 3) (by decide) (by decide) (by decide))]; exact f136
                have f138 : h106 (ar 4) = some (eI D 60 v) := by rw [e107, hu_n (ari hai (i := 4) (j := 5) (by decide) (by decide) (by decide))]; exact f137
                have f139 : h109 (ar 4) = some (eI D 60 v) := by rw [e110, hu_n (ari hai (i := 4) (j := 5) (by decide) (by decide) (by decide))]; exact f138
                have f140 : h116 (ar 4) = some (eI D 60 v) := by rw [e117, hu_n (ari hai (i := 4) (j := 2) (by decide) (by decide) (by decide))]; exact f139
                have f141 : h96 (ar 6) = some (eI D 25 w) := by rw [e98, hu_n (ari hai (i := 6) (j := 1) (by decide) (by decide) (by decide))]; exact hw
                have f142 : h102 (ar 6) = some (eI D 25 w) := by rw [e103, hu_n (ari hai (i := 6) (j := 3) (by decide) (by decide) (by decide))]; exact f141
                have f143 : h106 (ar 6) = some (eI D 25 w) := by rw [e107, hu_n (ari hai (i := 6) (j := 5) (by decide) (by decide) (by decide))]; exact f142
                have f144 : h109 (ar 6) = some (eI D 25 w) := by rw [e110, hu_n (ari hai (i := 6) (j := 5) (by decide) (by decide) (by decide))]; exact f143
                have f145 : h116 (ar 6) = some (eI D 25 w) := by rw [e117, hu_n (ari hai (i := 6) (j := 2) (by decide) (by decide) (by decide))]; exact f144
                have f146 : h96 (ar 7) = some (eI D 15 p) := by rw [e98, hu_n (ari hai (i := 7) (j := 1) (by decide) (by decide) (by decide))]; exact hp
                have f147 : h102 (ar 7) = some (eI D 15 p) := by rw [e103, hu_n (ari hai (i := 7) (j := 3) (by decide) (by decide) (by decide))]; exact f146
                have f148 : h106 (ar 7) = some (eI D 15 p) := by rw [e107, hu_n (ari hai (i := 7) (j := 5) (by decide) (by decide) (by decide))]; exact f147
                have f149 : h109 (ar 7) = some (eI D 15 p) := by rw [e110, hu_n (ari hai (i := 7) (j := 5) (by decide) (by decide) (by decide))]; exact f148
                have f150 : h116 (ar 7) = some (eI D 15 p) := by rw [e117, hu_n (ari hai (i := 7) (j := 2) (by decide) (by decide) (by decide))]; exact f149
                have f151 : h96 (ar 8) = some (eI D 18 r) := by rw [e98, hu_n (ari hai (i := 8) (j := 1) (by decide) (by decide) (by decide))]; exact hr
                have f152 : h102 (ar 8) = some (eI D 18 r) := by rw [e103, hu_n (ari hai (i := 8) (j := 3) (by decide) (by decide) (by decide))]; exact f151
                have f153 : h106 (ar 8) = some (eI D 18 r) := by rw [e107, hu_n (ari hai (i := 8) (j := 5) (by decide) (by decide) (by decide))]; exact f152
                have f154 : h109 (ar 8) = some (eI D 18 r) := by rw [e110, hu_n (ari hai (i := 8) (j := 5) (by decide) (by decide) (by decide))]; exact f153
                have f155 : h116 (ar 8) = some (eI D 18 r) := by rw [e117, hu_n (ari hai (i := 8) (j := 2) (by decide) (by decide) (by decide))]; exact f154
                have hAR9 : AR D ar q (gput g (6 * k) z9 kd) (fu l0 (4 * k + 2) (-2)) (fu u (12 * k + (n k).toNat) (100 * ((z9 : Nat) : Int) + 10 * m 4 0 (96 * k + z9) + ((kd : Nat) : Int))) v (fu (fu n k (n k + 1)) (5 + k) 0) w p r h116 := ⟨f135, f123, f130, f127, f140, f129, f145, f150, f155⟩
                obtain ⟨P9, hM9, hP9⟩ := k_set (l := kl κ) (A := A) hSy9 (u := k) (z := ((z9 : Nat) : Int)) (k := ((kd : Nat) : Int)) hkL (by omega) (by omega)
                refine x_callSh C (n := 5) (As := [.ref x, vI 0, vI ((k : Nat) : Int), vI ((z9 : Nat) : Int), vI ((kd : Nat) : Int)]) (rest := []) hM9 kn gL_edits_L_calls (by decide +kernel) rfl rfl rfl (Nat.le_of_ble_eq_true rfl) ⟨by decide, by decide⟩ ⟨(by decide), (by decide)⟩ dL_edits_239 (fun rv9 h9 hp9 => ?_)
                have hk9 := hP9 rv9 h9 hp9
                simp only [Int.toNat_natCast] at hk9
                obtain ⟨hc9, rfl, hS9, hkp9⟩ := hk9.resolve_right (fun z9 => (by have y9 := z9.1; omega))
                refine x_iload C dL_edits_242 13 rfl ?_
                refine x_if_eq (tgt := 252) C dL_edits_244 (by decide) (by omega) (fun c156 => ?_) (fun c156 => ?_)
                · skip
                  refine x_bipush C dL_edits_252 (-5) (by decide) ?_
                  refine x_icmp_ne (tgt := 261) C dL_edits_254 (by decide) (by omega) (by omega) (fun c157 => ?_) (fun c157 => ?_)
                  · exfalso; omega
                  · skip
                    refine x_iconst C dL_edits_257 1 (by decide) ?_
                    refine x_goto (tgt := 262) C dL_edits_258 (by decide) ?_
                    refine x_zret C G dL_edits_262 (by first | exact Or.inl rfl | exact Or.inr rfl) ?_ (by decide) (by decide)
                    first
                      | exact ⟨rfl, _, _, _, _, _, _, _, _, _, _, _, _, hS9, hEX, PK.ed hPK hEB hkL hz9 (by omega) (by omega), hAR9.kp hkp9, hSC9.kp hkp9⟩
                      | exact ⟨rfl, m, L, W, q, g, l0, u, v, n, w, p, r, hSy.le (by omega), hEX, hPK, ⟨hq, hg, hl0, hu, hv, hn, hw, hp, hr⟩, hSC⟩
                · skip
                  refine x_iload C dL_edits_247 12 rfl ?_
                  refine x_goto (tgt := 254) C dL_edits_249 (by decide) ?_
                  refine x_icmp_ne (tgt := 261) C dL_edits_254 (by decide) (by omega) (by omega) (fun c158 => ?_) (fun c158 => ?_)
                  · exfalso; omega
                  · skip
                    refine x_iconst C dL_edits_257 1 (by decide) ?_
                    refine x_goto (tgt := 262) C dL_edits_258 (by decide) ?_
                    refine x_zret C G dL_edits_262 (by first | exact Or.inl rfl | exact Or.inr rfl) ?_ (by decide) (by decide)
                    first
                      | exact ⟨rfl, _, _, _, _, _, _, _, _, _, _, _, _, hS9, hEX, PK.ed hPK hEB hkL hz9 (by omega) (by omega), hAR9.kp hkp9, hSC9.kp hkp9⟩
                      | exact ⟨rfl, m, L, W, q, g, l0, u, v, n, w, p, r, hSy.le (by omega), hEX, hPK, ⟨hq, hg, hl0, hu, hv, hn, hw, hp, hr⟩, hSC⟩
            · skip
              refine x_iconst C dL_edits_154 1 (by decide) ?_
              refine x_zret C G dL_edits_155 (by first | exact Or.inl rfl | exact Or.inr rfl) ?_ (by decide) (by decide)
              refine ⟨rfl, m, L, W, q, g, l0, u, v, n, w, p, r, hSy.le (by omega), hEX, hPK, ⟨hq, hg, hl0, hu, hv, hn, hw, hp, hr⟩, hSC⟩
      refine x_iload C dL_edits_99 11 rfl ?_
      refine x_iconst C dL_edits_101 2 (by decide) ?_
      refine x_icmp_ne (tgt := 118) C dL_edits_102 (by decide) (by omega) (by omega) (fun c159 => ?_) (fun c159 => ?_)
      · skip
        refine x_iconst C dL_edits_118 1 (by decide) ?_
        refine x_goto (tgt := 123) C dL_edits_119 (by decide) ?_
        refine x_istore C (ls' := [(0, .ref x), (1, vI 0), (2, .int zz), (3, .ref (ar 0)), (4, .ref (ar 1)), (5, .ref (ar 2)), (6, .ref (ar 3)), (7, .ref (ar 4)), (8, .ref (ar 5)), (9, vI ((k : Nat) : Int)), (10, vI ((z9 : Nat) : Int)), (11, vI ((kd : Nat) : Int)), (12, vI (m 4 0 (96 * k + z9))), (13, vI ((kk : Nat) : Int)), (14, vI 1)]) dL_edits_123 (by decide) rfl ?_
        refine x_sub [0, 1, 2, 3, 4, 5, 6, 7, 8, 9, 10, 11, 12, 14] (ls' := [(0, .ref x), (1, vI 0), (2, .int zz), (3, .ref (ar 0)), (4, .ref (ar 1)), (5, .ref (ar 2)), (6, .ref (ar 3)), (7, .ref (ar 4)), (8, .ref (ar 5)), (9, vI ((k : Nat) : Int)), (10, vI ((z9 : Nat) : Int)), (11, vI ((kd : Nat) : Int)), (12, vI (m 4 0 (96 * k + z9))), (14, vI 1)]) rfl ?_
        exact CC 1 (by omega)
      · skip
        refine x_iload C dL_edits_105 12 rfl ?_
        refine x_iconst C dL_edits_107 2 (by decide) ?_
        refine x_icmp_eq (tgt := 118) C dL_edits_108 (by decide) (by omega) (by omega) (fun c160 => ?_) (fun c160 => ?_)
        · skip
          refine x_iconst C dL_edits_118 1 (by decide) ?_
          refine x_goto (tgt := 123) C dL_edits_119 (by decide) ?_
          refine x_istore C (ls' := [(0, .ref x), (1, vI 0), (2, .int zz), (3, .ref (ar 0)), (4, .ref (ar 1)), (5, .ref (ar 2)), (6, .ref (ar 3)), (7, .ref (ar 4)), (8, .ref (ar 5)), (9, vI ((k : Nat) : Int)), (10, vI ((z9 : Nat) : Int)), (11, vI ((kd : Nat) : Int)), (12, vI (m 4 0 (96 * k + z9))), (13, vI ((kk : Nat) : Int)), (14, vI 1)]) dL_edits_123 (by decide) rfl ?_
          refine x_sub [0, 1, 2, 3, 4, 5, 6, 7, 8, 9, 10, 11, 12, 14] (ls' := [(0, .ref x), (1, vI 0), (2, .int zz), (3, .ref (ar 0)), (4, .ref (ar 1)), (5, .ref (ar 2)), (6, .ref (ar 3)), (7, .ref (ar 4)), (8, .ref (ar 5)), (9, vI ((k : Nat) : Int)), (10, vI ((z9 : Nat) : Int)), (11, vI ((kd : Nat) : Int)), (12, vI (m 4 0 (96 * k + z9))), (14, vI 1)]) rfl ?_
          exact CC 1 (by omega)
        · skip
          refine x_iload C dL_edits_111 13 rfl ?_
          refine x_bipush C dL_edits_113 7 (by decide) ?_
          refine x_icmp_ge (tgt := 122) C dL_edits_115 (by decide) (by omega) (by omega) (fun c161 => ?_) (fun c161 => ?_)
          · skip
            refine x_iconst C dL_edits_122 0 (by decide) ?_
            refine x_istore C (ls' := [(0, .ref x), (1, vI 0), (2, .int zz), (3, .ref (ar 0)), (4, .ref (ar 1)), (5, .ref (ar 2)), (6, .ref (ar 3)), (7, .ref (ar 4)), (8, .ref (ar 5)), (9, vI ((k : Nat) : Int)), (10, vI ((z9 : Nat) : Int)), (11, vI ((kd : Nat) : Int)), (12, vI (m 4 0 (96 * k + z9))), (13, vI ((kk : Nat) : Int)), (14, vI 0)]) dL_edits_123 (by decide) rfl ?_
            refine x_sub [0, 1, 2, 3, 4, 5, 6, 7, 8, 9, 10, 11, 12, 14] (ls' := [(0, .ref x), (1, vI 0), (2, .int zz), (3, .ref (ar 0)), (4, .ref (ar 1)), (5, .ref (ar 2)), (6, .ref (ar 3)), (7, .ref (ar 4)), (8, .ref (ar 5)), (9, vI ((k : Nat) : Int)), (10, vI ((z9 : Nat) : Int)), (11, vI ((kd : Nat) : Int)), (12, vI (m 4 0 (96 * k + z9))), (14, vI 0)]) rfl ?_
            exact CC 0 (by omega)
          · skip
            refine x_iconst C dL_edits_118 1 (by decide) ?_
            refine x_goto (tgt := 123) C dL_edits_119 (by decide) ?_
            refine x_istore C (ls' := [(0, .ref x), (1, vI 0), (2, .int zz), (3, .ref (ar 0)), (4, .ref (ar 1)), (5, .ref (ar 2)), (6, .ref (ar 3)), (7, .ref (ar 4)), (8, .ref (ar 5)), (9, vI ((k : Nat) : Int)), (10, vI ((z9 : Nat) : Int)), (11, vI ((kd : Nat) : Int)), (12, vI (m 4 0 (96 * k + z9))), (13, vI ((kk : Nat) : Int)), (14, vI 1)]) dL_edits_123 (by decide) rfl ?_
            refine x_sub [0, 1, 2, 3, 4, 5, 6, 7, 8, 9, 10, 11, 12, 14] (ls' := [(0, .ref x), (1, vI 0), (2, .int zz), (3, .ref (ar 0)), (4, .ref (ar 1)), (5, .ref (ar 2)), (6, .ref (ar 3)), (7, .ref (ar 4)), (8, .ref (ar 5)), (9, vI ((k : Nat) : Int)), (10, vI ((z9 : Nat) : Int)), (11, vI ((kd : Nat) : Int)), (12, vI (m 4 0 (96 * k + z9))), (14, vI 1)]) rfl ?_
            exact CC 1 (by omega)
    refine x_iload_n C dL_edits_13 2 rfl ?_
    refine x_iconst C dL_edits_14 3 (by decide) ?_
    refine x_ishr C dL_edits_15 _ rfl ?_
    refine x_iload_n C dL_edits_16 2 rfl ?_
    refine x_bipush C dL_edits_17 11 (by decide) ?_
    refine x_ishr C dL_edits_19 _ rfl ?_
    refine x_iconst C dL_edits_20 3 (by decide) ?_
    refine x_callSJ C (n := 2) (As := [.int (zz >>> ((iI 11) &&& 31)), vI 3]) (rest := [.int (zz >>> ((iI 3) &&& 31))]) (c_L_low (by omega)) gL_edits_L_low (by decide +kernel) rfl rfl rfl (Nat.le_of_ble_eq_true rfl) ⟨by decide, by decide⟩ ⟨(by decide), (by decide)⟩ dL_edits_21 (fun rv162 h163 hp164 => ?_)
    obtain ⟨rfl, e165, hr_21⟩ := hp164
    obtain rfl := e165.symm
    refine x_if_ne (tgt := 32) C dL_edits_24 (by decide) (by omega) (fun c166 => ?_) (fun c166 => ?_)
    · skip
      refine x_bipush C dL_edits_32 48 (by decide) ?_
      refine x_callSJ C (n := 2) (As := [.int (zz >>> ((iI 3) &&& 31)), vI 48]) (rest := []) (c_L_low (by omega)) gL_edits_L_low (by decide +kernel) rfl rfl rfl (Nat.le_of_ble_eq_true rfl) ⟨by decide, by decide⟩ ⟨(by decide), (by decide)⟩ dL_edits_34 (fun rv167 h168 hp169 => ?_)
      obtain ⟨rfl, e170, hr_34⟩ := hp169
      obtain rfl := e170.symm
      refine x_istore C (ls' := [(0, .ref x), (1, vI 0), (2, .int zz), (3, .ref (ar 0)), (4, .ref (ar 1)), (5, .ref (ar 2)), (6, .ref (ar 3)), (7, .ref (ar 4)), (8, .ref (ar 5)), (9, vI ((k : Nat) : Int)), (10, vI ((lowF (zz >>> ((iI 3) &&& 31)) 48 : Nat) : Int))]) dL_edits_37 (by decide) rfl ?_
      refine x_iload C dL_edits_39 10 rfl ?_
      refine x_iload_n C dL_edits_41 2 rfl ?_
      refine x_bipush C dL_edits_42 11 (by decide) ?_
      refine x_ishr C dL_edits_44 _ rfl ?_
      refine x_iconst C dL_edits_45 3 (by decide) ?_
      refine x_callSJ C (n := 2) (As := [.int (zz >>> ((iI 11) &&& 31)), vI 3]) (rest := [vI ((lowF (zz >>> ((iI 3) &&& 31)) 48 : Nat) : Int)]) (c_L_low (by omega)) gL_edits_L_low (by decide +kernel) rfl rfl rfl (Nat.le_of_ble_eq_true rfl) ⟨by decide, by decide⟩ ⟨(by decide), (by decide)⟩ dL_edits_46 (fun rv171 h172 hp173 => ?_)
      obtain ⟨rfl, e174, hr_46⟩ := hp173
      obtain rfl := e174.symm
      refine x_if_ne (tgt := 56) C dL_edits_49 (by decide) (by omega) (fun c175 => ?_) (fun c175 => ?_)
      · skip
        refine x_bipush C dL_edits_56 48 (by decide) ?_
        refine x_iadd C dL_edits_58 ?_
        refine x_istore C (ls' := [(0, .ref x), (1, vI 0), (2, .int zz), (3, .ref (ar 0)), (4, .ref (ar 1)), (5, .ref (ar 2)), (6, .ref (ar 3)), (7, .ref (ar 4)), (8, .ref (ar 5)), (9, vI ((k : Nat) : Int)), (10, vI ((((lowF (zz >>> ((iI 3) &&& 31)) 48 : Nat) : Int)) + 48))]) dL_edits_59 (by decide) rfl ?_
        exact CZ ((lowF (zz >>> ((iI 3) &&& 31)) 48) + 48) (by omega)
      · skip
        refine x_iconst C dL_edits_52 0 (by decide) ?_
        refine x_goto (tgt := 58) C dL_edits_53 (by decide) ?_
        refine x_iadd C dL_edits_58 ?_
        refine x_istore C (ls' := [(0, .ref x), (1, vI 0), (2, .int zz), (3, .ref (ar 0)), (4, .ref (ar 1)), (5, .ref (ar 2)), (6, .ref (ar 3)), (7, .ref (ar 4)), (8, .ref (ar 5)), (9, vI ((k : Nat) : Int)), (10, vI ((((lowF (zz >>> ((iI 3) &&& 31)) 48 : Nat) : Int)) + 0))]) dL_edits_59 (by decide) rfl ?_
        exact CZ ((lowF (zz >>> ((iI 3) &&& 31)) 48) + 0) (by omega)
    · skip
      refine x_bipush C dL_edits_27 96 (by decide) ?_
      refine x_goto (tgt := 34) C dL_edits_29 (by decide) ?_
      refine x_callSJ C (n := 2) (As := [.int (zz >>> ((iI 3) &&& 31)), vI 96]) (rest := []) (c_L_low (by omega)) gL_edits_L_low (by decide +kernel) rfl rfl rfl (Nat.le_of_ble_eq_true rfl) ⟨by decide, by decide⟩ ⟨(by decide), (by decide)⟩ dL_edits_34 (fun rv176 h177 hp178 => ?_)
      obtain ⟨rfl, e179, hr_34⟩ := hp178
      obtain rfl := e179.symm
      refine x_istore C (ls' := [(0, .ref x), (1, vI 0), (2, .int zz), (3, .ref (ar 0)), (4, .ref (ar 1)), (5, .ref (ar 2)), (6, .ref (ar 3)), (7, .ref (ar 4)), (8, .ref (ar 5)), (9, vI ((k : Nat) : Int)), (10, vI ((lowF (zz >>> ((iI 3) &&& 31)) 96 : Nat) : Int))]) dL_edits_37 (by decide) rfl ?_
      refine x_iload C dL_edits_39 10 rfl ?_
      refine x_iload_n C dL_edits_41 2 rfl ?_
      refine x_bipush C dL_edits_42 11 (by decide) ?_
      refine x_ishr C dL_edits_44 _ rfl ?_
      refine x_iconst C dL_edits_45 3 (by decide) ?_
      refine x_callSJ C (n := 2) (As := [.int (zz >>> ((iI 11) &&& 31)), vI 3]) (rest := [vI ((lowF (zz >>> ((iI 3) &&& 31)) 96 : Nat) : Int)]) (c_L_low (by omega)) gL_edits_L_low (by decide +kernel) rfl rfl rfl (Nat.le_of_ble_eq_true rfl) ⟨by decide, by decide⟩ ⟨(by decide), (by decide)⟩ dL_edits_46 (fun rv180 h181 hp182 => ?_)
      obtain ⟨rfl, e183, hr_46⟩ := hp182
      obtain rfl := e183.symm
      refine x_if_ne (tgt := 56) C dL_edits_49 (by decide) (by omega) (fun c184 => ?_) (fun c184 => ?_)
      · skip
        refine x_bipush C dL_edits_56 48 (by decide) ?_
        refine x_iadd C dL_edits_58 ?_
        refine x_istore C (ls' := [(0, .ref x), (1, vI 0), (2, .int zz), (3, .ref (ar 0)), (4, .ref (ar 1)), (5, .ref (ar 2)), (6, .ref (ar 3)), (7, .ref (ar 4)), (8, .ref (ar 5)), (9, vI ((k : Nat) : Int)), (10, vI ((((lowF (zz >>> ((iI 3) &&& 31)) 96 : Nat) : Int)) + 48))]) dL_edits_59 (by decide) rfl ?_
        exact CZ ((lowF (zz >>> ((iI 3) &&& 31)) 96) + 48) (by omega)
      · skip
        refine x_iconst C dL_edits_52 0 (by decide) ?_
        refine x_goto (tgt := 58) C dL_edits_53 (by decide) ?_
        refine x_iadd C dL_edits_58 ?_
        refine x_istore C (ls' := [(0, .ref x), (1, vI 0), (2, .int zz), (3, .ref (ar 0)), (4, .ref (ar 1)), (5, .ref (ar 2)), (6, .ref (ar 3)), (7, .ref (ar 4)), (8, .ref (ar 5)), (9, vI ((k : Nat) : Int)), (10, vI ((((lowF (zz >>> ((iI 3) &&& 31)) 96 : Nat) : Int)) + 0))]) dL_edits_59 (by decide) rfl ?_
        exact CZ ((lowF (zz >>> ((iI 3) &&& 31)) 96) + 0) (by omega)

set_option maxRecDepth 100000 in
set_option maxHeartbeats 4000000 in
theorem c_L_edits1 {l : Launch} {D : va_G} {A : Nat → Prop} {h : vh} {x t L W : Nat} {ar : Nat → Nat} {m : CS} {g : Nat → Int64} {q l0 u v n w p r : Nat → Int} {zz : Int32} (hq : h (ar 0) = some (eI D 5 q)) (hg : h (ar 1) = some (eJ D 60 g)) (hl0 : h (ar 2) = some (eI D 20 l0)) (hu : h (ar 3) = some (eI D 60 u)) (hv : h (ar 4) = some (eI D 60 v)) (hn : h (ar 5) = some (eI D 10 n)) (hw : h (ar 6) = some (eI D 25 w)) (hp : h (ar 7) = some (eI D 15 p)) (hr : h (ar 8) = some (eI D 18 r)) (hai : ∀ i j, i < 16 → j < 16 → ar i = ar j → i = j) (hSy : Sy D x ar m L W t h) (hEX : EX m) (hPK : PK m L W q g l0 u v n w p r) (hSC : SC D ar h) (hL : 0 < L) : HX l D A yL_edits wsL_edits { frames := 9, cells := 2, slots := 12, locals := 161 } [.ref x, vI 1, .int zz, .ref (ar 0), .ref (ar 1), .ref (ar 2), .ref (ar 3), .ref (ar 4), .ref (ar 5)] h (fun rv h' => rv = some (vI 1) ∧ WD D x ar (t + 1) h') := by
  refine HX.ofc (cc := cL_edits) (maxL := 15) (ret := (some .boolean)) [(0, .ref x), (1, vI 1), (2, .int zz), (3, .ref (ar 0)), (4, .ref (ar 1)), (5, .ref (ar 2)), (6, .ref (ar 3)), (7, .ref (ar 4)), (8, .ref (ar 5))] (by decide +kernel) rfl rfl (Nat.le_of_ble_eq_true rfl) ?_
  intro κ C hkl G kn
  subst hkl
  have C : CX κ "LedgeLevelsLaw" "edits" cL_edits wsL_edits { frames := 9, cells := 2, slots := 12, locals := 161 } D A 15 := C
  have hiz : nq (D.1 20) (D.1 21) := cx_iz C
  obtain ⟨⟨hL5, hW5, hq0, hq1⟩, hqs, hPL, _⟩ := id hPK
  obtain ⟨k, hk⟩ : ∃ k : Nat, k = lowF zz ((L : Nat) : Int) := ⟨_, rfl⟩
  have hkL : k < L := by
    have := lowF_lt (v := zz) (n := ((L : Nat) : Int)) (by omega)
    omega
  obtain ⟨hA7, hf8, hst, hpr, hau⟩ := hSy.lev hPK hkL
  have hEB := hSy.eb hPK
  obtain ⟨hn0, hn1, hn12⟩ := (hEB k hkL).1
  obtain ⟨k1, k2, k3, k4, k5, k6, k7, k8, k9, k10⟩ := hPL k hkL
  have e6k : (6 * ((k : Nat) : Int)).toNat = 6 * k := by omega
  have e41 : Int.toNat (4 * ((k : Nat) : Int) + 1) = 4 * k + 1 := by omega
  have e42 : Int.toNat (4 * ((k : Nat) : Int) + 2) = 4 * k + 2 := by omega
  have e5k : Int.toNat (5 + ((k : Nat) : Int)) = 5 + k := by omega
  refine x_iload_n C dL_edits_0 2 rfl ?_
  refine x_aload_n C dL_edits_1 3 rfl ?_
  refine x_iconst C dL_edits_2 0 (by decide) ?_
  refine x_iald C hq ⟨by omega, by omega⟩ (by decide) dL_edits_3 ?_
  refine x_topv (show q (Int.toNat 0) = ((L : Nat) : Int) from by exact hq0) ?_
  refine x_callSJ C (n := 2) (As := [.int zz, vI ((L : Nat) : Int)]) (rest := []) (c_L_low (by omega)) gL_edits_L_low (by decide +kernel) rfl rfl rfl (Nat.le_of_ble_eq_true rfl) ⟨by decide, by decide⟩ ⟨(by decide), (by decide)⟩ dL_edits_4 (fun rv1 h2 hp3 => ?_)
  obtain ⟨rfl, e4, hr_4⟩ := hp3
  obtain rfl := e4.symm
  refine x_topv (show ((lowF zz (((L : Nat) : Int)) : Nat) : Int) = ((k : Nat) : Int) from by rw [hk]) ?_
  refine x_istore C (ls' := [(0, .ref x), (1, vI 1), (2, .int zz), (3, .ref (ar 0)), (4, .ref (ar 1)), (5, .ref (ar 2)), (6, .ref (ar 3)), (7, .ref (ar 4)), (8, .ref (ar 5)), (9, vI ((k : Nat) : Int))]) dL_edits_7 (by decide) rfl ?_
  refine x_iload_n C dL_edits_9 1 rfl ?_
  refine x_if_ne (tgt := 263) C dL_edits_10 (by decide) (by omega) (fun c5 => ?_) (fun c5 => ?_)
  · skip
    refine x_iload_n C dL_edits_263 1 rfl ?_
    refine x_iconst C dL_edits_264 1 (by decide) ?_
    refine x_icmp_ne (tgt := 273) C dL_edits_265 (by decide) (by omega) (by omega) (fun c6 => ?_) (fun c6 => ?_)
    · exfalso; omega
    · skip
      refine x_iload C dL_edits_268 9 rfl ?_
      refine x_goto (tgt := 277) C dL_edits_270 (by decide) ?_
      refine x_istore C (ls' := [(0, .ref x), (1, vI 1), (2, .int zz), (3, .ref (ar 0)), (4, .ref (ar 1)), (5, .ref (ar 2)), (6, .ref (ar 3)), (7, .ref (ar 4)), (8, .ref (ar 5)), (9, vI ((k : Nat) : Int)), (10, vI ((k : Nat) : Int))]) dL_edits_277 (by decide) rfl ?_
      refine x_aload C dL_edits_279 8 rfl ?_
      refine x_iload C dL_edits_281 10 rfl ?_
      refine x_iald C hn ⟨by omega, by omega⟩ (by decide) dL_edits_283 ?_
      refine x_topv (show n (Int.toNat (((k : Nat) : Int))) = n k from by rfl) ?_
      refine x_if_ne (tgt := 307) C dL_edits_284 (by decide) (by omega) (fun c7 => ?_) (fun c7 => ?_)
      · skip
        obtain ⟨d, hd⟩ : ∃ d : Nat, n k = ((d + 1 : Nat) : Int) := ⟨(n k).toNat - 1, by omega⟩
        obtain ⟨s9, hs9⟩ : ∃ s9 : Nat, n (5 + k) = ((s9 : Nat) : Int) := ⟨(n (5 + k)).toNat, by omega⟩
        have hbd := (hEB k hkL).2.1 d (by omega)
        have hu9 := k9 d (by omega)
        have hPK9 := PK.un hPK hEB hkL hd hs9
        rw [hu9] at hPK9
        obtain ⟨a9, ha9⟩ : ∃ a9, a9 = m 9 0 (40 * k + d) := ⟨_, rfl⟩
        obtain ⟨b9, hb9⟩ : ∃ b9, b9 = m 10 0 (40 * k + d) := ⟨_, rfl⟩
        rw [← ha9, ← hb9] at hbd hu9 hPK9
        refine x_aload C dL_edits_307 8 rfl ?_
        refine x_iload C dL_edits_309 10 rfl ?_
        refine x_dup2 C dL_edits_311 rfl rfl ?_
        refine x_iald C hn ⟨by omega, by omega⟩ (by decide) dL_edits_312 ?_
        refine x_topv (show n (Int.toNat (((k : Nat) : Int))) = n k from by rfl) ?_
        refine x_iconst C dL_edits_313 1 (by decide) ?_
        refine x_isub C dL_edits_314 ?_
        refine x_iast C hn ⟨by omega, by omega⟩ (by decide) dL_edits_315 (x_hn (fun h8 e9 => ?_))
        have f10 : h8 (ar 5) = some (eI D 10 (fu n (Int.toNat (((k : Nat) : Int))) ((n k) - 1))) := by rw [e9]; exact hu_s
        refine x_iload_n C dL_edits_316 1 rfl ?_
        refine x_iconst C dL_edits_317 1 (by decide) ?_
        refine x_icmp_ne (tgt := 338) C dL_edits_318 (by decide) (by omega) (by omega) (fun c11 => ?_) (fun c11 => ?_)
        · exfalso; omega
        · skip
          refine x_aload C dL_edits_321 6 rfl ?_
          refine x_bipush C dL_edits_323 12 (by decide) ?_
          refine x_iload C dL_edits_325 9 rfl ?_
          refine x_imul C dL_edits_327 ?_
          refine x_aload C dL_edits_328 8 rfl ?_
          refine x_iload C dL_edits_330 10 rfl ?_
          refine x_iald C f10 ⟨by omega, by omega⟩ (by decide) dL_edits_332 ?_
          refine x_topv (show (fu n (Int.toNat (((k : Nat) : Int))) ((n k) - 1)) (Int.toNat (((k : Nat) : Int))) = n k - 1 from by first | exact fu_s | (rw [fu_s]; omega)) ?_
          refine x_iadd C dL_edits_333 ?_
          have f12 : h8 (ar 3) = some (eI D 60 u) := by rw [e9, hu_n (ari hai (i := 3) (j := 5) (by decide) (by decide) (by decide))]; exact hu
          refine x_iald C f12 ⟨by omega, by omega⟩ (by decide) dL_edits_334 ?_
          refine x_topv (show u (Int.toNat ((12 * (((k : Nat) : Int))) + (n k - 1))) = 100 * a9 + b9 from by rw [show Int.toNat (12 * ((k : Nat) : Int) + (n k - 1)) = 12 * k + d by omega]; exact hu9) ?_
          refine x_goto (tgt := 352) C dL_edits_335 (by decide) ?_
          refine x_istore C (ls' := [(0, .ref x), (1, vI 1), (2, .int zz), (3, .ref (ar 0)), (4, .ref (ar 1)), (5, .ref (ar 2)), (6, .ref (ar 3)), (7, .ref (ar 4)), (8, .ref (ar 5)), (9, vI ((k : Nat) : Int)), (10, vI ((k : Nat) : Int)), (11, vI (100 * a9 + b9))]) dL_edits_352 (by decide) rfl ?_
          refine x_bipush C dL_edits_354 12 (by decide) ?_
          refine x_iload C dL_edits_356 9 rfl ?_
          refine x_imul C dL_edits_358 ?_
          refine x_aload C dL_edits_359 8 rfl ?_
          refine x_iconst C dL_edits_361 5 (by decide) ?_
          refine x_iconst C dL_edits_362 2 (by decide) ?_
          refine x_iload C dL_edits_363 9 rfl ?_
          refine x_imul C dL_edits_365 ?_
          refine x_iadd C dL_edits_366 ?_
          refine x_iload C dL_edits_367 10 rfl ?_
          refine x_isub C dL_edits_369 ?_
          refine x_iald C f10 ⟨by omega, by omega⟩ (by decide) dL_edits_370 ?_
          refine x_topv (show (fu n (Int.toNat (((k : Nat) : Int))) ((n k) - 1)) (Int.toNat ((5 + (2 * (((k : Nat) : Int)))) - (((k : Nat) : Int)))) = n (5 + k) from by rw [show Int.toNat (5 + 2 * ((k : Nat) : Int) - ((k : Nat) : Int)) = 5 + k by omega, fu_n (by omega)]) ?_
          refine x_iadd C dL_edits_371 ?_
          refine x_istore C (ls' := [(0, .ref x), (1, vI 1), (2, .int zz), (3, .ref (ar 0)), (4, .ref (ar 1)), (5, .ref (ar 2)), (6, .ref (ar 3)), (7, .ref (ar 4)), (8, .ref (ar 5)), (9, vI ((k : Nat) : Int)), (10, vI ((k : Nat) : Int)), (11, vI (100 * a9 + b9)), (12, vI ((12 * (((k : Nat) : Int))) + (n (5 + k))))]) dL_edits_372 (by decide) rfl ?_
          refine x_aload C dL_edits_374 6 rfl ?_
          refine x_iload_n C dL_edits_376 1 rfl ?_
          refine x_iconst C dL_edits_377 1 (by decide) ?_
          refine x_icmp_ne (tgt := 389) C dL_edits_378 (by decide) (by omega) (by omega) (fun c13 => ?_) (fun c13 => ?_)
          · exfalso; omega
          · skip
            refine x_bipush C dL_edits_381 12 (by decide) ?_
            refine x_iload C dL_edits_383 9 rfl ?_
            refine x_imul C dL_edits_385 ?_
            refine x_goto (tgt := 391) C dL_edits_386 (by decide) ?_
            refine x_iload_n C dL_edits_391 1 rfl ?_
            refine x_iconst C dL_edits_392 1 (by decide) ?_
            refine x_icmp_ne (tgt := 407) C dL_edits_393 (by decide) (by omega) (by omega) (fun c14 => ?_) (fun c14 => ?_)
            · exfalso; omega
            · skip
              refine x_aload C dL_edits_396 6 rfl ?_
              refine x_bipush C dL_edits_398 12 (by decide) ?_
              refine x_iload C dL_edits_400 9 rfl ?_
              refine x_imul C dL_edits_402 ?_
              refine x_iald C f12 ⟨by omega, by omega⟩ (by decide) dL_edits_403 ?_
              refine x_goto (tgt := 409) C dL_edits_404 (by decide) ?_
              refine x_iast C f12 ⟨by omega, by omega⟩ (by decide) dL_edits_409 (x_hn (fun h15 e16 => ?_))
              have f17 : h15 (ar 3) = some (eI D 60 (fu u (Int.toNat (12 * (((k : Nat) : Int)))) (u (Int.toNat (12 * (((k : Nat) : Int))))))) := by rw [e16]; exact hu_s
              refine x_aload C dL_edits_410 7 rfl ?_
              refine x_iload_n C dL_edits_412 1 rfl ?_
              refine x_iconst C dL_edits_413 1 (by decide) ?_
              refine x_icmp_ne (tgt := 422) C dL_edits_414 (by decide) (by omega) (by omega) (fun c18 => ?_) (fun c18 => ?_)
              · exfalso; omega
              · skip
                refine x_iload C dL_edits_417 12 rfl ?_
                refine x_goto (tgt := 427) C dL_edits_419 (by decide) ?_
                refine x_iload_n C dL_edits_427 1 rfl ?_
                refine x_iconst C dL_edits_428 1 (by decide) ?_
                refine x_icmp_ne (tgt := 437) C dL_edits_429 (by decide) (by omega) (by omega) (fun c19 => ?_) (fun c19 => ?_)
                · exfalso; omega
                · skip
                  refine x_iload C dL_edits_432 11 rfl ?_
                  refine x_goto (tgt := 445) C dL_edits_434 (by decide) ?_
                  have f20 : h8 (ar 4) = some (eI D 60 v) := by rw [e9, hu_n (ari hai (i := 4) (j := 5) (by decide) (by decide) (by decide))]; exact hv
                  have f21 : h15 (ar 4) = some (eI D 60 v) := by rw [e16, hu_n (ari hai (i := 4) (j := 3) (by decide) (by decide) (by decide))]; exact f20
                  refine x_iast C f21 ⟨by omega, by omega⟩ (by decide) dL_edits_445 (x_hn (fun h22 e23 => ?_))
                  have f24 : h22 (ar 4) = some (eI D 60 (fu v (Int.toNat ((12 * (((k : Nat) : Int))) + (n (5 + k)))) (100 * a9 + b9))) := by rw [e23]; exact hu_s
                  refine x_aload C dL_edits_446 8 rfl ?_
                  refine x_iconst C dL_edits_448 5 (by decide) ?_
                  refine x_iconst C dL_edits_449 2 (by decide) ?_
                  refine x_iload C dL_edits_450 9 rfl ?_
                  refine x_imul C dL_edits_452 ?_
                  refine x_iadd C dL_edits_453 ?_
                  refine x_iload C dL_edits_454 10 rfl ?_
                  refine x_isub C dL_edits_456 ?_
                  refine x_dup2 C dL_edits_457 rfl rfl ?_
                  have f25 : h15 (ar 5) = some (eI D 10 (fu n (Int.toNat (((k : Nat) : Int))) ((n k) - 1))) := by rw [e16, hu_n (ari hai (i := 5) (j := 3) (by decide) (by decide) (by decide))]; exact f10
                  have f26 : h22 (ar 5) = some (eI D 10 (fu n (Int.toNat (((k : Nat) : Int))) ((n k) - 1))) := by rw [e23, hu_n (ari hai (i := 5) (j := 4) (by decide) (by decide) (by decide))]; exact f25
                  refine x_iald C f26 ⟨by omega, by omega⟩ (by decide) dL_edits_458 ?_
                  refine x_topv (show (fu n (Int.toNat (((k : Nat) : Int))) ((n k) - 1)) (Int.toNat ((5 + (2 * (((k : Nat) : Int)))) - (((k : Nat) : Int)))) = n (5 + k) from by rw [show Int.toNat (5 + 2 * ((k : Nat) : Int) - ((k : Nat) : Int)) = 5 + k by omega, fu_n (by omega)]) ?_
                  refine x_iconst C dL_edits_459 1 (by decide) ?_
                  refine x_iadd C dL_edits_460 ?_
                  refine x_iast C f26 ⟨by omega, by omega⟩ (by decide) dL_edits_461 (x_hn (fun h27 e28 => ?_))
                  have f29 : h27 (ar 5) = some (eI D 10 (fu (fu n (Int.toNat (((k : Nat) : Int))) ((n k) - 1)) (Int.toNat ((5 + (2 * (((k : Nat) : Int)))) - (((k : Nat) : Int)))) ((n (5 + k)) + 1))) := by rw [e28]; exact hu_s
                  refine x_aload C dL_edits_462 4 rfl ?_
                  refine x_bipush C dL_edits_464 6 (by decide) ?_
                  refine x_iload C dL_edits_466 9 rfl ?_
                  refine x_imul C dL_edits_468 ?_
                  refine x_iload C dL_edits_469 11 rfl ?_
                  refine x_bipush C dL_edits_471 100 (by decide) ?_
                  refine x_idiv C dL_edits_473 (by omega) (by omega) (by omega) (by omega) ?_
                  refine x_topv (show (100 * a9 + b9) / 100 = a9 from by omega) ?_
                  refine x_iload_n C dL_edits_474 1 rfl ?_
                  refine x_iconst C dL_edits_475 1 (by decide) ?_
                  refine x_icmp_ne (tgt := 490) C dL_edits_476 (by decide) (by omega) (by omega) (fun c30 => ?_) (fun c30 => ?_)
                  · exfalso; omega
                  · skip
                    refine x_iload C dL_edits_479 11 rfl ?_
                    refine x_bipush C dL_edits_481 10 (by decide) ?_
                    refine x_idiv C dL_edits_483 (by omega) (by omega) (by omega) (by omega) ?_
                    refine x_bipush C dL_edits_484 10 (by decide) ?_
                    refine x_irem C dL_edits_486 (by omega) (by omega) (by omega) (by omega) ?_
                    refine x_topv (show ((100 * a9 + b9) / 10) % 10 = b9 / 10 from by omega) ?_
                    refine x_goto (tgt := 495) C dL_edits_487 (by decide) ?_
                    have f31 : h8 (ar 1) = some (eJ D 60 g) := by rw [e9, hu_n (ari hai (i := 1) (j := 5) (by decide) (by decide) (by decide))]; exact hg
                    have f32 : h15 (ar 1) = some (eJ D 60 g) := by rw [e16, hu_n (ari hai (i := 1) (j := 3) (by decide) (by decide) (by decide))]; exact f31
                    have f33 : h22 (ar 1) = some (eJ D 60 g) := by rw [e23, hu_n (ari hai (i := 1) (j := 4) (by decide) (by decide) (by decide))]; exact f32
                    have f34 : h27 (ar 1) = some (eJ D 60 g) := by rw [e28, hu_n (ari hai (i := 1) (j := 5) (by decide) (by decide) (by decide))]; exact f33
                    refine x_callSJ C (n := 4) (As := [.ref (ar 1), vI (6 * (((k : Nat) : Int))), vI a9, vI (b9 / 10)]) (rest := []) (c_L_put f34 (by omega) (by omega) (by omega)) gL_edits_L_put (by decide +kernel) rfl rfl rfl (Nat.le_of_ble_eq_true rfl) ⟨by decide, by decide⟩ ⟨(by decide), (by decide)⟩ dL_edits_495 (fun rv35 h36 hp37 => ?_)
                    obtain ⟨rfl, e38⟩ := hp37
                    have f39 : h36 (ar 1) = some (eJ D 60 (gput g (6 * (((k : Nat) : Int))).toNat a9.toNat (b9 / 10).toNat)) := by rw [e38]; exact hu_s
                    refine x_aload C dL_edits_498 5 rfl ?_
                    refine x_iconst C dL_edits_500 4 (by decide) ?_
                    refine x_iload C dL_edits_501 9 rfl ?_
                    refine x_imul C dL_edits_503 ?_
                    refine x_iconst C dL_edits_504 2 (by decide) ?_
                    refine x_iadd C dL_edits_505 ?_
                    refine x_bipush C dL_edits_506 (-2) (by decide) ?_
                    have f40 : h8 (ar 2) = some (eI D 20 l0) := by rw [e9, hu_n (ari hai (i := 2) (j := 5) (by decide) (by decide) (by decide))]; exact hl0
                    have f41 : h15 (ar 2) = some (eI D 20 l0) := by rw [e16, hu_n (ari hai (i := 2) (j := 3) (by decide) (by decide) (by decide))]; exact f40
                    have f42 : h22 (ar 2) = some (eI D 20 l0) := by rw [e23, hu_n (ari hai (i := 2) (j := 4) (by decide) (by decide) (by decide))]; exact f41
                    have f43 : h27 (ar 2) = some (eI D 20 l0) := by rw [e28, hu_n (ari hai (i := 2) (j := 5) (by decide) (by decide) (by decide))]; exact f42
                    have f44 : h36 (ar 2) = some (eI D 20 l0) := by rw [e38, hu_n (ari hai (i := 2) (j := 1) (by decide) (by decide) (by decide))]; exact f43
                    refine x_iast C f44 ⟨by omega, by omega⟩ (by decide) dL_edits_508 (x_hn (fun h45 e46 => ?_))
                    have f47 : h45 (ar 2) = some (eI D 20 (fu l0 (Int.toNat ((4 * (((k : Nat) : Int))) + 2)) ((-2)))) := by rw [e46]; exact hu_s
                    have f48 : h45 (ar 1) = some (eJ D 60 (gput g (6 * (((k : Nat) : Int))).toNat a9.toNat (b9 / 10).toNat)) := by rw [e46, hu_n (ari hai (i := 1) (j := 2) (by decide) (by decide) (by decide))]; exact f39
                    have f49 : h45 (ar 1) = some (eJ D 60 (gput g (6 * k) a9.toNat (b9 / 10).toNat)) := by have q9 := f48; rw [e6k] at q9; exact q9
                    have f50 : h45 (ar 2) = some (eI D 20 (fu l0 (4 * k + 2) (-2))) := by have q9 := f47; rw [e42] at q9; exact q9
                    have f51 : h22 (ar 3) = some (eI D 60 (fu u (Int.toNat (12 * (((k : Nat) : Int)))) (u (Int.toNat (12 * (((k : Nat) : Int))))))) := by rw [e23, hu_n (ari hai (i := 3) (j := 4) (by decide) (by decide) (by decide))]; exact f17
                    have f52 : h27 (ar 3) = some (eI D 60 (fu u (Int.toNat (12 * (((k : Nat) : Int)))) (u (Int.toNat (12 * (((k : Nat) : Int))))))) := by rw [e28, hu_n (ari hai (i := 3) (j := 5) (by decide) (by decide) (by decide))]; exact f51
                    have f53 : h36 (ar 3) = some (eI D 60 (fu u (Int.toNat (12 * (((k : Nat) : Int)))) (u (Int.toNat (12 * (((k : Nat) : Int))))))) := by rw [e38, hu_n (ari hai (i := 3) (j := 1) (by decide) (by decide) (by decide))]; exact f52
                    have f54 : h45 (ar 3) = some (eI D 60 (fu u (Int.toNat (12 * (((k : Nat) : Int)))) (u (Int.toNat (12 * (((k : Nat) : Int))))))) := by rw [e46, hu_n (ari hai (i := 3) (j := 2) (by decide) (by decide) (by decide))]; exact f53
                    have f55 : h45 (ar 3) = some (eI D 60 u) := by have q9 := f54; rw [show fu u (Int.toNat (12 * ((k : Nat) : Int))) (u (Int.toNat (12 * ((k : Nat) : Int)))) = u from fu_self] at q9; exact q9
                    have f56 : h27 (ar 4) = some (eI D 60 (fu v (Int.toNat ((12 * (((k : Nat) : Int))) + (n (5 + k)))) (100 * a9 + b9))) := by rw [e28, hu_n (ari hai (i := 4) (j := 5) (by decide) (by decide) (by decide))]; exact f24
                    have f57 : h36 (ar 4) = some (eI D 60 (fu v (Int.toNat ((12 * (((k : Nat) : Int))) + (n (5 + k)))) (100 * a9 + b9))) := by rw [e38, hu_n (ari hai (i := 4) (j := 1) (by decide) (by decide) (by decide))]; exact f56
                    have f58 : h45 (ar 4) = some (eI D 60 (fu v (Int.toNat ((12 * (((k : Nat) : Int))) + (n (5 + k)))) (100 * a9 + b9))) := by rw [e46, hu_n (ari hai (i := 4) (j := 2) (by decide) (by decide) (by decide))]; exact f57
                    have f59 : h45 (ar 4) = some (eI D 60 (fu v (12 * k + s9) (100 * a9 + b9))) := by have q9 := f58; rw [show Int.toNat (12 * ((k : Nat) : Int) + n (5 + k)) = 12 * k + s9 by omega] at q9; exact q9
                    have f60 : h36 (ar 5) = some (eI D 10 (fu (fu n (Int.toNat (((k : Nat) : Int))) ((n k) - 1)) (Int.toNat ((5 + (2 * (((k : Nat) : Int)))) - (((k : Nat) : Int)))) ((n (5 + k)) + 1))) := by rw [e38, hu_n (ari hai (i := 5) (j := 1) (by decide) (by decide) (by decide))]; exact f29
                    have f61 : h45 (ar 5) = some (eI D 10 (fu (fu n (Int.toNat (((k : Nat) : Int))) ((n k) - 1)) (Int.toNat ((5 + (2 * (((k : Nat) : Int)))) - (((k : Nat) : Int)))) ((n (5 + k)) + 1))) := by rw [e46, hu_n (ari hai (i := 5) (j := 2) (by decide) (by decide) (by decide))]; exact f60
                    have f62 : h45 (ar 5) = some (eI D 10 (fu (fu n k ((d : Nat) : Int)) (5 + k) ((s9 + 1 : Nat) : Int))) := by have q9 := f61; rw [show Int.toNat (5 + 2 * ((k : Nat) : Int) - ((k : Nat) : Int)) = 5 + k by omega] at q9; rw [show n (5 + k) + 1 = ((s9 + 1 : Nat) : Int) by omega] at q9; rw [show n k - 1 = ((d : Nat) : Int) by omega] at q9; exact q9
                    refine x_aload_n C dL_edits_509 0 rfl ?_
                    refine x_iload_n C dL_edits_510 1 rfl ?_
                    refine x_iload C dL_edits_511 9 rfl ?_
                    refine x_iconst C dL_edits_513 0 (by decide) ?_
                    refine x_iconst C dL_edits_514 0 (by decide) ?_
                    have hSy9 : Sy D x ar m L W t h45 := by rw [e46, e38, e28, e23, e16, e9]; repeat (first | exact hSy | refine Sy.off ?_ (by decide))
                    have hSC9 : SC D ar h45 := by rw [e46, e38, e28, e23, e16, e9]; repeat (first | exact hSC | refine SC.off hai ?_ (by decide))
                    have f63 : h8 (ar 0) = some (eI D 5 q) := by rw [e9, hu_n (ari hai (i := 0) (j := 5) (by decide) (by decide) (by decide))]; exact hq
                    have f64 : h15 (ar 0) = some (eI D 5 q) := by rw [e16, hu_n (ari hai (i := 0) (j := 3) (by decide) (by decide) (by decide))]; exact f63
                    have f65 : h22 (ar 0) = some (eI D 5 q) := by rw [e23, hu_n (ari hai (i := 0) (j := 4) (by decide) (by decide) (by decide))]; exact f64
                    have f66 : h27 (ar 0) = some (eI D 5 q) := by rw [e28, hu_n (ari hai (i := 0) (j := 5) (by decide) (by decide) (by decide))]; exact f65
                    have f67 : h36 (ar 0) = some (eI D 5 q) := by rw [e38, hu_n (ari hai (i := 0) (j := 1) (by decide) (by decide) (by decide))]; exact f66
                    have f68 : h45 (ar 0) = some (eI D 5 q) := by rw [e46, hu_n (ari hai (i := 0) (j := 2) (by decide) (by decide) (by decide))]; exact f67
                    have f69 : h8 (ar 6) = some (eI D 25 w) := by rw [e9, hu_n (ari hai (i := 6) (j := 5) (by decide) (by decide) (by decide))]; exact hw
                    have f70 : h15 (ar 6) = some (eI D 25 w) := by rw [e16, hu_n (ari hai (i := 6) (j := 3) (by decide) (by decide) (by decide))]; exact f69
                    have f71 : h22 (ar 6) = some (eI D 25 w) := by rw [e23, hu_n (ari hai (i := 6) (j := 4) (by decide) (by decide) (by decide))]; exact f70
                    have f72 : h27 (ar 6) = some (eI D 25 w) := by rw [e28, hu_n (ari hai (i := 6) (j := 5) (by decide) (by decide) (by decide))]; exact f71
                    have f73 : h36 (ar 6) = some (eI D 25 w) := by rw [e38, hu_n (ari hai (i := 6) (j := 1) (by decide) (by decide) (by decide))]; exact f72
                    have f74 : h45 (ar 6) = some (eI D 25 w) := by rw [e46, hu_n (ari hai (i := 6) (j := 2) (by decide) (by decide) (by decide))]; exact f73
                    have f75 : h8 (ar 7) = some (eI D 15 p) := by rw [e9, hu_n (ari hai (i := 7) (j := 5) (by decide) (by decide) (by decide))]; exact hp
                    have f76 : h15 (ar 7) = some (eI D 15 p) := by rw [e16, hu_n (ari hai (i := 7) (j := 3) (by decide) (by decide) (by decide))]; exact f75
                    have f77 : h22 (ar 7) = some (eI D 15 p) := by rw [e23, hu_n (ari hai (i := 7) (j := 4) (by decide) (by decide) (by decide))]; exact f76
                    have f78 : h27 (ar 7) = some (eI D 15 p) := by rw [e28, hu_n (ari hai (i := 7) (j := 5) (by decide) (by decide) (by decide))]; exact f77
                    have f79 : h36 (ar 7) = some (eI D 15 p) := by rw [e38, hu_n (ari hai (i := 7) (j := 1) (by decide) (by decide) (by decide))]; exact f78
                    have f80 : h45 (ar 7) = some (eI D 15 p) := by rw [e46, hu_n (ari hai (i := 7) (j := 2) (by decide) (by decide) (by decide))]; exact f79
                    have f81 : h8 (ar 8) = some (eI D 18 r) := by rw [e9, hu_n (ari hai (i := 8) (j := 5) (by decide) (by decide) (by decide))]; exact hr
                    have f82 : h15 (ar 8) = some (eI D 18 r) := by rw [e16, hu_n (ari hai (i := 8) (j := 3) (by decide) (by decide) (by decide))]; exact f81
                    have f83 : h22 (ar 8) = some (eI D 18 r) := by rw [e23, hu_n (ari hai (i := 8) (j := 4) (by decide) (by decide) (by decide))]; exact f82
                    have f84 : h27 (ar 8) = some (eI D 18 r) := by rw [e28, hu_n (ari hai (i := 8) (j := 5) (by decide) (by decide) (by decide))]; exact f83
                    have f85 : h36 (ar 8) = some (eI D 18 r) := by rw [e38, hu_n (ari hai (i := 8) (j := 1) (by decide) (by decide) (by decide))]; exact f84
                    have f86 : h45 (ar 8) = some (eI D 18 r) := by rw [e46, hu_n (ari hai (i := 8) (j := 2) (by decide) (by decide) (by decide))]; exact f85
                    have hAR9 : AR D ar q (gput g (6 * k) a9.toNat (b9 / 10).toNat) (fu l0 (4 * k + 2) (-2)) u (fu v (12 * k + s9) (100 * a9 + b9)) (fu (fu n k ((d : Nat) : Int)) (5 + k) ((s9 + 1 : Nat) : Int)) w p r h45 := ⟨f68, f49, f50, f55, f59, f62, f74, f80, f86⟩
                    obtain ⟨P9, hM9, hP9⟩ := k_undo (l := kl κ) (A := A) hSy9 (u := k) hkL (b1 := 0) (b2 := 0)
                    refine x_callSh C (n := 5) (As := [.ref x, vI 1, vI ((k : Nat) : Int), vI 0, vI 0]) (rest := []) hM9 kn gL_edits_L_calls (by decide +kernel) rfl rfl rfl (Nat.le_of_ble_eq_true rfl) ⟨by decide, by decide⟩ ⟨(by decide), (by decide)⟩ dL_edits_515 (fun rv9 h9 hp9 => ?_)
                    have hk9 := hP9 rv9 h9 hp9
                    rw [show (m 8 0 k).toNat - 1 = d by omega, show (m 11 0 k).toNat = s9 by omega, ← ha9, ← hb9] at hk9
                    obtain ⟨hc9, rfl, hS9, hkp9⟩ := hk9.resolve_right (fun z9 => (by have y9 := z9.1; omega))
                    refine x_iload C dL_edits_518 11 rfl ?_
                    refine x_bipush C dL_edits_520 100 (by decide) ?_
                    refine x_idiv C dL_edits_522 (by omega) (by omega) (by omega) (by omega) ?_
                    refine x_topv (show (100 * a9 + b9) / 100 = a9 from by omega) ?_
                    refine x_icmp_ne (tgt := 530) C dL_edits_523 (by decide) (by omega) (by omega) (fun c87 => ?_) (fun c87 => ?_)
                    · exfalso; omega
                    · skip
                      refine x_iconst C dL_edits_526 1 (by decide) ?_
                      refine x_goto (tgt := 531) C dL_edits_527 (by decide) ?_
                      refine x_zret C G dL_edits_531 (by first | exact Or.inl rfl | exact Or.inr rfl) ?_ (by decide) (by decide)
                      exact ⟨rfl, _, _, _, _, _, _, _, _, _, _, _, _, hS9, hEX, hPK9, hAR9.kp hkp9, hSC9.kp hkp9⟩
      · skip
        refine x_aload_n C dL_edits_287 0 rfl ?_
        refine x_iload_n C dL_edits_288 1 rfl ?_
        refine x_iload C dL_edits_289 9 rfl ?_
        refine x_iconst C dL_edits_291 0 (by decide) ?_
        refine x_iconst C dL_edits_292 0 (by decide) ?_
        have hSy9 : Sy D x ar m L W t h := by repeat (first | exact hSy | refine Sy.off ?_ (by decide))
        have hSC9 : SC D ar h := by repeat (first | exact hSC | refine SC.off hai ?_ (by decide))
        have hAR9 : AR D ar q g l0 u v n w p r h := ⟨hq, hg, hl0, hu, hv, hn, hw, hp, hr⟩
        obtain ⟨P9, hM9, hP9⟩ := k_undo (l := kl κ) (A := A) hSy9 (u := k) hkL (b1 := 0) (b2 := 0)
        refine x_callSh C (n := 5) (As := [.ref x, vI 1, vI ((k : Nat) : Int), vI 0, vI 0]) (rest := []) hM9 kn gL_edits_L_calls (by decide +kernel) rfl rfl rfl (Nat.le_of_ble_eq_true rfl) ⟨by decide, by decide⟩ ⟨(by decide), (by decide)⟩ dL_edits_293 (fun rv9 h9 hp9 => ?_)
        have hk9 := hP9 rv9 h9 hp9
        obtain ⟨hc9, rfl, he9⟩ := hk9.resolve_left (fun z9 => (by have y9 := z9.1; omega))
        obtain rfl := he9.symm
        refine x_bipush C dL_edits_296 (-5) (by decide) ?_
        refine x_icmp_ne (tgt := 305) C dL_edits_298 (by decide) (by omega) (by omega) (fun c88 => ?_) (fun c88 => ?_)
        · exfalso; omega
        · skip
          refine x_iconst C dL_edits_301 1 (by decide) ?_
          refine x_goto (tgt := 306) C dL_edits_302 (by decide) ?_
          refine x_zret C G dL_edits_306 (by first | exact Or.inl rfl | exact Or.inr rfl) ?_ (by decide) (by decide)
          refine ⟨rfl, m, L, W, q, g, l0, u, v, n, w, p, r, hSy.le (by omega), hEX, hPK, ⟨hq, hg, hl0, hu, hv, hn, hw, hp, hr⟩, hSC⟩
  · exfalso; omega

set_option maxRecDepth 100000 in
set_option maxHeartbeats 4000000 in
theorem c_L_edits2 {l : Launch} {D : va_G} {A : Nat → Prop} {h : vh} {x t L W : Nat} {ar : Nat → Nat} {m : CS} {g : Nat → Int64} {q l0 u v n w p r : Nat → Int} {zz : Int32} (hq : h (ar 0) = some (eI D 5 q)) (hg : h (ar 1) = some (eJ D 60 g)) (hl0 : h (ar 2) = some (eI D 20 l0)) (hu : h (ar 3) = some (eI D 60 u)) (hv : h (ar 4) = some (eI D 60 v)) (hn : h (ar 5) = some (eI D 10 n)) (hw : h (ar 6) = some (eI D 25 w)) (hp : h (ar 7) = some (eI D 15 p)) (hr : h (ar 8) = some (eI D 18 r)) (hai : ∀ i j, i < 16 → j < 16 → ar i = ar j → i = j) (hSy : Sy D x ar m L W t h) (hEX : EX m) (hPK : PK m L W q g l0 u v n w p r) (hSC : SC D ar h) (hL : 0 < L) : HX l D A yL_edits wsL_edits { frames := 9, cells := 2, slots := 12, locals := 161 } [.ref x, vI 2, .int zz, .ref (ar 0), .ref (ar 1), .ref (ar 2), .ref (ar 3), .ref (ar 4), .ref (ar 5)] h (fun rv h' => rv = some (vI 1) ∧ WD D x ar (t + 1) h') := by
  refine HX.ofc (cc := cL_edits) (maxL := 15) (ret := (some .boolean)) [(0, .ref x), (1, vI 2), (2, .int zz), (3, .ref (ar 0)), (4, .ref (ar 1)), (5, .ref (ar 2)), (6, .ref (ar 3)), (7, .ref (ar 4)), (8, .ref (ar 5))] (by decide +kernel) rfl rfl (Nat.le_of_ble_eq_true rfl) ?_
  intro κ C hkl G kn
  subst hkl
  have C : CX κ "LedgeLevelsLaw" "edits" cL_edits wsL_edits { frames := 9, cells := 2, slots := 12, locals := 161 } D A 15 := C
  have hiz : nq (D.1 20) (D.1 21) := cx_iz C
  obtain ⟨⟨hL5, hW5, hq0, hq1⟩, hqs, hPL, _⟩ := id hPK
  obtain ⟨k, hk⟩ : ∃ k : Nat, k = lowF zz ((L : Nat) : Int) := ⟨_, rfl⟩
  have hkL : k < L := by
    have := lowF_lt (v := zz) (n := ((L : Nat) : Int)) (by omega)
    omega
  obtain ⟨hA7, hf8, hst, hpr, hau⟩ := hSy.lev hPK hkL
  have hEB := hSy.eb hPK
  obtain ⟨hn0, hn1, hn12⟩ := (hEB k hkL).1
  obtain ⟨k1, k2, k3, k4, k5, k6, k7, k8, k9, k10⟩ := hPL k hkL
  have e6k : (6 * ((k : Nat) : Int)).toNat = 6 * k := by omega
  have e41 : Int.toNat (4 * ((k : Nat) : Int) + 1) = 4 * k + 1 := by omega
  have e42 : Int.toNat (4 * ((k : Nat) : Int) + 2) = 4 * k + 2 := by omega
  have e5k : Int.toNat (5 + ((k : Nat) : Int)) = 5 + k := by omega
  refine x_iload_n C dL_edits_0 2 rfl ?_
  refine x_aload_n C dL_edits_1 3 rfl ?_
  refine x_iconst C dL_edits_2 0 (by decide) ?_
  refine x_iald C hq ⟨by omega, by omega⟩ (by decide) dL_edits_3 ?_
  refine x_topv (show q (Int.toNat 0) = ((L : Nat) : Int) from by exact hq0) ?_
  refine x_callSJ C (n := 2) (As := [.int zz, vI ((L : Nat) : Int)]) (rest := []) (c_L_low (by omega)) gL_edits_L_low (by decide +kernel) rfl rfl rfl (Nat.le_of_ble_eq_true rfl) ⟨by decide, by decide⟩ ⟨(by decide), (by decide)⟩ dL_edits_4 (fun rv1 h2 hp3 => ?_)
  obtain ⟨rfl, e4, hr_4⟩ := hp3
  obtain rfl := e4.symm
  refine x_topv (show ((lowF zz (((L : Nat) : Int)) : Nat) : Int) = ((k : Nat) : Int) from by rw [hk]) ?_
  refine x_istore C (ls' := [(0, .ref x), (1, vI 2), (2, .int zz), (3, .ref (ar 0)), (4, .ref (ar 1)), (5, .ref (ar 2)), (6, .ref (ar 3)), (7, .ref (ar 4)), (8, .ref (ar 5)), (9, vI ((k : Nat) : Int))]) dL_edits_7 (by decide) rfl ?_
  refine x_iload_n C dL_edits_9 1 rfl ?_
  refine x_if_ne (tgt := 263) C dL_edits_10 (by decide) (by omega) (fun c5 => ?_) (fun c5 => ?_)
  · skip
    refine x_iload_n C dL_edits_263 1 rfl ?_
    refine x_iconst C dL_edits_264 1 (by decide) ?_
    refine x_icmp_ne (tgt := 273) C dL_edits_265 (by decide) (by omega) (by omega) (fun c6 => ?_) (fun c6 => ?_)
    · skip
      refine x_iconst C dL_edits_273 5 (by decide) ?_
      refine x_iload C dL_edits_274 9 rfl ?_
      refine x_iadd C dL_edits_276 ?_
      refine x_istore C (ls' := [(0, .ref x), (1, vI 2), (2, .int zz), (3, .ref (ar 0)), (4, .ref (ar 1)), (5, .ref (ar 2)), (6, .ref (ar 3)), (7, .ref (ar 4)), (8, .ref (ar 5)), (9, vI ((k : Nat) : Int)), (10, vI (5 + (((k : Nat) : Int))))]) dL_edits_277 (by decide) rfl ?_
      refine x_aload C dL_edits_279 8 rfl ?_
      refine x_iload C dL_edits_281 10 rfl ?_
      refine x_iald C hn ⟨by omega, by omega⟩ (by decide) dL_edits_283 ?_
      refine x_topv (show n (Int.toNat (5 + (((k : Nat) : Int)))) = n (5 + k) from by rw [e5k]) ?_
      refine x_if_ne (tgt := 307) C dL_edits_284 (by decide) (by omega) (fun c7 => ?_) (fun c7 => ?_)
      · skip
        obtain ⟨d, hd⟩ : ∃ d : Nat, n k = ((d : Nat) : Int) := ⟨(n k).toNat, by omega⟩
        obtain ⟨s9, hs9⟩ : ∃ s9 : Nat, n (5 + k) = ((s9 + 1 : Nat) : Int) := ⟨(n (5 + k)).toNat - 1, by omega⟩
        have hbd := (hEB k hkL).2.2 s9 (by omega)
        have hb8 := hSy.r8 hPK hkL (j := s9) (by omega)
        have hu9 := k10 s9 (by omega)
        have hPK9 := PK.re hPK hEB hkL hd hs9
        rw [hu9] at hPK9
        obtain ⟨a9, ha9⟩ : ∃ a9, a9 = m 12 0 (40 * k + s9) := ⟨_, rfl⟩
        obtain ⟨b9, hb9⟩ : ∃ b9, b9 = m 13 0 (40 * k + s9) := ⟨_, rfl⟩
        rw [← ha9, ← hb9] at hbd hu9 hPK9
        rw [← hb9] at hb8
        refine x_aload C dL_edits_307 8 rfl ?_
        refine x_iload C dL_edits_309 10 rfl ?_
        refine x_dup2 C dL_edits_311 rfl rfl ?_
        refine x_iald C hn ⟨by omega, by omega⟩ (by decide) dL_edits_312 ?_
        refine x_topv (show n (Int.toNat (5 + (((k : Nat) : Int)))) = n (5 + k) from by rw [e5k]) ?_
        refine x_iconst C dL_edits_313 1 (by decide) ?_
        refine x_isub C dL_edits_314 ?_
        refine x_iast C hn ⟨by omega, by omega⟩ (by decide) dL_edits_315 (x_hn (fun h8 e9 => ?_))
        have f10 : h8 (ar 5) = some (eI D 10 (fu n (Int.toNat (5 + (((k : Nat) : Int)))) ((n (5 + k)) - 1))) := by rw [e9]; exact hu_s
        refine x_iload_n C dL_edits_316 1 rfl ?_
        refine x_iconst C dL_edits_317 1 (by decide) ?_
        refine x_icmp_ne (tgt := 338) C dL_edits_318 (by decide) (by omega) (by omega) (fun c11 => ?_) (fun c11 => ?_)
        · skip
          refine x_aload C dL_edits_338 7 rfl ?_
          refine x_bipush C dL_edits_340 12 (by decide) ?_
          refine x_iload C dL_edits_342 9 rfl ?_
          refine x_imul C dL_edits_344 ?_
          refine x_aload C dL_edits_345 8 rfl ?_
          refine x_iload C dL_edits_347 10 rfl ?_
          refine x_iald C f10 ⟨by omega, by omega⟩ (by decide) dL_edits_349 ?_
          refine x_topv (show (fu n (Int.toNat (5 + (((k : Nat) : Int)))) ((n (5 + k)) - 1)) (Int.toNat (5 + (((k : Nat) : Int)))) = n (5 + k) - 1 from by rw [e5k, fu_s]) ?_
          refine x_iadd C dL_edits_350 ?_
          have f12 : h8 (ar 4) = some (eI D 60 v) := by rw [e9, hu_n (ari hai (i := 4) (j := 5) (by decide) (by decide) (by decide))]; exact hv
          refine x_iald C f12 ⟨by omega, by omega⟩ (by decide) dL_edits_351 ?_
          refine x_topv (show v (Int.toNat ((12 * (((k : Nat) : Int))) + (n (5 + k) - 1))) = 100 * a9 + b9 from by rw [show Int.toNat (12 * ((k : Nat) : Int) + (n (5 + k) - 1)) = 12 * k + s9 by omega]; exact hu9) ?_
          refine x_istore C (ls' := [(0, .ref x), (1, vI 2), (2, .int zz), (3, .ref (ar 0)), (4, .ref (ar 1)), (5, .ref (ar 2)), (6, .ref (ar 3)), (7, .ref (ar 4)), (8, .ref (ar 5)), (9, vI ((k : Nat) : Int)), (10, vI (5 + (((k : Nat) : Int)))), (11, vI (100 * a9 + b9))]) dL_edits_352 (by decide) rfl ?_
          refine x_bipush C dL_edits_354 12 (by decide) ?_
          refine x_iload C dL_edits_356 9 rfl ?_
          refine x_imul C dL_edits_358 ?_
          refine x_aload C dL_edits_359 8 rfl ?_
          refine x_iconst C dL_edits_361 5 (by decide) ?_
          refine x_iconst C dL_edits_362 2 (by decide) ?_
          refine x_iload C dL_edits_363 9 rfl ?_
          refine x_imul C dL_edits_365 ?_
          refine x_iadd C dL_edits_366 ?_
          refine x_iload C dL_edits_367 10 rfl ?_
          refine x_isub C dL_edits_369 ?_
          refine x_iald C f10 ⟨by omega, by omega⟩ (by decide) dL_edits_370 ?_
          refine x_topv (show (fu n (Int.toNat (5 + (((k : Nat) : Int)))) ((n (5 + k)) - 1)) (Int.toNat ((5 + (2 * (((k : Nat) : Int)))) - (5 + (((k : Nat) : Int))))) = n k from by rw [show Int.toNat (5 + 2 * ((k : Nat) : Int) - (5 + ((k : Nat) : Int))) = k by omega, fu_n (by omega)]) ?_
          refine x_iadd C dL_edits_371 ?_
          refine x_istore C (ls' := [(0, .ref x), (1, vI 2), (2, .int zz), (3, .ref (ar 0)), (4, .ref (ar 1)), (5, .ref (ar 2)), (6, .ref (ar 3)), (7, .ref (ar 4)), (8, .ref (ar 5)), (9, vI ((k : Nat) : Int)), (10, vI (5 + (((k : Nat) : Int)))), (11, vI (100 * a9 + b9)), (12, vI ((12 * (((k : Nat) : Int))) + (n k)))]) dL_edits_372 (by decide) rfl ?_
          refine x_aload C dL_edits_374 6 rfl ?_
          refine x_iload_n C dL_edits_376 1 rfl ?_
          refine x_iconst C dL_edits_377 1 (by decide) ?_
          refine x_icmp_ne (tgt := 389) C dL_edits_378 (by decide) (by omega) (by omega) (fun c13 => ?_) (fun c13 => ?_)
          · skip
            refine x_iload C dL_edits_389 12 rfl ?_
            refine x_iload_n C dL_edits_391 1 rfl ?_
            refine x_iconst C dL_edits_392 1 (by decide) ?_
            refine x_icmp_ne (tgt := 407) C dL_edits_393 (by decide) (by omega) (by omega) (fun c14 => ?_) (fun c14 => ?_)
            · skip
              refine x_iload C dL_edits_407 11 rfl ?_
              have f15 : h8 (ar 3) = some (eI D 60 u) := by rw [e9, hu_n (ari hai (i := 3) (j := 5) (by decide) (by decide) (by decide))]; exact hu
              refine x_iast C f15 ⟨by omega, by omega⟩ (by decide) dL_edits_409 (x_hn (fun h16 e17 => ?_))
              have f18 : h16 (ar 3) = some (eI D 60 (fu u (Int.toNat ((12 * (((k : Nat) : Int))) + (n k))) (100 * a9 + b9))) := by rw [e17]; exact hu_s
              refine x_aload C dL_edits_410 7 rfl ?_
              refine x_iload_n C dL_edits_412 1 rfl ?_
              refine x_iconst C dL_edits_413 1 (by decide) ?_
              refine x_icmp_ne (tgt := 422) C dL_edits_414 (by decide) (by omega) (by omega) (fun c19 => ?_) (fun c19 => ?_)
              · skip
                refine x_bipush C dL_edits_422 12 (by decide) ?_
                refine x_iload C dL_edits_424 9 rfl ?_
                refine x_imul C dL_edits_426 ?_
                refine x_iload_n C dL_edits_427 1 rfl ?_
                refine x_iconst C dL_edits_428 1 (by decide) ?_
                refine x_icmp_ne (tgt := 437) C dL_edits_429 (by decide) (by omega) (by omega) (fun c20 => ?_) (fun c20 => ?_)
                · skip
                  refine x_aload C dL_edits_437 7 rfl ?_
                  refine x_bipush C dL_edits_439 12 (by decide) ?_
                  refine x_iload C dL_edits_441 9 rfl ?_
                  refine x_imul C dL_edits_443 ?_
                  have f21 : h16 (ar 4) = some (eI D 60 v) := by rw [e17, hu_n (ari hai (i := 4) (j := 3) (by decide) (by decide) (by decide))]; exact f12
                  refine x_iald C f21 ⟨by omega, by omega⟩ (by decide) dL_edits_444 ?_
                  refine x_iast C f21 ⟨by omega, by omega⟩ (by decide) dL_edits_445 (x_hn (fun h22 e23 => ?_))
                  have f24 : h22 (ar 4) = some (eI D 60 (fu v (Int.toNat (12 * (((k : Nat) : Int)))) (v (Int.toNat (12 * (((k : Nat) : Int))))))) := by rw [e23]; exact hu_s
                  refine x_aload C dL_edits_446 8 rfl ?_
                  refine x_iconst C dL_edits_448 5 (by decide) ?_
                  refine x_iconst C dL_edits_449 2 (by decide) ?_
                  refine x_iload C dL_edits_450 9 rfl ?_
                  refine x_imul C dL_edits_452 ?_
                  refine x_iadd C dL_edits_453 ?_
                  refine x_iload C dL_edits_454 10 rfl ?_
                  refine x_isub C dL_edits_456 ?_
                  refine x_dup2 C dL_edits_457 rfl rfl ?_
                  have f25 : h16 (ar 5) = some (eI D 10 (fu n (Int.toNat (5 + (((k : Nat) : Int)))) ((n (5 + k)) - 1))) := by rw [e17, hu_n (ari hai (i := 5) (j := 3) (by decide) (by decide) (by decide))]; exact f10
                  have f26 : h22 (ar 5) = some (eI D 10 (fu n (Int.toNat (5 + (((k : Nat) : Int)))) ((n (5 + k)) - 1))) := by rw [e23, hu_n (ari hai (i := 5) (j := 4) (by decide) (by decide) (by decide))]; exact f25
                  refine x_iald C f26 ⟨by omega, by omega⟩ (by decide) dL_edits_458 ?_
                  refine x_topv (show (fu n (Int.toNat (5 + (((k : Nat) : Int)))) ((n (5 + k)) - 1)) (Int.toNat ((5 + (2 * (((k : Nat) : Int)))) - (5 + (((k : Nat) : Int))))) = n k from by rw [show Int.toNat (5 + 2 * ((k : Nat) : Int) - (5 + ((k : Nat) : Int))) = k by omega, fu_n (by omega)]) ?_
                  refine x_iconst C dL_edits_459 1 (by decide) ?_
                  refine x_iadd C dL_edits_460 ?_
                  refine x_iast C f26 ⟨by omega, by omega⟩ (by decide) dL_edits_461 (x_hn (fun h27 e28 => ?_))
                  have f29 : h27 (ar 5) = some (eI D 10 (fu (fu n (Int.toNat (5 + (((k : Nat) : Int)))) ((n (5 + k)) - 1)) (Int.toNat ((5 + (2 * (((k : Nat) : Int)))) - (5 + (((k : Nat) : Int))))) ((n k) + 1))) := by rw [e28]; exact hu_s
                  refine x_aload C dL_edits_462 4 rfl ?_
                  refine x_bipush C dL_edits_464 6 (by decide) ?_
                  refine x_iload C dL_edits_466 9 rfl ?_
                  refine x_imul C dL_edits_468 ?_
                  refine x_iload C dL_edits_469 11 rfl ?_
                  refine x_bipush C dL_edits_471 100 (by decide) ?_
                  refine x_idiv C dL_edits_473 (by omega) (by omega) (by omega) (by omega) ?_
                  refine x_topv (show (100 * a9 + b9) / 100 = a9 from by omega) ?_
                  refine x_iload_n C dL_edits_474 1 rfl ?_
                  refine x_iconst C dL_edits_475 1 (by decide) ?_
                  refine x_icmp_ne (tgt := 490) C dL_edits_476 (by decide) (by omega) (by omega) (fun c30 => ?_) (fun c30 => ?_)
                  · skip
                    refine x_iload C dL_edits_490 11 rfl ?_
                    refine x_bipush C dL_edits_492 10 (by decide) ?_
                    refine x_irem C dL_edits_494 (by omega) (by omega) (by omega) (by omega) ?_
                    refine x_topv (show (100 * a9 + b9) % 10 = b9 % 10 from by omega) ?_
                    have f31 : h8 (ar 1) = some (eJ D 60 g) := by rw [e9, hu_n (ari hai (i := 1) (j := 5) (by decide) (by decide) (by decide))]; exact hg
                    have f32 : h16 (ar 1) = some (eJ D 60 g) := by rw [e17, hu_n (ari hai (i := 1) (j := 3) (by decide) (by decide) (by decide))]; exact f31
                    have f33 : h22 (ar 1) = some (eJ D 60 g) := by rw [e23, hu_n (ari hai (i := 1) (j := 4) (by decide) (by decide) (by decide))]; exact f32
                    have f34 : h27 (ar 1) = some (eJ D 60 g) := by rw [e28, hu_n (ari hai (i := 1) (j := 5) (by decide) (by decide) (by decide))]; exact f33
                    refine x_callSJ C (n := 4) (As := [.ref (ar 1), vI (6 * (((k : Nat) : Int))), vI a9, vI (b9 % 10)]) (rest := []) (c_L_put f34 (by omega) (by omega) (by omega)) gL_edits_L_put (by decide +kernel) rfl rfl rfl (Nat.le_of_ble_eq_true rfl) ⟨by decide, by decide⟩ ⟨(by decide), (by decide)⟩ dL_edits_495 (fun rv35 h36 hp37 => ?_)
                    obtain ⟨rfl, e38⟩ := hp37
                    have f39 : h36 (ar 1) = some (eJ D 60 (gput g (6 * (((k : Nat) : Int))).toNat a9.toNat (b9 % 10).toNat)) := by rw [e38]; exact hu_s
                    refine x_aload C dL_edits_498 5 rfl ?_
                    refine x_iconst C dL_edits_500 4 (by decide) ?_
                    refine x_iload C dL_edits_501 9 rfl ?_
                    refine x_imul C dL_edits_503 ?_
                    refine x_iconst C dL_edits_504 2 (by decide) ?_
                    refine x_iadd C dL_edits_505 ?_
                    refine x_bipush C dL_edits_506 (-2) (by decide) ?_
                    have f40 : h8 (ar 2) = some (eI D 20 l0) := by rw [e9, hu_n (ari hai (i := 2) (j := 5) (by decide) (by decide) (by decide))]; exact hl0
                    have f41 : h16 (ar 2) = some (eI D 20 l0) := by rw [e17, hu_n (ari hai (i := 2) (j := 3) (by decide) (by decide) (by decide))]; exact f40
                    have f42 : h22 (ar 2) = some (eI D 20 l0) := by rw [e23, hu_n (ari hai (i := 2) (j := 4) (by decide) (by decide) (by decide))]; exact f41
                    have f43 : h27 (ar 2) = some (eI D 20 l0) := by rw [e28, hu_n (ari hai (i := 2) (j := 5) (by decide) (by decide) (by decide))]; exact f42
                    have f44 : h36 (ar 2) = some (eI D 20 l0) := by rw [e38, hu_n (ari hai (i := 2) (j := 1) (by decide) (by decide) (by decide))]; exact f43
                    refine x_iast C f44 ⟨by omega, by omega⟩ (by decide) dL_edits_508 (x_hn (fun h45 e46 => ?_))
                    have f47 : h45 (ar 2) = some (eI D 20 (fu l0 (Int.toNat ((4 * (((k : Nat) : Int))) + 2)) ((-2)))) := by rw [e46]; exact hu_s
                    have f48 : h45 (ar 1) = some (eJ D 60 (gput g (6 * (((k : Nat) : Int))).toNat a9.toNat (b9 % 10).toNat)) := by rw [e46, hu_n (ari hai (i := 1) (j := 2) (by decide) (by decide) (by decide))]; exact f39
                    have f49 : h45 (ar 1) = some (eJ D 60 (gput g (6 * k) a9.toNat (b9 % 10).toNat)) := by have q9 := f48; rw [e6k] at q9; exact q9
                    have f50 : h45 (ar 2) = some (eI D 20 (fu l0 (4 * k + 2) (-2))) := by have q9 := f47; rw [e42] at q9; exact q9
                    have f51 : h27 (ar 4) = some (eI D 60 (fu v (Int.toNat (12 * (((k : Nat) : Int)))) (v (Int.toNat (12 * (((k : Nat) : Int))))))) := by rw [e28, hu_n (ari hai (i := 4) (j := 5) (by decide) (by decide) (by decide))]; exact f24
                    have f52 : h36 (ar 4) = some (eI D 60 (fu v (Int.toNat (12 * (((k : Nat) : Int)))) (v (Int.toNat (12 * (((k : Nat) : Int))))))) := by rw [e38, hu_n (ari hai (i := 4) (j := 1) (by decide) (by decide) (by decide))]; exact f51
                    have f53 : h45 (ar 4) = some (eI D 60 (fu v (Int.toNat (12 * (((k : Nat) : Int)))) (v (Int.toNat (12 * (((k : Nat) : Int))))))) := by rw [e46, hu_n (ari hai (i := 4) (j := 2) (by decide) (by decide) (by decide))]; exact f52
                    have f54 : h45 (ar 4) = some (eI D 60 v) := by have q9 := f53; rw [show fu v (Int.toNat (12 * ((k : Nat) : Int))) (v (Int.toNat (12 * ((k : Nat) : Int)))) = v from fu_self] at q9; exact q9
                    have f55 : h22 (ar 3) = some (eI D 60 (fu u (Int.toNat ((12 * (((k : Nat) : Int))) + (n k))) (100 * a9 + b9))) := by rw [e23, hu_n (ari hai (i := 3) (j := 4) (by decide) (by decide) (by decide))]; exact f18
                    have f56 : h27 (ar 3) = some (eI D 60 (fu u (Int.toNat ((12 * (((k : Nat) : Int))) + (n k))) (100 * a9 + b9))) := by rw [e28, hu_n (ari hai (i := 3) (j := 5) (by decide) (by decide) (by decide))]; exact f55
                    have f57 : h36 (ar 3) = some (eI D 60 (fu u (Int.toNat ((12 * (((k : Nat) : Int))) + (n k))) (100 * a9 + b9))) := by rw [e38, hu_n (ari hai (i := 3) (j := 1) (by decide) (by decide) (by decide))]; exact f56
                    have f58 : h45 (ar 3) = some (eI D 60 (fu u (Int.toNat ((12 * (((k : Nat) : Int))) + (n k))) (100 * a9 + b9))) := by rw [e46, hu_n (ari hai (i := 3) (j := 2) (by decide) (by decide) (by decide))]; exact f57
                    have f59 : h45 (ar 3) = some (eI D 60 (fu u (12 * k + d) (100 * a9 + b9))) := by have q9 := f58; rw [show Int.toNat (12 * ((k : Nat) : Int) + n k) = 12 * k + d by omega] at q9; exact q9
                    have f60 : h36 (ar 5) = some (eI D 10 (fu (fu n (Int.toNat (5 + (((k : Nat) : Int)))) ((n (5 + k)) - 1)) (Int.toNat ((5 + (2 * (((k : Nat) : Int)))) - (5 + (((k : Nat) : Int))))) ((n k) + 1))) := by rw [e38, hu_n (ari hai (i := 5) (j := 1) (by decide) (by decide) (by decide))]; exact f29
                    have f61 : h45 (ar 5) = some (eI D 10 (fu (fu n (Int.toNat (5 + (((k : Nat) : Int)))) ((n (5 + k)) - 1)) (Int.toNat ((5 + (2 * (((k : Nat) : Int)))) - (5 + (((k : Nat) : Int))))) ((n k) + 1))) := by rw [e46, hu_n (ari hai (i := 5) (j := 2) (by decide) (by decide) (by decide))]; exact f60
                    have f62 : h45 (ar 5) = some (eI D 10 (fu (fu n (5 + k) ((s9 : Nat) : Int)) k ((d + 1 : Nat) : Int))) := by have q9 := f61; rw [show Int.toNat (5 + 2 * ((k : Nat) : Int) - (5 + ((k : Nat) : Int))) = k by omega] at q9; rw [e5k] at q9; rw [show n k + 1 = ((d + 1 : Nat) : Int) by omega] at q9; rw [show n (5 + k) - 1 = ((s9 : Nat) : Int) by omega] at q9; exact q9
                    refine x_aload_n C dL_edits_509 0 rfl ?_
                    refine x_iload_n C dL_edits_510 1 rfl ?_
                    refine x_iload C dL_edits_511 9 rfl ?_
                    refine x_iconst C dL_edits_513 0 (by decide) ?_
                    refine x_iconst C dL_edits_514 0 (by decide) ?_
                    have hSy9 : Sy D x ar m L W t h45 := by rw [e46, e38, e28, e23, e17, e9]; repeat (first | exact hSy | refine Sy.off ?_ (by decide))
                    have hSC9 : SC D ar h45 := by rw [e46, e38, e28, e23, e17, e9]; repeat (first | exact hSC | refine SC.off hai ?_ (by decide))
                    have f63 : h8 (ar 0) = some (eI D 5 q) := by rw [e9, hu_n (ari hai (i := 0) (j := 5) (by decide) (by decide) (by decide))]; exact hq
                    have f64 : h16 (ar 0) = some (eI D 5 q) := by rw [e17, hu_n (ari hai (i := 0) (j := 3) (by decide) (by decide) (by decide))]; exact f63
                    have f65 : h22 (ar 0) = some (eI D 5 q) := by rw [e23, hu_n (ari hai (i := 0) (j := 4) (by decide) (by decide) (by decide))]; exact f64
                    have f66 : h27 (ar 0) = some (eI D 5 q) := by rw [e28, hu_n (ari hai (i := 0) (j := 5) (by decide) (by decide) (by decide))]; exact f65
                    have f67 : h36 (ar 0) = some (eI D 5 q) := by rw [e38, hu_n (ari hai (i := 0) (j := 1) (by decide) (by decide) (by decide))]; exact f66
                    have f68 : h45 (ar 0) = some (eI D 5 q) := by rw [e46, hu_n (ari hai (i := 0) (j := 2) (by decide) (by decide) (by decide))]; exact f67
                    have f69 : h8 (ar 6) = some (eI D 25 w) := by rw [e9, hu_n (ari hai (i := 6) (j := 5) (by decide) (by decide) (by decide))]; exact hw
                    have f70 : h16 (ar 6) = some (eI D 25 w) := by rw [e17, hu_n (ari hai (i := 6) (j := 3) (by decide) (by decide) (by decide))]; exact f69
                    have f71 : h22 (ar 6) = some (eI D 25 w) := by rw [e23, hu_n (ari hai (i := 6) (j := 4) (by decide) (by decide) (by decide))]; exact f70
                    have f72 : h27 (ar 6) = some (eI D 25 w) := by rw [e28, hu_n (ari hai (i := 6) (j := 5) (by decide) (by decide) (by decide))]; exact f71
                    have f73 : h36 (ar 6) = some (eI D 25 w) := by rw [e38, hu_n (ari hai (i := 6) (j := 1) (by decide) (by decide) (by decide))]; exact f72
                    have f74 : h45 (ar 6) = some (eI D 25 w) := by rw [e46, hu_n (ari hai (i := 6) (j := 2) (by decide) (by decide) (by decide))]; exact f73
                    have f75 : h8 (ar 7) = some (eI D 15 p) := by rw [e9, hu_n (ari hai (i := 7) (j := 5) (by decide) (by decide) (by decide))]; exact hp
                    have f76 : h16 (ar 7) = some (eI D 15 p) := by rw [e17, hu_n (ari hai (i := 7) (j := 3) (by decide) (by decide) (by decide))]; exact f75
                    have f77 : h22 (ar 7) = some (eI D 15 p) := by rw [e23, hu_n (ari hai (i := 7) (j := 4) (by decide) (by decide) (by decide))]; exact f76
                    have f78 : h27 (ar 7) = some (eI D 15 p) := by rw [e28, hu_n (ari hai (i := 7) (j := 5) (by decide) (by decide) (by decide))]; exact f77
                    have f79 : h36 (ar 7) = some (eI D 15 p) := by rw [e38, hu_n (ari hai (i := 7) (j := 1) (by decide) (by decide) (by decide))]; exact f78
                    have f80 : h45 (ar 7) = some (eI D 15 p) := by rw [e46, hu_n (ari hai (i := 7) (j := 2) (by decide) (by decide) (by decide))]; exact f79
                    have f81 : h8 (ar 8) = some (eI D 18 r) := by rw [e9, hu_n (ari hai (i := 8) (j := 5) (by decide) (by decide) (by decide))]; exact hr
                    have f82 : h16 (ar 8) = some (eI D 18 r) := by rw [e17, hu_n (ari hai (i := 8) (j := 3) (by decide) (by decide) (by decide))]; exact f81
                    have f83 : h22 (ar 8) = some (eI D 18 r) := by rw [e23, hu_n (ari hai (i := 8) (j := 4) (by decide) (by decide) (by decide))]; exact f82
                    have f84 : h27 (ar 8) = some (eI D 18 r) := by rw [e28, hu_n (ari hai (i := 8) (j := 5) (by decide) (by decide) (by decide))]; exact f83
                    have f85 : h36 (ar 8) = some (eI D 18 r) := by rw [e38, hu_n (ari hai (i := 8) (j := 1) (by decide) (by decide) (by decide))]; exact f84
                    have f86 : h45 (ar 8) = some (eI D 18 r) := by rw [e46, hu_n (ari hai (i := 8) (j := 2) (by decide) (by decide) (by decide))]; exact f85
                    have hAR9 : AR D ar q (gput g (6 * k) a9.toNat (b9 % 10).toNat) (fu l0 (4 * k + 2) (-2)) (fu u (12 * k + d) (100 * a9 + b9)) v (fu (fu n (5 + k) ((s9 : Nat) : Int)) k ((d + 1 : Nat) : Int)) w p r h45 := ⟨f68, f49, f50, f59, f54, f62, f74, f80, f86⟩
                    obtain ⟨P9, hM9, hP9⟩ := k_redo (l := kl κ) (A := A) hSy9 (u := k) hkL (b1 := 0) (b2 := 0)
                    refine x_callSh C (n := 5) (As := [.ref x, vI 2, vI ((k : Nat) : Int), vI 0, vI 0]) (rest := []) hM9 kn gL_edits_L_calls (by decide +kernel) rfl rfl rfl (Nat.le_of_ble_eq_true rfl) ⟨by decide, by decide⟩ ⟨(by decide), (by decide)⟩ dL_edits_515 (fun rv9 h9 hp9 => ?_)
                    have hk9 := hP9 rv9 h9 hp9
                    rw [show (m 11 0 k).toNat - 1 = s9 by omega, ← ha9, ← hb9] at hk9
                    obtain ⟨hc9, rfl, hS9, hkp9⟩ := hk9.resolve_right (fun z9 => (by have y9 := z9.1; omega))
                    refine x_iload C dL_edits_518 11 rfl ?_
                    refine x_bipush C dL_edits_520 100 (by decide) ?_
                    refine x_idiv C dL_edits_522 (by omega) (by omega) (by omega) (by omega) ?_
                    refine x_topv (show (100 * a9 + b9) / 100 = a9 from by omega) ?_
                    refine x_icmp_ne (tgt := 530) C dL_edits_523 (by decide) (by omega) (by omega) (fun c87 => ?_) (fun c87 => ?_)
                    · exfalso; omega
                    · skip
                      refine x_iconst C dL_edits_526 1 (by decide) ?_
                      refine x_goto (tgt := 531) C dL_edits_527 (by decide) ?_
                      refine x_zret C G dL_edits_531 (by first | exact Or.inl rfl | exact Or.inr rfl) ?_ (by decide) (by decide)
                      exact ⟨rfl, _, _, _, _, _, _, _, _, _, _, _, _, hS9, hEX, hPK9, hAR9.kp hkp9, hSC9.kp hkp9⟩
                  · exfalso; omega
                · exfalso; omega
              · exfalso; omega
            · exfalso; omega
          · exfalso; omega
        · exfalso; omega
      · skip
        refine x_aload_n C dL_edits_287 0 rfl ?_
        refine x_iload_n C dL_edits_288 1 rfl ?_
        refine x_iload C dL_edits_289 9 rfl ?_
        refine x_iconst C dL_edits_291 0 (by decide) ?_
        refine x_iconst C dL_edits_292 0 (by decide) ?_
        have hSy9 : Sy D x ar m L W t h := by repeat (first | exact hSy | refine Sy.off ?_ (by decide))
        have hSC9 : SC D ar h := by repeat (first | exact hSC | refine SC.off hai ?_ (by decide))
        have hAR9 : AR D ar q g l0 u v n w p r h := ⟨hq, hg, hl0, hu, hv, hn, hw, hp, hr⟩
        obtain ⟨P9, hM9, hP9⟩ := k_redo (l := kl κ) (A := A) hSy9 (u := k) hkL (b1 := 0) (b2 := 0)
        refine x_callSh C (n := 5) (As := [.ref x, vI 2, vI ((k : Nat) : Int), vI 0, vI 0]) (rest := []) hM9 kn gL_edits_L_calls (by decide +kernel) rfl rfl rfl (Nat.le_of_ble_eq_true rfl) ⟨by decide, by decide⟩ ⟨(by decide), (by decide)⟩ dL_edits_293 (fun rv9 h9 hp9 => ?_)
        have hk9 := hP9 rv9 h9 hp9
        obtain ⟨hc9, rfl, he9⟩ := hk9.resolve_left (fun z9 => (by have y9 := z9.1; omega))
        obtain rfl := he9.symm
        refine x_bipush C dL_edits_296 (-5) (by decide) ?_
        refine x_icmp_ne (tgt := 305) C dL_edits_298 (by decide) (by omega) (by omega) (fun c88 => ?_) (fun c88 => ?_)
        · exfalso; omega
        · skip
          refine x_iconst C dL_edits_301 1 (by decide) ?_
          refine x_goto (tgt := 306) C dL_edits_302 (by decide) ?_
          refine x_zret C G dL_edits_306 (by first | exact Or.inl rfl | exact Or.inr rfl) ?_ (by decide) (by decide)
          refine ⟨rfl, m, L, W, q, g, l0, u, v, n, w, p, r, hSy.le (by omega), hEX, hPK, ⟨hq, hg, hl0, hu, hv, hn, hw, hp, hr⟩, hSC⟩
    · exfalso; omega
  · exfalso; omega


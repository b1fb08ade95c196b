/-! ===== runs ===== -/
theorem kpR_r {x : B4} (h : bOK x) : -2 ≤ kpR x ∧ kpR x ≤ 95 := by
  obtain ⟨h1, h2, _⟩ := h
  unfold kpR
  split
  · omega
  · split
    · omega
    · omega

set_option maxRecDepth 100000 in
set_option maxHeartbeats 4000000 in
theorem c_L_runs0 {l : Launch} {D : va_G} {A : Nat → Prop} {h : vh} {x t L W : Nat} {ar : Nat → Nat} {m : CS} {g : Nat → Int64} {q l0 u v n w p r : Nat → Int} {zz : Int32} (hq : h (ar 0) = some (eI D 5 q)) (hg : h (ar 1) = some (eJ D 60 g)) (hl0 : h (ar 2) = some (eI D 20 l0)) (hu : h (ar 3) = some (eI D 60 u)) (hv : h (ar 4) = some (eI D 60 v)) (hn : h (ar 5) = some (eI D 10 n)) (hw : h (ar 6) = some (eI D 25 w)) (hp : h (ar 7) = some (eI D 15 p)) (hr : h (ar 8) = some (eI D 18 r)) (hai : ∀ i j, i < 16 → j < 16 → ar i = ar j → i = j) (hSy : Sy D x ar m L W t h) (hEX : EX m) (hPK : PK m L W q g l0 u v n w p r) (hSC : SC D ar h) (hW : 0 < W) : HX l D A yL_runs wsL_runs { frames := 9, cells := 3, slots := 18, locals := 161 } [.ref x, vI 0, .int zz, .ref (ar 0), .ref (ar 1), .ref (ar 6), .ref (ar 8)] h (fun rv h' => rv = some (vI 1) ∧ WD D x ar (t + 1) h') := by
  refine HX.ofc (cc := cL_runs) (maxL := 15) (ret := (some .boolean)) [(0, .ref x), (1, vI 0), (2, .int zz), (3, .ref (ar 0)), (4, .ref (ar 1)), (5, .ref (ar 6)), (6, .ref (ar 8))] (by decide +kernel) rfl rfl (Nat.le_of_ble_eq_true rfl) ?_
  intro κ C hkl G kn
  subst hkl
  have C : CX κ "LedgeLevelsLaw" "runs" cL_runs wsL_runs { frames := 9, cells := 3, slots := 18, locals := 161 } D A 15 := C
  have hiz : nq (D.1 20) (D.1 21) := cx_iz C
  obtain ⟨⟨hL5, hW5, hq0, hq1⟩, hqs, hPL, hPN, hPW, hPU, hPP⟩ := id hPK
  have hEB := hSy.eb hPK
  obtain ⟨hz8, hz21, hm2, hm14⟩ := hSy.zero
  obtain ⟨pn, hpn⟩ : ∃ pn : Nat, pn = lowF zz 3 := ⟨_, rfl⟩
  have hpn3 : pn < 3 := by
    have := lowF_lt (v := zz) (n := 3) (by omega)
    omega
  have E_1 : Int.toNat (6 * ((pn : Nat) : Int) + 1) = 6 * pn + 1 := by omega
  have E_2 : Int.toNat (6 * ((pn : Nat) : Int) + 2) = 6 * pn + 2 := by omega
  have E_3 : Int.toNat (6 * ((pn : Nat) : Int) + 3) = 6 * pn + 3 := by omega
  have E_4 : Int.toNat (6 * ((pn : Nat) : Int) + 4) = 6 * pn + 4 := by omega
  have E_5 : Int.toNat (6 * ((pn : Nat) : Int) + 5) = 6 * pn + 5 := by omega
  have E_0 : Int.toNat (6 * ((pn : Nat) : Int)) = 6 * pn := by omega
  obtain ⟨k, hk⟩ : ∃ k : Nat, k = lowF (zz >>> ((iI 3) &&& 31)) ((W : Nat) : Int) := ⟨_, rfl⟩
  have hkW : k < W := by
    have := lowF_lt (v := zz >>> ((iI 3) &&& 31)) (n := ((W : Nat) : Int)) (by omega)
    omega
  obtain ⟨hA7, hf8, hst, hbe, hau, hpa, hrec⟩ := hSy.wrk hPK hkW
  obtain ⟨k1, k2, k3, k4, k5, k6, k7, k8⟩ := hPW k hkW
  have E_30 : (30 + 6 * ((k : Nat) : Int)).toNat = 30 + 6 * k := by omega
  have hbe18 : -1 ≤ m 18 0 k ∧ m 18 0 k ≤ 7000 := by rw [← k3]; exact hbe
  have hst17 : 0 ≤ m 17 0 k ∧ m 17 0 k < 96 := by rw [← k2]; omega
  have hrec20 : -1 ≤ m 20 0 k := by rw [← k5]; exact hrec.1
  obtain ⟨x9, hx9⟩ : ∃ x9 : B4, x9 = X0r (gk g (30 + 6 * k)) (kbr (gk g (30 + 6 * k)) (fun _ => 0)) (m 17 0 k) := ⟨_, rfl⟩
  have hbok : bOK x9 := by rw [hx9]; exact X0r_ok (kbr_8 hA7) (by omega)
  have hkr9 := kpR_r hbok
  have hb3 : b123 x9 := by rw [hx9]; exact X0r_b
  have hxg : x9.2.2.1 ||| kbr (gk g (30 + 6 * k)) (fun _ => 0) x9.1 = x9.2.2.1 := by rw [hx9]; exact X0_g hst17
  refine x_iload_n C dL_runs_0 2 rfl ?_
  refine x_iconst C dL_runs_1 3 (by decide) ?_
  refine x_callSJ C (n := 2) (As := [.int zz, vI 3]) (rest := []) (c_L_low (by omega)) gL_runs_L_low (by decide +kernel) rfl rfl rfl (Nat.le_of_ble_eq_true rfl) ⟨by decide, by decide⟩ ⟨(by decide), (by decide)⟩ dL_runs_2 (fun rv1 h2 hp3 => ?_)
  obtain ⟨rfl, e4, hr_2⟩ := hp3
  obtain rfl := e4.symm
  refine x_topv (show ((lowF zz 3 : Nat) : Int) = ((pn : Nat) : Int) from by rw [hpn]) ?_
  refine x_istore C (ls' := [(0, .ref x), (1, vI 0), (2, .int zz), (3, .ref (ar 0)), (4, .ref (ar 1)), (5, .ref (ar 6)), (6, .ref (ar 8)), (7, vI ((pn : Nat) : Int))]) dL_runs_5 (by decide) rfl ?_
  refine x_bipush C dL_runs_7 6 (by decide) ?_
  refine x_iload C dL_runs_9 7 rfl ?_
  refine x_imul C dL_runs_11 ?_
  refine x_istore C (ls' := [(0, .ref x), (1, vI 0), (2, .int zz), (3, .ref (ar 0)), (4, .ref (ar 1)), (5, .ref (ar 6)), (6, .ref (ar 8)), (7, vI ((pn : Nat) : Int)), (8, vI (6 * (((pn : Nat) : Int))))]) dL_runs_12 (by decide) rfl ?_
  refine x_iload_n C dL_runs_14 1 rfl ?_
  refine x_if_ne (tgt := 117) C dL_runs_15 (by decide) (by omega) (fun c5 => ?_) (fun c5 => ?_)
  · exfalso; omega
  · skip
    refine x_iload_n C dL_runs_18 2 rfl ?_
    refine x_iconst C dL_runs_19 3 (by decide) ?_
    refine x_ishr C dL_runs_20 _ rfl ?_
    refine x_aload_n C dL_runs_21 3 rfl ?_
    refine x_iconst C dL_runs_22 1 (by decide) ?_
    refine x_iald C hq ⟨by omega, by omega⟩ (by decide) dL_runs_23 ?_
    refine x_topv (show q (Int.toNat 1) = ((W : Nat) : Int) from by exact hq1) ?_
    refine x_callSJ C (n := 2) (As := [.int (zz >>> ((iI 3) &&& 31)), vI ((W : Nat) : Int)]) (rest := []) (c_L_low (by omega)) gL_runs_L_low (by decide +kernel) rfl rfl rfl (Nat.le_of_ble_eq_true rfl) ⟨by decide, by decide⟩ ⟨(by decide), (by decide)⟩ dL_runs_24 (fun rv6 h7 hp8 => ?_)
    obtain ⟨rfl, e9, hr_24⟩ := hp8
    obtain rfl := e9.symm
    refine x_topv (show ((lowF (zz >>> ((iI 3) &&& 31)) (((W : Nat) : Int)) : Nat) : Int) = ((k : Nat) : Int) from by rw [hk]) ?_
    refine x_istore C (ls' := [(0, .ref x), (1, vI 0), (2, .int zz), (3, .ref (ar 0)), (4, .ref (ar 1)), (5, .ref (ar 6)), (6, .ref (ar 8)), (7, vI ((pn : Nat) : Int)), (8, vI (6 * (((pn : Nat) : Int)))), (9, vI ((k : Nat) : Int))]) dL_runs_27 (by decide) rfl ?_
    refine x_bipush C dL_runs_29 (-5) (by decide) ?_
    refine x_istore C (ls' := [(0, .ref x), (1, vI 0), (2, .int zz), (3, .ref (ar 0)), (4, .ref (ar 1)), (5, .ref (ar 6)), (6, .ref (ar 8)), (7, vI ((pn : Nat) : Int)), (8, vI (6 * (((pn : Nat) : Int)))), (9, vI ((k : Nat) : Int)), (10, vI (-5))]) dL_runs_31 (by decide) rfl ?_
    refine x_aload C dL_runs_33 5 rfl ?_
    refine x_iconst C dL_runs_35 5 (by decide) ?_
    refine x_iload C dL_runs_36 9 rfl ?_
    refine x_imul C dL_runs_38 ?_
    refine x_iconst C dL_runs_39 2 (by decide) ?_
    refine x_iadd C dL_runs_40 ?_
    refine x_iald C hw ⟨by omega, by omega⟩ (by decide) dL_runs_41 ?_
    refine x_topv (show w (Int.toNat ((5 * (((k : Nat) : Int))) + 2)) = m 18 0 k from by rw [show Int.toNat (5 * ((k : Nat) : Int) + 2) = 5 * k + 2 by omega]; exact k3) ?_
    refine x_if_lt (tgt := 95) C dL_runs_42 (by decide) (by omega) (fun c10 => ?_) (fun c10 => ?_)
    · skip
      refine x_aload_n C dL_runs_95 0 rfl ?_
      refine x_bipush C dL_runs_96 6 (by decide) ?_
      refine x_iload C dL_runs_98 7 rfl ?_
      refine x_iload C dL_runs_100 9 rfl ?_
      refine x_iconst C dL_runs_102 0 (by decide) ?_
      have hSy9 : Sy D x ar m L W t h := by repeat (first | exact hSy | exact hSyL | refine Sy.off ?_ (by decide))
      have hSC9 : SC D ar h := by repeat (first | exact hSC | exact hSCL | refine SC.off hai ?_ (by decide))
      have hAR9 : AR D ar q g l0 u v n w p r h := ⟨hq, hg, hl0, hu, hv, hn, hw, hp, hr⟩
      obtain ⟨P9, hM9, hP9⟩ := k_run (l := kl κ) (A := A) hSy9 (u := k) (p := pn) hkW (by omega) (b2 := 0)
      refine x_callSh C (n := 5) (As := [.ref x, vI 6, vI ((pn : Nat) : Int), vI ((k : Nat) : Int), vI 0]) (rest := []) hM9 kn gL_runs_L_calls (by decide +kernel) rfl rfl rfl (Nat.le_of_ble_eq_true rfl) ⟨by decide, by decide⟩ ⟨(by decide), (by decide)⟩ dL_runs_103 (fun rv9 h9 hp9 => ?_)
      have hk9 := hP9 rv9 h9 hp9
      rw [hEX.1, hEX.2.1, hPK.gw hkW, lyG_0g, ← hx9, rnM_e] at hk9
      obtain ⟨hc9, rfl, he9⟩ := hk9.resolve_left (fun z9 => (by have y9 := z9.1; omega))
      obtain rfl := he9.symm
      refine x_iload C dL_runs_106 10 rfl ?_
      refine x_icmp_ne (tgt := 115) C dL_runs_108 (by decide) (by omega) (by omega) (fun c11 => ?_) (fun c11 => ?_)
      · exfalso; omega
      · skip
        refine x_iconst C dL_runs_111 1 (by decide) ?_
        refine x_goto (tgt := 116) C dL_runs_112 (by decide) ?_
        refine x_zret C G dL_runs_116 (by first | exact Or.inl rfl | exact Or.inr rfl) ?_ (by decide) (by decide)
        first
          | (exfalso; omega)
          | (have hP8 := PK.kp (PK.rr (r' := fu (fu r (6 * pn + 1) ((k : Nat) : Int)) (6 * pn + 5) 0) (k := ((k : Nat) : Int)) (s := 0) hPK hpn3 ⟨by rw [fu_n (by omega), fu_s], fu_s⟩ (fun j9 y1 y2 => by rw [fu_n y2, fu_n y1]) hEB) (fun i9 hi9 => hEB i9 hi9) hpn3 hkW hrec20 (x := x9)
             rw [show (fu (fu r (6 * pn + 1) ((k : Nat) : Int)) (6 * pn + 5) 0) (6 * pn + 5) = 0 from fu_s] at hP8
             exact ⟨rfl, _, _, _, _, _, _, _, _, _, _, _, _, hS9, hEX.kp (by omega) (by rw [hPK.gw hkW]; exact hxg), hP8, hAR9.kp hkp9, hSC9.kp hkp9⟩)
          | exact ⟨rfl, m, L, W, q, g, l0, u, v, n, w, p, r, hSy.le (by omega), hEX, hPK, ⟨hq, hg, hl0, hu, hv, hn, hw, hp, hr⟩, hSC⟩
    · skip
      refine x_aload C dL_runs_45 6 rfl ?_
      refine x_iload C dL_runs_47 8 rfl ?_
      refine x_iconst C dL_runs_49 1 (by decide) ?_
      refine x_iadd C dL_runs_50 ?_
      refine x_iload C dL_runs_51 9 rfl ?_
      refine x_iast C hr ⟨by omega, by omega⟩ (by decide) dL_runs_53 (x_hn (fun h12 e13 => ?_))
      have f14 : h12 (ar 8) = some (eI D 18 (fu r (Int.toNat ((6 * (((pn : Nat) : Int))) + 1)) (((k : Nat) : Int)))) := by rw [e13]; exact hu_s
      refine x_aload C dL_runs_54 6 rfl ?_
      refine x_iload C dL_runs_56 8 rfl ?_
      refine x_iconst C dL_runs_58 5 (by decide) ?_
      refine x_iadd C dL_runs_59 ?_
      refine x_iconst C dL_runs_60 0 (by decide) ?_
      refine x_iast C f14 ⟨by omega, by omega⟩ (by decide) dL_runs_61 (x_hn (fun h15 e16 => ?_))
      have f17 : h15 (ar 8) = some (eI D 18 (fu (fu r (Int.toNat ((6 * (((pn : Nat) : Int))) + 1)) (((k : Nat) : Int))) (Int.toNat ((6 * (((pn : Nat) : Int))) + 5)) 0)) := by rw [e16]; exact hu_s
      have f18 : h15 (ar 8) = some (eI D 18 (fu (fu r (6 * pn + 1) ((k : Nat) : Int)) (6 * pn + 5) 0)) := by have q9 := f17; rw [E_1] at q9; rw [E_5] at q9; exact q9
      refine x_iload C dL_runs_62 7 rfl ?_
      refine x_aload C dL_runs_64 5 rfl ?_
      refine x_iconst C dL_runs_66 5 (by decide) ?_
      refine x_iload C dL_runs_67 9 rfl ?_
      refine x_imul C dL_runs_69 ?_
      refine x_iconst C dL_runs_70 1 (by decide) ?_
      refine x_iadd C dL_runs_71 ?_
      have f19 : h12 (ar 6) = some (eI D 25 w) := by rw [e13, hu_n (ari hai (i := 6) (j := 8) (by decide) (by decide) (by decide))]; exact hw
      have f20 : h15 (ar 6) = some (eI D 25 w) := by rw [e16, hu_n (ari hai (i := 6) (j := 8) (by decide) (by decide) (by decide))]; exact f19
      refine x_iald C f20 ⟨by omega, by omega⟩ (by decide) dL_runs_72 ?_
      refine x_topv (show w (Int.toNat ((5 * (((k : Nat) : Int))) + 1)) = m 17 0 k from by rw [show Int.toNat (5 * ((k : Nat) : Int) + 1) = 5 * k + 1 by omega]; exact k2) ?_
      refine x_bipush C dL_runs_73 30 (by decide) ?_
      refine x_bipush C dL_runs_75 6 (by decide) ?_
      refine x_iload C dL_runs_77 9 rfl ?_
      refine x_imul C dL_runs_79 ?_
      refine x_iadd C dL_runs_80 ?_
      refine x_aload C dL_runs_81 4 rfl ?_
      have f21 : h12 (ar 1) = some (eJ D 60 g) := by rw [e13, hu_n (ari hai (i := 1) (j := 8) (by decide) (by decide) (by decide))]; exact hg
      have f22 : h15 (ar 1) = some (eJ D 60 g) := by rw [e16, hu_n (ari hai (i := 1) (j := 8) (by decide) (by decide) (by decide))]; exact f21
      refine x_callSJ C (n := 3) (As := [vI (m 17 0 k), vI (30 + (6 * (((k : Nat) : Int)))), .ref (ar 1)]) (rest := [vI ((pn : Nat) : Int)]) (c_L_start f22 (by omega) (by omega) (by rw [E_30]; exact hA7)) gL_runs_L_start (by decide +kernel) rfl rfl rfl (Nat.le_of_ble_eq_true rfl) ⟨by decide, by decide⟩ ⟨(by decide), (by decide)⟩ dL_runs_83 (fun rv23 h24 hp25 => ?_)
      obtain ⟨rfl, e26⟩ := hp25
      obtain rfl := e26.symm
      refine x_topv (show (m 17 0 k) + 512 + 1024 * ((kbr (gk g (30 + (6 * (((k : Nat) : Int)))).toNat) (fun _ => 0) (m 17 0 k) : Nat) : Int) + (if gk g (30 + (6 * (((k : Nat) : Int)))).toNat (m 17 0 k).toNat = 4 then 32768 else if gk g (30 + (6 * (((k : Nat) : Int)))).toNat (m 17 0 k).toNat = 5 then 16384 else 0) = encB x9 from by rw [hx9, X0_enc hst17, E_30]) ?_
      refine x_aload C dL_runs_86 5 rfl ?_
      refine x_aload C dL_runs_88 6 rfl ?_
      refine x_callSJ C (n := 4) (As := [vI ((pn : Nat) : Int), vI (encB x9), .ref (ar 6), .ref (ar 8)]) (rest := []) (c_L_lays (k := k) (n := 0) (x := x9) f20 f18 (rfl) (hbok) (hb3) (by omega) (⟨by rw [fu_n (by omega), fu_s], by omega⟩) (⟨fu_s, by omega, by omega⟩) (by omega)) gL_runs_L_lays (by decide +kernel) rfl rfl rfl (Nat.le_of_ble_eq_true rfl) ⟨by decide, by decide⟩ ⟨(by decide), (by decide)⟩ dL_runs_90 (fun rv27 h28 hp29 => ?_)
      obtain ⟨rfl, e30⟩ := hp29
      have f31 : h28 (ar 6) = some (eI D 25 (wL w k x9.2.2.2 0)) := by rw [e30]; exact hu_s
      have f32 : h28 (ar 8) = some (eI D 18 (rL (fu (fu r (6 * pn + 1) ((k : Nat) : Int)) (6 * pn + 5) 0) pn x9)) := by rw [e30, hu_n (ari hai (i := 8) (j := 6) (by decide) (by decide) (by decide))]; exact hu_s
      refine x_istore C (ls' := [(0, .ref x), (1, vI 0), (2, .int zz), (3, .ref (ar 0)), (4, .ref (ar 1)), (5, .ref (ar 6)), (6, .ref (ar 8)), (7, vI ((pn : Nat) : Int)), (8, vI (6 * (((pn : Nat) : Int)))), (9, vI ((k : Nat) : Int)), (10, vI (kpR x9))]) dL_runs_93 (by decide) rfl ?_
      refine x_aload_n C dL_runs_95 0 rfl ?_
      refine x_bipush C dL_runs_96 6 (by decide) ?_
      refine x_iload C dL_runs_98 7 rfl ?_
      refine x_iload C dL_runs_100 9 rfl ?_
      refine x_iconst C dL_runs_102 0 (by decide) ?_
      have hSy9 : Sy D x ar m L W t h28 := by rw [e30, e16, e13]; repeat (first | exact hSy | exact hSyL | refine Sy.off ?_ (by decide))
      have hSC9 : SC D ar h28 := by rw [e30, e16, e13]; repeat (first | exact hSC | exact hSCL | refine SC.off hai ?_ (by decide))
      have f33 : h12 (ar 0) = some (eI D 5 q) := by rw [e13, hu_n (ari hai (i := 0) (j := 8) (by decide) (by decide) (by decide))]; exact hq
      have f34 : h15 (ar 0) = some (eI D 5 q) := by rw [e16, hu_n (ari hai (i := 0) (j := 8) (by decide) (by decide) (by decide))]; exact f33
      have f35 : h28 (ar 0) = some (eI D 5 q) := by rw [e30, hu_n (ari hai (i := 0) (j := 6) (by decide) (by decide) (by decide)), hu_n (ari hai (i := 0) (j := 8) (by decide) (by decide) (by decide))]; exact f34
      have f36 : h28 (ar 1) = some (eJ D 60 g) := by rw [e30, hu_n (ari hai (i := 1) (j := 6) (by decide) (by decide) (by decide)), hu_n (ari hai (i := 1) (j := 8) (by decide) (by decide) (by decide))]; exact f22
      have f37 : h12 (ar 2) = some (eI D 20 l0) := by rw [e13, hu_n (ari hai (i := 2) (j := 8) (by decide) (by decide) (by decide))]; exact hl0
      have f38 : h15 (ar 2) = some (eI D 20 l0) := by rw [e16, hu_n (ari hai (i := 2) (j := 8) (by decide) (by decide) (by decide))]; exact f37
      have f39 : h28 (ar 2) = some (eI D 20 l0) := by rw [e30, hu_n (ari hai (i := 2) (j := 6) (by decide) (by decide) (by decide)), hu_n (ari hai (i := 2) (j := 8) (by decide) (by decide) (by decide))]; exact f38
      have f40 : h12 (ar 3) = some (eI D 60 u) := by rw [e13, hu_n (ari hai (i := 3) (j := 8) (by decide) (by decide) (by decide))]; exact hu
      have f41 : h15 (ar 3) = some (eI D 60 u) := by rw [e16, hu_n (ari hai (i := 3) (j := 8) (by decide) (by decide) (by decide))]; exact f40
      have f42 : h28 (ar 3) = some (eI D 60 u) := by rw [e30, hu_n (ari hai (i := 3) (j := 6) (by decide) (by decide) (by decide)), hu_n (ari hai (i := 3) (j := 8) (by decide) (by decide) (by decide))]; exact f41
      have f43 : h12 (ar 4) = some (eI D 60 v) := by rw [e13, hu_n (ari hai (i := 4) (j := 8) (by decide) (by decide) (by decide))]; exact hv
      have f44 : h15 (ar 4) = some (eI D 60 v) := by rw [e16, hu_n (ari hai (i := 4) (j := 8) (by decide) (by decide) (by decide))]; exact f43
      have f45 : h28 (ar 4) = some (eI D 60 v) := by rw [e30, hu_n (ari hai (i := 4) (j := 6) (by decide) (by decide) (by decide)), hu_n (ari hai (i := 4) (j := 8) (by decide) (by decide) (by decide))]; exact f44
      have f46 : h12 (ar 5) = some (eI D 10 n) := by rw [e13, hu_n (ari hai (i := 5) (j := 8) (by decide) (by decide) (by decide))]; exact hn
      have f47 : h15 (ar 5) = some (eI D 10 n) := by rw [e16, hu_n (ari hai (i := 5) (j := 8) (by decide) (by decide) (by decide))]; exact f46
      have f48 : h28 (ar 5) = some (eI D 10 n) := by rw [e30, hu_n (ari hai (i := 5) (j := 6) (by decide) (by decide) (by decide)), hu_n (ari hai (i := 5) (j := 8) (by decide) (by decide) (by decide))]; exact f47
      have f49 : h12 (ar 7) = some (eI D 15 p) := by rw [e13, hu_n (ari hai (i := 7) (j := 8) (by decide) (by decide) (by decide))]; exact hp
      have f50 : h15 (ar 7) = some (eI D 15 p) := by rw [e16, hu_n (ari hai (i := 7) (j := 8) (by decide) (by decide) (by decide))]; exact f49
      have f51 : h28 (ar 7) = some (eI D 15 p) := by rw [e30, hu_n (ari hai (i := 7) (j := 6) (by decide) (by decide) (by decide)), hu_n (ari hai (i := 7) (j := 8) (by decide) (by decide) (by decide))]; exact f50
      have hAR9 : AR D ar q g l0 u v n (wL w k x9.2.2.2 0) p (rL (fu (fu r (6 * pn + 1) ((k : Nat) : Int)) (6 * pn + 5) 0) pn x9) h28 := ⟨f35, f36, f39, f42, f45, f48, f31, f51, f32⟩
      obtain ⟨P9, hM9, hP9⟩ := k_run (l := kl κ) (A := A) hSy9 (u := k) (p := pn) hkW (by omega) (b2 := 0)
      refine x_callSh C (n := 5) (As := [.ref x, vI 6, vI ((pn : Nat) : Int), vI ((k : Nat) : Int), vI 0]) (rest := []) hM9 kn gL_runs_L_calls (by decide +kernel) rfl rfl rfl (Nat.le_of_ble_eq_true rfl) ⟨by decide, by decide⟩ ⟨(by decide), (by decide)⟩ dL_runs_103 (fun rv9 h9 hp9 => ?_)
      have hk9 := hP9 rv9 h9 hp9
      rw [hEX.1, hEX.2.1, hPK.gw hkW, lyG_0g, ← hx9, rnM_e] at hk9
      obtain ⟨hc9, rfl, hS9, hkp9⟩ := hk9.resolve_right (fun z9 => (by have y9 := z9.1; omega))
      obtain ⟨f52, f53, f54, f55, f56, f57, f58, f59, f60⟩ := hAR9.kp hkp9
      refine x_iload C dL_runs_106 10 rfl ?_
      refine x_icmp_ne (tgt := 115) C dL_runs_108 (by decide) (by omega) (by omega) (fun c61 => ?_) (fun c61 => ?_)
      · exfalso; omega
      · skip
        refine x_iconst C dL_runs_111 1 (by decide) ?_
        refine x_goto (tgt := 116) C dL_runs_112 (by decide) ?_
        refine x_zret C G dL_runs_116 (by first | exact Or.inl rfl | exact Or.inr rfl) ?_ (by decide) (by decide)
        first
          | (exfalso; omega)
          | (have hP8 := PK.kp (PK.rr (r' := fu (fu r (6 * pn + 1) ((k : Nat) : Int)) (6 * pn + 5) 0) (k := ((k : Nat) : Int)) (s := 0) hPK hpn3 ⟨by rw [fu_n (by omega), fu_s], fu_s⟩ (fun j9 y1 y2 => by rw [fu_n y2, fu_n y1]) hEB) (fun i9 hi9 => hEB i9 hi9) hpn3 hkW hrec20 (x := x9)
             rw [show (fu (fu r (6 * pn + 1) ((k : Nat) : Int)) (6 * pn + 5) 0) (6 * pn + 5) = 0 from fu_s] at hP8
             exact ⟨rfl, _, _, _, _, _, _, _, _, _, _, _, _, hS9, hEX.kp (by omega) (by rw [hPK.gw hkW]; exact hxg), hP8, hAR9.kp hkp9, hSC9.kp hkp9⟩)
          | exact ⟨rfl, m, L, W, q, g, l0, u, v, n, w, p, r, hSy.le (by omega), hEX, hPK, ⟨hq, hg, hl0, hu, hv, hn, hw, hp, hr⟩, hSC⟩

set_option maxRecDepth 100000 in
set_option maxHeartbeats 4000000 in
theorem c_L_runs1 {l : Launch} {D : va_G} {A : Nat → Prop} {h : vh} {x t L W : Nat} {ar : Nat → Nat} {m : CS} {g : Nat → Int64} {q l0 u v n w p r : Nat → Int} {zz : Int32} (hq : h (ar 0) = some (eI D 5 q)) (hg : h (ar 1) = some (eJ D 60 g)) (hl0 : h (ar 2) = some (eI D 20 l0)) (hu : h (ar 3) = some (eI D 60 u)) (hv : h (ar 4) = some (eI D 60 v)) (hn : h (ar 5) = some (eI D 10 n)) (hw : h (ar 6) = some (eI D 25 w)) (hp : h (ar 7) = some (eI D 15 p)) (hr : h (ar 8) = some (eI D 18 r)) (hai : ∀ i j, i < 16 → j < 16 → ar i = ar j → i = j) (hSy : Sy D x ar m L W t h) (hEX : EX m) (hPK : PK m L W q g l0 u v n w p r) (hSC : SC D ar h) (hW : 0 < W) : HX l D A yL_runs wsL_runs { frames := 9, cells := 8, slots := 48, locals := 160 } [.ref x, vI 1, .int zz, .ref (ar 0), .ref (ar 1), .ref (ar 6), .ref (ar 8)] h (fun rv h' => rv = some (vI 1) ∧ WD D x ar (t + 4) h') := by
  refine HX.ofc (cc := cL_runs) (maxL := 15) (ret := (some .boolean)) [(0, .ref x), (1, vI 1), (2, .int zz), (3, .ref (ar 0)), (4, .ref (ar 1)), (5, .ref (ar 6)), (6, .ref (ar 8))] (by decide +kernel) rfl rfl (Nat.le_of_ble_eq_true rfl) ?_
  intro κ C hkl G kn
  subst hkl
  have C : CX κ "LedgeLevelsLaw" "runs" cL_runs wsL_runs { frames := 9, cells := 8, slots := 48, locals := 160 } D A 15 := C
  have hiz : nq (D.1 20) (D.1 21) := cx_iz C
  obtain ⟨pn, hpn⟩ : ∃ pn : Nat, pn = lowF zz 3 := ⟨_, rfl⟩
  have hpn3 : pn < 3 := by
    have := lowF_lt (v := zz) (n := 3) (by omega)
    omega
  have E_1 : Int.toNat (6 * ((pn : Nat) : Int) + 1) = 6 * pn + 1 := by omega
  have E_2 : Int.toNat (6 * ((pn : Nat) : Int) + 2) = 6 * pn + 2 := by omega
  have E_3 : Int.toNat (6 * ((pn : Nat) : Int) + 3) = 6 * pn + 3 := by omega
  have E_4 : Int.toNat (6 * ((pn : Nat) : Int) + 4) = 6 * pn + 4 := by omega
  have E_5 : Int.toNat (6 * ((pn : Nat) : Int) + 5) = 6 * pn + 5 := by omega
  have E_0 : Int.toNat (6 * ((pn : Nat) : Int)) = 6 * pn := by omega
  refine x_iload_n C dL_runs_0 2 rfl ?_
  refine x_iconst C dL_runs_1 3 (by decide) ?_
  refine x_callSJ C (n := 2) (As := [.int zz, vI 3]) (rest := []) (c_L_low (by omega)) gL_runs_L_low (by decide +kernel) rfl rfl rfl (Nat.le_of_ble_eq_true rfl) ⟨by decide, by decide⟩ ⟨(by decide), (by decide)⟩ dL_runs_2 (fun rv1 h2 hp3 => ?_)
  obtain ⟨rfl, e4, hr_2⟩ := hp3
  obtain rfl := e4.symm
  refine x_topv (show ((lowF zz 3 : Nat) : Int) = ((pn : Nat) : Int) from by rw [hpn]) ?_
  refine x_istore C (ls' := [(0, .ref x), (1, vI 1), (2, .int zz), (3, .ref (ar 0)), (4, .ref (ar 1)), (5, .ref (ar 6)), (6, .ref (ar 8)), (7, vI ((pn : Nat) : Int))]) dL_runs_5 (by decide) rfl ?_
  refine x_bipush C dL_runs_7 6 (by decide) ?_
  refine x_iload C dL_runs_9 7 rfl ?_
  refine x_imul C dL_runs_11 ?_
  refine x_istore C (ls' := [(0, .ref x), (1, vI 1), (2, .int zz), (3, .ref (ar 0)), (4, .ref (ar 1)), (5, .ref (ar 6)), (6, .ref (ar 8)), (7, vI ((pn : Nat) : Int)), (8, vI (6 * (((pn : Nat) : Int))))]) dL_runs_12 (by decide) rfl ?_
  refine x_iload_n C dL_runs_14 1 rfl ?_
  refine x_if_ne (tgt := 117) C dL_runs_15 (by decide) (by omega) (fun c5 => ?_) (fun c5 => ?_)
  · skip
    refine x_iconst C dL_runs_117 1 (by decide) ?_
    refine x_istore C (ls' := [(0, .ref x), (1, vI 1), (2, .int zz), (3, .ref (ar 0)), (4, .ref (ar 1)), (5, .ref (ar 6)), (6, .ref (ar 8)), (7, vI ((pn : Nat) : Int)), (8, vI (6 * (((pn : Nat) : Int)))), (9, vI 1)]) dL_runs_118 (by decide) rfl ?_
    refine x_iconst C dL_runs_120 0 (by decide) ?_
    refine x_istore C (ls' := [(0, .ref x), (1, vI 1), (2, .int zz), (3, .ref (ar 0)), (4, .ref (ar 1)), (5, .ref (ar 6)), (6, .ref (ar 8)), (7, vI ((pn : Nat) : Int)), (8, vI (6 * (((pn : Nat) : Int)))), (9, vI 1), (10, vI 0)]) dL_runs_121 (by decide) rfl ?_
    have LP : ∀ (N : Nat) (i t1 : Nat) (m : CS) (w r : Nat → Int) (h6 : vh)  (uq : h6 (ar 0) = some (eI D 5 q)) (ug : h6 (ar 1) = some (eJ D 60 g)) (ul0 : h6 (ar 2) = some (eI D 20 l0)) (uu : h6 (ar 3) = some (eI D 60 u)) (uv : h6 (ar 4) = some (eI D 60 v)) (un : h6 (ar 5) = some (eI D 10 n)) (uw : h6 (ar 6) = some (eI D 25 w)) (up : h6 (ar 7) = some (eI D 15 p)) (ur : h6 (ar 8) = some (eI D 18 r)) (hi : i ≤ 4) (hN : 4 - i < N) (ht1 : t1 ≤ t + i) (hSyL : Sy D x ar m L W t1 h6) (hSCL : SC D ar h6) (hEXL : EX m) (hPKL : PK m L W q g l0 u v n w p r), X κ (2 * i) (12 * i) h6 [(0, .ref x), (1, vI 1), (2, .int zz), (3, .ref (ar 0)), (4, .ref (ar 1)), (5, .ref (ar 6)), (6, .ref (ar 8)), (7, vI ((pn : Nat) : Int)), (8, vI (6 * ((pn : Nat) : Int))), (9, vI 1), (10, vI ((i : Nat) : Int))] 123 [] := by
      intro N
      induction N with
      | zero => intro i t1 m w r h6 uq ug ul0 uu uv un uw up ur hi hN ht1 hSyL hSCL hEXL hPKL; exfalso; omega
      | succ N ihLP =>
        intro i t1 m w r h6 uq ug ul0 uu uv un uw up ur hi hN ht1 hSyL hSCL hEXL hPKL
        obtain ⟨⟨hL5, hW5, hq0, hq1⟩, hqs, hPL, hPN, hPW, hPU, hPP⟩ := id hPKL
        have hEB := hSyL.eb hPKL
        obtain ⟨b1, b2, b3, b4, b5, b6⟩ := hPP pn hpn3
        obtain ⟨q1, q2, q3, q4, q5, q6⟩ := hSyL.run hPKL hpn3
        rw [b1] at q1
        rw [b2, b1] at q2
        rw [b3] at q3
        rw [b4] at q4
        rw [b5] at q5
        rw [b6] at q6
        obtain ⟨jn, hjn⟩ : ∃ jn : Nat, jn = lowF (zz >>> ((iI (3 + (2 * ((i : Nat) : Int)))) &&& 31)) 6 := ⟨_, rfl⟩
        have hjn6 : jn < 6 := by
          have := lowF_lt (v := zz >>> ((iI (3 + (2 * ((i : Nat) : Int)))) &&& 31)) (n := 6) (by omega)
          omega
        refine x_iload C dL_runs_123 10 rfl ?_
        refine x_iconst C dL_runs_125 4 (by decide) ?_
        refine x_icmp_ge (tgt := 297) C dL_runs_126 (by decide) (by omega) (by omega) (fun c7 => ?_) (fun c7 => ?_)
        · skip
          refine x_iload C dL_runs_297 9 rfl ?_
          refine x_zret C G dL_runs_299 (by first | exact Or.inl rfl | exact Or.inr rfl) ?_ (by first | omega | (dsimp only; omega)) (by first | omega | (dsimp only; omega))
          exact ⟨rfl, m, L, W, q, g, l0, u, v, n, w, p, r, hSyL.le (by omega), hEXL, hPKL, ⟨uq, ug, ul0, uu, uv, un, uw, up, ur⟩, hSCL⟩
        · skip
          refine x_iload C dL_runs_129 9 rfl ?_
          refine x_if_eq (tgt := 297) C dL_runs_131 (by decide) (by omega) (fun c8 => ?_) (fun c8 => ?_)
          · exfalso; omega
          · skip
            refine x_iload_n C dL_runs_134 2 rfl ?_
            refine x_iconst C dL_runs_135 3 (by decide) ?_
            refine x_iconst C dL_runs_136 2 (by decide) ?_
            refine x_iload C dL_runs_137 10 rfl ?_
            refine x_imul C dL_runs_139 ?_
            refine x_iadd C dL_runs_140 ?_
            refine x_ishr C dL_runs_141 _ rfl ?_
            refine x_bipush C dL_runs_142 6 (by decide) ?_
            refine x_callSJ C (n := 2) (As := [.int (zz >>> ((iI (3 + (2 * (((i : Nat) : Int))))) &&& 31)), vI 6]) (rest := []) (c_L_low (by omega)) gL_runs_L_low (by decide +kernel) rfl rfl rfl (Nat.le_of_ble_eq_true rfl) ⟨by decide, by decide⟩ ⟨(by first | omega | (dsimp only; omega)), (by first | omega | (dsimp only; omega))⟩ dL_runs_144 (fun rv9 h10 hp11 => ?_)
            obtain ⟨rfl, e12, hr_144⟩ := hp11
            obtain rfl := e12.symm
            refine x_topv (show ((lowF (zz >>> ((iI (3 + (2 * (((i : Nat) : Int))))) &&& 31)) 6 : Nat) : Int) = ((jn : Nat) : Int) from by rw [hjn]) ?_
            refine x_istore C (ls' := [(0, .ref x), (1, vI 1), (2, .int zz), (3, .ref (ar 0)), (4, .ref (ar 1)), (5, .ref (ar 6)), (6, .ref (ar 8)), (7, vI ((pn : Nat) : Int)), (8, vI (6 * ((pn : Nat) : Int))), (9, vI 1), (10, vI ((i : Nat) : Int)), (11, vI ((jn : Nat) : Int))]) dL_runs_147 (by decide) rfl ?_
            refine x_bipush C dL_runs_149 (-5) (by decide) ?_
            refine x_istore C (ls' := [(0, .ref x), (1, vI 1), (2, .int zz), (3, .ref (ar 0)), (4, .ref (ar 1)), (5, .ref (ar 6)), (6, .ref (ar 8)), (7, vI ((pn : Nat) : Int)), (8, vI (6 * ((pn : Nat) : Int))), (9, vI 1), (10, vI ((i : Nat) : Int)), (11, vI ((jn : Nat) : Int)), (12, vI (-5))]) dL_runs_151 (by decide) rfl ?_
            refine x_aload C dL_runs_153 6 rfl ?_
            refine x_iload C dL_runs_155 8 rfl ?_
            refine x_iald C ur ⟨by omega, by omega⟩ (by decide) dL_runs_157 ?_
            refine x_topv (show r (Int.toNat (6 * ((pn : Nat) : Int))) = m 22 0 pn from by rw [E_0]; exact b1) ?_
            refine x_iconst C dL_runs_158 1 (by decide) ?_
            refine x_icmp_ne (tgt := 268) C dL_runs_159 (by decide) (by omega) (by omega) (fun c13 => ?_) (fun c13 => ?_)
            · skip
              refine x_aload_n C dL_runs_268 0 rfl ?_
              refine x_bipush C dL_runs_269 7 (by decide) ?_
              refine x_iload C dL_runs_271 7 rfl ?_
              refine x_iload C dL_runs_273 11 rfl ?_
              refine x_iconst C dL_runs_275 0 (by decide) ?_
              have hSy9 : Sy D x ar m L W t1 h6 := by repeat (first | exact hSy | exact hSyL | refine Sy.off ?_ (by decide))
              have hSC9 : SC D ar h6 := by repeat (first | exact hSC | exact hSCL | refine SC.off hai ?_ (by decide))
              have hAR9 : AR D ar q g l0 u v n w p r h6 := ⟨uq, ug, ul0, uu, uv, un, uw, up, ur⟩
              obtain ⟨P9, hM9, hP9⟩ := k_step (l := kl κ) (A := A) hSy9 (p := pn) (z := ((jn : Nat) : Int)) (by omega) (by omega) (b2 := 0)
              refine x_callSh C (n := 5) (As := [.ref x, vI 7, vI ((pn : Nat) : Int), vI ((jn : Nat) : Int), vI 0]) (rest := []) hM9 kn gL_runs_L_calls (by decide +kernel) rfl rfl rfl (Nat.le_of_ble_eq_true rfl) ⟨by decide, by decide⟩ ⟨(by first | omega | (dsimp only; omega)), (by first | omega | (dsimp only; omega))⟩ dL_runs_276 (fun rv9 h9 hp9 => ?_)
              have hk9 := hP9 rv9 h9 hp9
              obtain ⟨hc9, rfl, he9⟩ := hk9.resolve_left (fun z9 => (by have y9 := z9.1; omega))
              obtain rfl := he9.symm
              refine x_iload C dL_runs_279 12 rfl ?_
              refine x_icmp_ne (tgt := 288) C dL_runs_281 (by decide) (by omega) (by omega) (fun c14 => ?_) (fun c14 => ?_)
              · exfalso; omega
              · skip
                refine x_iconst C dL_runs_284 1 (by decide) ?_
                refine x_goto (tgt := 289) C dL_runs_285 (by decide) ?_
                refine x_istore C (ls' := [(0, .ref x), (1, vI 1), (2, .int zz), (3, .ref (ar 0)), (4, .ref (ar 1)), (5, .ref (ar 6)), (6, .ref (ar 8)), (7, vI ((pn : Nat) : Int)), (8, vI (6 * ((pn : Nat) : Int))), (9, vI 1), (10, vI ((i : Nat) : Int)), (11, vI ((jn : Nat) : Int)), (12, vI (-5))]) dL_runs_289 (by decide) rfl ?_
                refine x_iinc C (x := ((i : Nat) : Int)) (ls' := [(0, .ref x), (1, vI 1), (2, .int zz), (3, .ref (ar 0)), (4, .ref (ar 1)), (5, .ref (ar 6)), (6, .ref (ar 8)), (7, vI ((pn : Nat) : Int)), (8, vI (6 * ((pn : Nat) : Int))), (9, vI 1), (10, vI ((((i : Nat) : Int)) + 1)), (11, vI ((jn : Nat) : Int)), (12, vI (-5))]) dL_runs_291 10 rfl (by decide) rfl ?_
                refine x_goto (tgt := 123) C dL_runs_294 (by decide) ?_
                refine x_sub [0, 1, 2, 3, 4, 5, 6, 7, 8, 9, 10] (ls' := [(0, .ref x), (1, vI 1), (2, .int zz), (3, .ref (ar 0)), (4, .ref (ar 1)), (5, .ref (ar 6)), (6, .ref (ar 8)), (7, vI ((pn : Nat) : Int)), (8, vI (6 * ((pn : Nat) : Int))), (9, vI 1), (10, vI ((((i : Nat) : Int)) + 1))]) rfl ?_
                refine x_widen (m1 := 2 * (i + 1)) (m2 := 12 * (i + 1)) (by first | omega | (dsimp only; omega)) (by first | omega | (dsimp only; omega)) ?_
                exact ihLP (i + 1) ((t1 + 1)) m w r h6 uq ug ul0 uu uv un uw up ur (by omega) (by omega) (by omega) (hSyL.le (by omega)) (hSCL) (hEXL) (hPKL)
            · skip
              obtain ⟨kw, hkw⟩ : ∃ kw : Nat, m 23 0 pn = ((kw : Nat) : Int) := ⟨(m 23 0 pn).toNat, by omega⟩
              have hkW : kw < W := by omega
              obtain ⟨hA7, hf8, hst, hbe, hau, hpa, hrec⟩ := hSyL.wrk hPKL hkW
              have E_30 : (30 + 6 * ((kw : Nat) : Int)).toNat = 30 + 6 * kw := by omega
              obtain ⟨k1, k2, k3, k4, k5, k6, k7, k8⟩ := hPW kw hkW
              have hrec20 : -1 ≤ m 20 0 kw := by rw [← k5]; exact hrec.1
              obtain ⟨x1, x2⟩ := hEXL.2.2 pn hpn3 (by omega)
              rw [show (m 23 0 pn).toNat = kw by omega] at x1 x2
              rw [hPKL.gw hkW] at x2
              obtain ⟨al, hal⟩ : ∃ al : Nat, al = lyA (gk g (30 + 6 * kw)) 96 := ⟨_, rfl⟩
              obtain ⟨hss, _⟩ := hSyL.str
              obtain ⟨x9, hx9⟩ : ∃ x9 : B4, x9 = mv (gk g (30 + 6 * kw)) (kbr (gk g (30 + 6 * kw)) (fun _ => 0)) (lyA (gk g (30 + 6 * kw)) 96) (m 1 0) ((jn : Nat) : Int) (m 24 0 pn) (m 25 0 pn) (m 26 0 pn).toNat := ⟨_, rfl⟩
              have hbok : bOK x9 := by rw [hx9]; exact mv_r (kbr_8 hA7) hss (by omega) (by omega) (by omega)
              have hkr9 := kpR_r hbok
              have hb3 : b123 x9 := by rw [hx9]; exact mv_b9
              have hxg : x9.2.2.1 ||| kbr (gk g (30 + 6 * kw)) (fun _ => 0) x9.1 = x9.2.2.1 := by rw [hx9]; exact mv_g x2
              refine x_aload C dL_runs_162 6 rfl ?_
              refine x_iload C dL_runs_164 8 rfl ?_
              refine x_iconst C dL_runs_166 5 (by decide) ?_
              refine x_iadd C dL_runs_167 ?_
              refine x_iald C ur ⟨by omega, by omega⟩ (by decide) dL_runs_168 ?_
              refine x_topv (show r (Int.toNat ((6 * ((pn : Nat) : Int)) + 5)) = m 27 0 pn from by rw [E_5]; exact b6) ?_
              refine x_sipush C dL_runs_169 200 (by decide) ?_
              refine x_icmp_ge (tgt := 268) C dL_runs_172 (by decide) (by omega) (by omega) (fun c15 => ?_) (fun c15 => ?_)
              · skip
                refine x_aload_n C dL_runs_268 0 rfl ?_
                refine x_bipush C dL_runs_269 7 (by decide) ?_
                refine x_iload C dL_runs_271 7 rfl ?_
                refine x_iload C dL_runs_273 11 rfl ?_
                refine x_iconst C dL_runs_275 0 (by decide) ?_
                have hSy9 : Sy D x ar m L W t1 h6 := by repeat (first | exact hSy | exact hSyL | refine Sy.off ?_ (by decide))
                have hSC9 : SC D ar h6 := by repeat (first | exact hSC | exact hSCL | refine SC.off hai ?_ (by decide))
                have hAR9 : AR D ar q g l0 u v n w p r h6 := ⟨uq, ug, ul0, uu, uv, un, uw, up, ur⟩
                obtain ⟨P9, hM9, hP9⟩ := k_step (l := kl κ) (A := A) hSy9 (p := pn) (z := ((jn : Nat) : Int)) (by omega) (by omega) (b2 := 0)
                refine x_callSh C (n := 5) (As := [.ref x, vI 7, vI ((pn : Nat) : Int), vI ((jn : Nat) : Int), vI 0]) (rest := []) hM9 kn gL_runs_L_calls (by decide +kernel) rfl rfl rfl (Nat.le_of_ble_eq_true rfl) ⟨by decide, by decide⟩ ⟨(by first | omega | (dsimp only; omega)), (by first | omega | (dsimp only; omega))⟩ dL_runs_276 (fun rv9 h9 hp9 => ?_)
                have hk9 := hP9 rv9 h9 hp9
                obtain ⟨hc9, rfl, he9⟩ := hk9.resolve_left (fun z9 => (by have y9 := z9.1; omega))
                obtain rfl := he9.symm
                refine x_iload C dL_runs_279 12 rfl ?_
                refine x_icmp_ne (tgt := 288) C dL_runs_281 (by decide) (by omega) (by omega) (fun c16 => ?_) (fun c16 => ?_)
                · exfalso; omega
                · skip
                  refine x_iconst C dL_runs_284 1 (by decide) ?_
                  refine x_goto (tgt := 289) C dL_runs_285 (by decide) ?_
                  refine x_istore C (ls' := [(0, .ref x), (1, vI 1), (2, .int zz), (3, .ref (ar 0)), (4, .ref (ar 1)), (5, .ref (ar 6)), (6, .ref (ar 8)), (7, vI ((pn : Nat) : Int)), (8, vI (6 * ((pn : Nat) : Int))), (9, vI 1), (10, vI ((i : Nat) : Int)), (11, vI ((jn : Nat) : Int)), (12, vI (-5))]) dL_runs_289 (by decide) rfl ?_
                  refine x_iinc C (x := ((i : Nat) : Int)) (ls' := [(0, .ref x), (1, vI 1), (2, .int zz), (3, .ref (ar 0)), (4, .ref (ar 1)), (5, .ref (ar 6)), (6, .ref (ar 8)), (7, vI ((pn : Nat) : Int)), (8, vI (6 * ((pn : Nat) : Int))), (9, vI 1), (10, vI ((((i : Nat) : Int)) + 1)), (11, vI ((jn : Nat) : Int)), (12, vI (-5))]) dL_runs_291 10 rfl (by decide) rfl ?_
                  refine x_goto (tgt := 123) C dL_runs_294 (by decide) ?_
                  refine x_sub [0, 1, 2, 3, 4, 5, 6, 7, 8, 9, 10] (ls' := [(0, .ref x), (1, vI 1), (2, .int zz), (3, .ref (ar 0)), (4, .ref (ar 1)), (5, .ref (ar 6)), (6, .ref (ar 8)), (7, vI ((pn : Nat) : Int)), (8, vI (6 * ((pn : Nat) : Int))), (9, vI 1), (10, vI ((((i : Nat) : Int)) + 1))]) rfl ?_
                  refine x_widen (m1 := 2 * (i + 1)) (m2 := 12 * (i + 1)) (by first | omega | (dsimp only; omega)) (by first | omega | (dsimp only; omega)) ?_
                  exact ihLP (i + 1) ((t1 + 1)) m w r h6 uq ug ul0 uu uv un uw up ur (by omega) (by omega) (by omega) (hSyL.le (by omega)) (hSCL) (hEXL) (hPKL)
              · skip
                refine x_bipush C dL_runs_175 30 (by decide) ?_
                refine x_bipush C dL_runs_177 6 (by decide) ?_
                refine x_aload C dL_runs_179 6 rfl ?_
                refine x_iload C dL_runs_181 8 rfl ?_
                refine x_iconst C dL_runs_183 1 (by decide) ?_
                refine x_iadd C dL_runs_184 ?_
                refine x_iald C ur ⟨by omega, by omega⟩ (by decide) dL_runs_185 ?_
                refine x_topv (show r (Int.toNat ((6 * ((pn : Nat) : Int)) + 1)) = ((kw : Nat) : Int) from by rw [E_1]; exact b2.trans hkw) ?_
                refine x_imul C dL_runs_186 ?_
                refine x_iadd C dL_runs_187 ?_
                refine x_istore C (ls' := [(0, .ref x), (1, vI 1), (2, .int zz), (3, .ref (ar 0)), (4, .ref (ar 1)), (5, .ref (ar 6)), (6, .ref (ar 8)), (7, vI ((pn : Nat) : Int)), (8, vI (6 * ((pn : Nat) : Int))), (9, vI 1), (10, vI ((i : Nat) : Int)), (11, vI ((jn : Nat) : Int)), (12, vI (-5)), (13, vI (30 + (6 * (((kw : Nat) : Int)))))]) dL_runs_188 (by decide) rfl ?_
                refine x_aload C dL_runs_190 6 rfl ?_
                refine x_iload C dL_runs_192 8 rfl ?_
                refine x_iconst C dL_runs_194 2 (by decide) ?_
                refine x_iadd C dL_runs_195 ?_
                refine x_iald C ur ⟨by omega, by omega⟩ (by decide) dL_runs_196 ?_
                refine x_topv (show r (Int.toNat ((6 * ((pn : Nat) : Int)) + 2)) = m 24 0 pn from by rw [E_2]; exact b3) ?_
                refine x_sipush C dL_runs_197 128 (by decide) ?_
                refine x_aload C dL_runs_200 6 rfl ?_
                refine x_iload C dL_runs_202 8 rfl ?_
                refine x_iconst C dL_runs_204 3 (by decide) ?_
                refine x_iadd C dL_runs_205 ?_
                refine x_iald C ur ⟨by omega, by omega⟩ (by decide) dL_runs_206 ?_
                refine x_topv (show r (Int.toNat ((6 * ((pn : Nat) : Int)) + 3)) = m 25 0 pn from by rw [E_3]; exact b4) ?_
                refine x_iconst C dL_runs_207 4 (by decide) ?_
                refine x_iadd C dL_runs_208 ?_
                refine x_imul C dL_runs_209 ?_
                refine x_iadd C dL_runs_210 ?_
                refine x_sipush C dL_runs_211 1024 (by decide) ?_
                refine x_aload C dL_runs_214 6 rfl ?_
                refine x_iload C dL_runs_216 8 rfl ?_
                refine x_iconst C dL_runs_218 4 (by decide) ?_
                refine x_iadd C dL_runs_219 ?_
                refine x_iald C ur ⟨by omega, by omega⟩ (by decide) dL_runs_220 ?_
                refine x_topv (show r (Int.toNat ((6 * ((pn : Nat) : Int)) + 4)) = (((m 26 0 pn).toNat : Nat) : Int) from by rw [E_4, b5]; omega) ?_
                refine x_imul C dL_runs_221 ?_
                refine x_iadd C dL_runs_222 ?_
                refine x_istore C (ls' := [(0, .ref x), (1, vI 1), (2, .int zz), (3, .ref (ar 0)), (4, .ref (ar 1)), (5, .ref (ar 6)), (6, .ref (ar 8)), (7, vI ((pn : Nat) : Int)), (8, vI (6 * ((pn : Nat) : Int))), (9, vI 1), (10, vI ((i : Nat) : Int)), (11, vI ((jn : Nat) : Int)), (12, vI (-5)), (13, vI (30 + (6 * (((kw : Nat) : Int))))), (14, vI (((m 24 0 pn) + (128 * ((m 25 0 pn) + 4))) + (1024 * ((((m 26 0 pn).toNat : Nat) : Int)))))]) dL_runs_223 (by decide) rfl ?_
                refine x_aload C dL_runs_225 6 rfl ?_
                refine x_iload C dL_runs_227 8 rfl ?_
                refine x_iconst C dL_runs_229 5 (by decide) ?_
                refine x_iadd C dL_runs_230 ?_
                refine x_dup2 C dL_runs_231 rfl rfl ?_
                refine x_iald C ur ⟨by omega, by omega⟩ (by decide) dL_runs_232 ?_
                refine x_topv (show r (Int.toNat ((6 * ((pn : Nat) : Int)) + 5)) = m 27 0 pn from by rw [E_5]; exact b6) ?_
                refine x_iconst C dL_runs_233 1 (by decide) ?_
                refine x_iadd C dL_runs_234 ?_
                refine x_iast C ur ⟨by omega, by omega⟩ (by decide) dL_runs_235 (x_hn (fun h17 e18 => ?_))
                have f19 : h17 (ar 8) = some (eI D 18 (fu r (Int.toNat ((6 * ((pn : Nat) : Int)) + 5)) ((m 27 0 pn) + 1))) := by rw [e18]; exact hu_s
                have f20 : h17 (ar 8) = some (eI D 18 (fu r (6 * pn + 5) (m 27 0 pn + 1))) := by have q9 := f19; rw [E_5] at q9; exact q9
                refine x_iload C dL_runs_236 7 rfl ?_
                refine x_iload C dL_runs_238 14 rfl ?_
                refine x_iload C dL_runs_240 11 rfl ?_
                refine x_aload C dL_runs_242 4 rfl ?_
                refine x_iload C dL_runs_244 13 rfl ?_
                refine x_bipush C dL_runs_246 96 (by decide) ?_
                have f21 : h17 (ar 1) = some (eJ D 60 g) := by rw [e18, hu_n (ari hai (i := 1) (j := 8) (by decide) (by decide) (by decide))]; exact ug
                refine x_callSJ C (n := 3) (As := [.ref (ar 1), vI (30 + (6 * (((kw : Nat) : Int)))), vI 96]) (rest := [vI ((jn : Nat) : Int), vI (((m 24 0 pn) + (128 * ((m 25 0 pn) + 4))) + (1024 * ((((m 26 0 pn).toNat : Nat) : Int)))), vI ((pn : Nat) : Int)]) (c_L_keys (b := (96 : Int)) f21 (by omega) (by omega)) gL_runs_L_keys (by decide +kernel) rfl rfl rfl (Nat.le_of_ble_eq_true rfl) ⟨by decide, by decide⟩ ⟨(by first | omega | (dsimp only; omega)), (by first | omega | (dsimp only; omega))⟩ dL_runs_248 (fun rv22 h23 hp24 => ?_)
                obtain ⟨rfl, e25⟩ := hp24
                obtain rfl := e25.symm
                refine x_topv (show ((lyA (gk g (30 + (6 * (((kw : Nat) : Int)))).toNat) ((96 : Int)).toNat : Nat) : Int) = ((al : Nat) : Int) from by rw [hal, E_30]; rfl) ?_
                refine x_iload C dL_runs_251 13 rfl ?_
                refine x_aload_n C dL_runs_253 3 rfl ?_
                refine x_aload C dL_runs_254 4 rfl ?_
                have f26 : h17 (ar 0) = some (eI D 5 q) := by rw [e18, hu_n (ari hai (i := 0) (j := 8) (by decide) (by decide) (by decide))]; exact uq
                refine x_callSJ C (n := 6) (As := [vI (((m 24 0 pn) + (128 * ((m 25 0 pn) + 4))) + (1024 * ((((m 26 0 pn).toNat : Nat) : Int)))), vI ((jn : Nat) : Int), vI ((al : Nat) : Int), vI (30 + (6 * (((kw : Nat) : Int)))), .ref (ar 0), .ref (ar 1)]) (rest := [vI ((pn : Nat) : Int)]) (c_L_step (c := (m 24 0 pn)) (v := (m 25 0 pn)) (t := (m 26 0 pn).toNat) (S := (m 1 0)) f21 f26 (rfl) (by omega) (by rw [E_30]; exact hal) (by omega) (by omega) (by omega) (by omega) (by rw [E_30]; exact x2) (hPKL.qs) (hss) (by rw [E_30]; exact hA7) (by rw [E_30]; exact hf8)) gL_runs_L_step (by decide +kernel) rfl rfl rfl (Nat.le_of_ble_eq_true rfl) ⟨by decide, by decide⟩ ⟨(by first | omega | (dsimp only; omega)), (by first | omega | (dsimp only; omega))⟩ dL_runs_256 (fun rv27 h28 hp29 => ?_)
                obtain ⟨rfl, e30⟩ := hp29
                obtain rfl := e30.symm
                refine x_topv (show encB (mv (gk g (30 + (6 * (((kw : Nat) : Int)))).toNat) (kbr (gk g (30 + (6 * (((kw : Nat) : Int)))).toNat) (fun _ => 0)) al ((m 1 0)) (((jn : Nat) : Int)) ((m 24 0 pn)) ((m 25 0 pn)) ((m 26 0 pn).toNat)) = encB x9 from by rw [hx9, E_30, hal]) ?_
                refine x_aload C dL_runs_259 5 rfl ?_
                refine x_aload C dL_runs_261 6 rfl ?_
                have f31 : h17 (ar 6) = some (eI D 25 w) := by rw [e18, hu_n (ari hai (i := 6) (j := 8) (by decide) (by decide) (by decide))]; exact uw
                refine x_callSJ C (n := 4) (As := [vI ((pn : Nat) : Int), vI (encB x9), .ref (ar 6), .ref (ar 8)]) (rest := []) (c_L_lays (k := kw) (n := (m 27 0 pn + 1)) (x := x9) f31 f20 (rfl) (hbok) (hb3) (by omega) (⟨by rw [fu_n (by omega), b2]; exact hkw, by omega⟩) (⟨fu_s, by omega, by omega⟩) (by omega)) gL_runs_L_lays (by decide +kernel) rfl rfl rfl (Nat.le_of_ble_eq_true rfl) ⟨by decide, by decide⟩ ⟨(by first | omega | (dsimp only; omega)), (by first | omega | (dsimp only; omega))⟩ dL_runs_263 (fun rv32 h33 hp34 => ?_)
                obtain ⟨rfl, e35⟩ := hp34
                have f36 : h33 (ar 6) = some (eI D 25 (wL w kw x9.2.2.2 ((m 27 0 pn + 1)))) := by rw [e35]; exact hu_s
                have f37 : h33 (ar 8) = some (eI D 18 (rL (fu r (6 * pn + 5) (m 27 0 pn + 1)) pn x9)) := by rw [e35, hu_n (ari hai (i := 8) (j := 6) (by decide) (by decide) (by decide))]; exact hu_s
                refine x_istore C (ls' := [(0, .ref x), (1, vI 1), (2, .int zz), (3, .ref (ar 0)), (4, .ref (ar 1)), (5, .ref (ar 6)), (6, .ref (ar 8)), (7, vI ((pn : Nat) : Int)), (8, vI (6 * ((pn : Nat) : Int))), (9, vI 1), (10, vI ((i : Nat) : Int)), (11, vI ((jn : Nat) : Int)), (12, vI (kpR x9)), (13, vI (30 + (6 * (((kw : Nat) : Int))))), (14, vI (((m 24 0 pn) + (128 * ((m 25 0 pn) + 4))) + (1024 * ((((m 26 0 pn).toNat : Nat) : Int)))))]) dL_runs_266 (by decide) rfl ?_
                refine x_aload_n C dL_runs_268 0 rfl ?_
                refine x_bipush C dL_runs_269 7 (by decide) ?_
                refine x_iload C dL_runs_271 7 rfl ?_
                refine x_iload C dL_runs_273 11 rfl ?_
                refine x_iconst C dL_runs_275 0 (by decide) ?_
                have hSy9 : Sy D x ar m L W t1 h33 := by rw [e35, e18]; repeat (first | exact hSy | exact hSyL | refine Sy.off ?_ (by decide))
                have hSC9 : SC D ar h33 := by rw [e35, e18]; repeat (first | exact hSC | exact hSCL | refine SC.off hai ?_ (by decide))
                have f38 : h33 (ar 0) = some (eI D 5 q) := by rw [e35, hu_n (ari hai (i := 0) (j := 6) (by decide) (by decide) (by decide)), hu_n (ari hai (i := 0) (j := 8) (by decide) (by decide) (by decide))]; exact f26
                have f39 : h33 (ar 1) = some (eJ D 60 g) := by rw [e35, hu_n (ari hai (i := 1) (j := 6) (by decide) (by decide) (by decide)), hu_n (ari hai (i := 1) (j := 8) (by decide) (by decide) (by decide))]; exact f21
                have f40 : h17 (ar 2) = some (eI D 20 l0) := by rw [e18, hu_n (ari hai (i := 2) (j := 8) (by decide) (by decide) (by decide))]; exact ul0
                have f41 : h33 (ar 2) = some (eI D 20 l0) := by rw [e35, hu_n (ari hai (i := 2) (j := 6) (by decide) (by decide) (by decide)), hu_n (ari hai (i := 2) (j := 8) (by decide) (by decide) (by decide))]; exact f40
                have f42 : h17 (ar 3) = some (eI D 60 u) := by rw [e18, hu_n (ari hai (i := 3) (j := 8) (by decide) (by decide) (by decide))]; exact uu
                have f43 : h33 (ar 3) = some (eI D 60 u) := by rw [e35, hu_n (ari hai (i := 3) (j := 6) (by decide) (by decide) (by decide)), hu_n (ari hai (i := 3) (j := 8) (by decide) (by decide) (by decide))]; exact f42
                have f44 : h17 (ar 4) = some (eI D 60 v) := by rw [e18, hu_n (ari hai (i := 4) (j := 8) (by decide) (by decide) (by decide))]; exact uv
                have f45 : h33 (ar 4) = some (eI D 60 v) := by rw [e35, hu_n (ari hai (i := 4) (j := 6) (by decide) (by decide) (by decide)), hu_n (ari hai (i := 4) (j := 8) (by decide) (by decide) (by decide))]; exact f44
                have f46 : h17 (ar 5) = some (eI D 10 n) := by rw [e18, hu_n (ari hai (i := 5) (j := 8) (by decide) (by decide) (by decide))]; exact un
                have f47 : h33 (ar 5) = some (eI D 10 n) := by rw [e35, hu_n (ari hai (i := 5) (j := 6) (by decide) (by decide) (by decide)), hu_n (ari hai (i := 5) (j := 8) (by decide) (by decide) (by decide))]; exact f46
                have f48 : h17 (ar 7) = some (eI D 15 p) := by rw [e18, hu_n (ari hai (i := 7) (j := 8) (by decide) (by decide) (by decide))]; exact up
                have f49 : h33 (ar 7) = some (eI D 15 p) := by rw [e35, hu_n (ari hai (i := 7) (j := 6) (by decide) (by decide) (by decide)), hu_n (ari hai (i := 7) (j := 8) (by decide) (by decide) (by decide))]; exact f48
                have hAR9 : AR D ar q g l0 u v n (wL w kw x9.2.2.2 ((m 27 0 pn + 1))) p (rL (fu r (6 * pn + 5) (m 27 0 pn + 1)) pn x9) h33 := ⟨f38, f39, f41, f43, f45, f47, f36, f49, f37⟩
                obtain ⟨P9, hM9, hP9⟩ := k_step (l := kl κ) (A := A) hSy9 (p := pn) (z := ((jn : Nat) : Int)) (by omega) (by omega) (b2 := 0)
                refine x_callSh C (n := 5) (As := [.ref x, vI 7, vI ((pn : Nat) : Int), vI ((jn : Nat) : Int), vI 0]) (rest := []) hM9 kn gL_runs_L_calls (by decide +kernel) rfl rfl rfl (Nat.le_of_ble_eq_true rfl) ⟨by decide, by decide⟩ ⟨(by first | omega | (dsimp only; omega)), (by first | omega | (dsimp only; omega))⟩ dL_runs_276 (fun rv9 h9 hp9 => ?_)
                have hk9 := hP9 rv9 h9 hp9
                rw [show (m 23 0 pn).toNat = kw by omega, hEXL.1, hEXL.2.1, hPKL.gw hkW, lyG_0g, ← hx9, ← rnM_s hkw, rnM_e] at hk9
                have hP8 := PK.kp (PK.rr (r' := fu r (6 * pn + 5) (m 27 0 pn + 1)) (k := ((kw : Nat) : Int)) (s := m 27 0 pn + 1) hPKL hpn3 ⟨by rw [fu_n (by omega), b2]; exact hkw, fu_s⟩ (fun j9 y1 y2 => by rw [fu_n y2]) hEB) (fun i9 hi9 => hEB i9 hi9) hpn3 hkW hrec20 (x := x9)
                rw [show (fu r (6 * pn + 5) (m 27 0 pn + 1)) (6 * pn + 5) = m 27 0 pn + 1 from fu_s] at hP8
                have hE8 := hEXL.kp (y := pn) (x := x9) (s := m 27 0 pn + 1) x1 (by rw [hPKL.gw hkW]; exact hxg)
                obtain ⟨hc9, rfl, hS9, hkp9⟩ := hk9.resolve_right (fun z9 => (by have y9 := z9.1; omega))
                obtain ⟨f50, f51, f52, f53, f54, f55, f56, f57, f58⟩ := hAR9.kp hkp9
                refine x_iload C dL_runs_279 12 rfl ?_
                refine x_icmp_ne (tgt := 288) C dL_runs_281 (by decide) (by omega) (by omega) (fun c59 => ?_) (fun c59 => ?_)
                · exfalso; omega
                · skip
                  refine x_iconst C dL_runs_284 1 (by decide) ?_
                  refine x_goto (tgt := 289) C dL_runs_285 (by decide) ?_
                  refine x_istore C (ls' := [(0, .ref x), (1, vI 1), (2, .int zz), (3, .ref (ar 0)), (4, .ref (ar 1)), (5, .ref (ar 6)), (6, .ref (ar 8)), (7, vI ((pn : Nat) : Int)), (8, vI (6 * ((pn : Nat) : Int))), (9, vI 1), (10, vI ((i : Nat) : Int)), (11, vI ((jn : Nat) : Int)), (12, vI (kpR x9)), (13, vI (30 + (6 * (((kw : Nat) : Int))))), (14, vI (((m 24 0 pn) + (128 * ((m 25 0 pn) + 4))) + (1024 * ((((m 26 0 pn).toNat : Nat) : Int)))))]) dL_runs_289 (by decide) rfl ?_
                  refine x_iinc C (x := ((i : Nat) : Int)) (ls' := [(0, .ref x), (1, vI 1), (2, .int zz), (3, .ref (ar 0)), (4, .ref (ar 1)), (5, .ref (ar 6)), (6, .ref (ar 8)), (7, vI ((pn : Nat) : Int)), (8, vI (6 * ((pn : Nat) : Int))), (9, vI 1), (10, vI ((((i : Nat) : Int)) + 1)), (11, vI ((jn : Nat) : Int)), (12, vI (kpR x9)), (13, vI (30 + (6 * (((kw : Nat) : Int))))), (14, vI (((m 24 0 pn) + (128 * ((m 25 0 pn) + 4))) + (1024 * ((((m 26 0 pn).toNat : Nat) : Int)))))]) dL_runs_291 10 rfl (by decide) rfl ?_
                  refine x_goto (tgt := 123) C dL_runs_294 (by decide) ?_
                  refine x_sub [0, 1, 2, 3, 4, 5, 6, 7, 8, 9, 10] (ls' := [(0, .ref x), (1, vI 1), (2, .int zz), (3, .ref (ar 0)), (4, .ref (ar 1)), (5, .ref (ar 6)), (6, .ref (ar 8)), (7, vI ((pn : Nat) : Int)), (8, vI (6 * ((pn : Nat) : Int))), (9, vI 1), (10, vI ((((i : Nat) : Int)) + 1))]) rfl ?_
                  refine x_widen (m1 := 2 * (i + 1)) (m2 := 12 * (i + 1)) (by first | omega | (dsimp only; omega)) (by first | omega | (dsimp only; omega)) ?_
                  exact ihLP (i + 1) ((t1 + 1)) _ (wL w kw x9.2.2.2 ((m 27 0 pn + 1))) (rL (fu r (6 * pn + 5) (m 27 0 pn + 1)) pn x9) h9 f50 f51 f52 f53 f54 f55 f56 f57 f58 (by omega) (by omega) (by omega) (hS9) (hSC9.kp hkp9) (hE8) (hP8)
    exact LP (5) 0 t m w r h hq hg hl0 hu hv hn hw hp hr (by omega) (by omega) (by omega) (hSy) (hSC) (hEX) (hPK)
  · exfalso; omega


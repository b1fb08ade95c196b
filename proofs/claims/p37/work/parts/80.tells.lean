/-! ===== tells ===== -/
noncomputable def RM (mm : Nat → Int64) : Nat → Int := fun z => bI (Ms mm z)
theorem RM_1 {mm : Nat → Int64} {z : Nat} : RM mm z = 1 ↔ Ms mm z := by
  unfold RM
  by_cases q : Ms mm z
  · rw [bI_t q]; exact ⟨fun _ => q, fun _ => rfl⟩
  · rw [bI_f q]; exact ⟨fun y => absurd y (by decide), fun y => absurd y q⟩
theorem RM_0 {mm : Nat → Int64} {z : Nat} : RM mm z = 0 ↔ ¬ Ms mm z := by
  unfold RM
  by_cases q : Ms mm z
  · rw [bI_t q]; exact ⟨fun y => absurd y (by decide), fun y => absurd q y⟩
  · rw [bI_f q]; exact ⟨fun _ => q, fun _ => rfl⟩
theorem RM_g {mm : Nat → Int64} {z : Nat} : (lsr (mm (z / 48)) ((z % 48 : Nat) : Int) &&& 1 = 1 ∧ Ms mm z) ∨ (lsr (mm (z / 48)) ((z % 48 : Nat) : Int) &&& 1 = 0 ∧ ¬ Ms mm z) := by
  unfold Ms
  rw [lb_get (by omega)]
  by_cases q : lb (mm (z / 48)) (z % 48) = true
  · rw [if_pos q]; exact Or.inl ⟨rfl, q⟩
  · rw [if_neg q]; exact Or.inr ⟨rfl, q⟩

set_option maxRecDepth 100000 in
set_option maxHeartbeats 4000000 in
theorem c_L_tells {l : Launch} {D : va_G} {A : Nat → Prop} {h : vh} {x t L W k : Nat} {ar : Nat → Nat} {m : CS} {mm : Nat → Int64} {b fo : Int} (hmm : h (ar 15) = some (eJ D 2 mm)) (hSy : Sy D x ar m L W t h) (ht : t ≤ 19000) (hk : k < L) (hb : 0 ≤ b ∧ b ≤ 5) (hfo : -1 ≤ fo ∧ fo ≤ 7000) (hFd : FdR m (rwM (m 4 0) (96 * k)) (m 5 0 k) fo) (hSn : ∀ z : Nat, z < 96 → (Ms mm z ↔ SnR m (rwM (m 4 0) (96 * k)) (m 5 0 k) z)) : MX l D A yL_tells wsL_tells { frames := 8, cells := 4, slots := 24, locals := 165 } [.ref x, vI ((k : Nat) : Int), vI b, vI fo, .ref (ar 15)] h (fun rv h' => rv = some (vI 1) ∧ Sy D x ar m L W (t + 3) h' ∧ Kp ar h h') := by
  refine MX.of (cc := cL_tells) (maxL := 9) (ret := (some .boolean)) [(0, .ref x), (1, vI ((k : Nat) : Int)), (2, vI b), (3, vI fo), (4, .ref (ar 15))] (by decide +kernel) rfl rfl (Nat.le_of_ble_eq_true rfl) ?_
  intro κ C hkl G
  subst hkl
  have C : CX κ "LedgeLevelsLaw" "tells" cL_tells wsL_tells { frames := 8, cells := 4, slots := 24, locals := 165 } D A 9 := C
  have hiz : nq (D.1 20) (D.1 21) := cx_iz C
  refine x_iconst C dL_tells_0 0 (by decide) ?_
  refine x_istore C (ls' := [(0, .ref x), (1, vI ((k : Nat) : Int)), (2, vI b), (3, vI fo), (4, .ref (ar 15)), (5, vI 0)]) dL_tells_1 (by decide) rfl ?_
  refine x_iconst C dL_tells_3 (-1) (by decide) ?_
  refine x_istore C (ls' := [(0, .ref x), (1, vI ((k : Nat) : Int)), (2, vI b), (3, vI fo), (4, .ref (ar 15)), (5, vI 0), (6, vI (-1))]) dL_tells_4 (by decide) rfl ?_
  refine x_iconst C dL_tells_6 0 (by decide) ?_
  refine x_istore C (ls' := [(0, .ref x), (1, vI ((k : Nat) : Int)), (2, vI b), (3, vI fo), (4, .ref (ar 15)), (5, vI 0), (6, vI (-1)), (7, vI 0)]) dL_tells_7 (by decide) rfl ?_
  have LP : ∀ (N : Nat) (many far : Int) (i : Nat)   (hi : i ≤ 96) (hN : 96 - i < N) (hmy : many = ((cntR (RM mm) i : Nat) : Int)) (hfr : frN (RM mm) i far), X κ 0 0 h [(0, .ref x), (1, vI ((k : Nat) : Int)), (2, vI b), (3, vI fo), (4, .ref (ar 15)), (5, vI many), (6, vI far), (7, vI ((i : Nat) : Int))] 9 [] := by
    intro N
    induction N with
    | zero => intro many far i hi hN hmy hfr; exfalso; omega
    | succ N ihLP =>
      intro many far i hi hN hmy hfr
      have hcl := cntR_le (RM mm) i
      have hfr9 := frN_r hfr
      have hcl2 := cntR_le (RM mm) (i + 1)
      refine x_iload C dL_tells_9 7 rfl ?_
      refine x_bipush C dL_tells_11 96 (by decide) ?_
      refine x_icmp_ge (tgt := 97) C dL_tells_13 (by decide) (by omega) (by omega) (fun c2 => ?_) (fun c2 => ?_)
      · skip
        have hi9 : i = 96 := by omega
        rw [hi9] at hmy hfr
        have hR1 : ∀ z : Nat, z < 96 → (RM mm z = 1 ↔ SnR m (rwM (m 4 0) (96 * k)) (m 5 0 k) z) := fun z hz => RM_1.trans (hSn z hz)
        have hR2 : ∀ z, z < 96 → 0 ≤ RM mm z ∧ RM mm z ≤ 1 := fun z _ => by rcases bI_01 (Ms mm z) with q9 | q9 <;> (unfold RM; rw [q9]; decide)
        have hcl3 := cntR_le (RM mm) 96
        have hfr3 := frN_r hfr
        refine x_aload_n C dL_tells_97 0 rfl ?_
        refine x_iload_n C dL_tells_98 1 rfl ?_
        obtain ⟨P9, X9, hM9, hX9, hP9⟩ := k_reach (l := kl κ) (A := A) hSy (u := k) hk (by omega) hR1 hR2
        obtain ⟨fs9, ho9⟩ := hSy.obj
        refine x_callVx C (n := 1) (qc := (RX7, TX7, 7)) (As := [vI ((k : Nat) : Int)]) (rest := []) hM9 gL_tells_X7_reach (by decide +kernel) ho9 rfl rfl rfl rfl (Nat.le_of_ble_eq_true rfl) ⟨by decide, by decide⟩ ⟨(by decide), (by decide)⟩ dL_tells_99 hX9 (fun rv9 h90 hp9 => ?_)
        obtain ⟨rfl, hS1, hK1⟩ := hP9 rv9 h90 hp9
        refine x_iload C dL_tells_102 5 rfl ?_
        refine x_icmp_ne (tgt := 140) C dL_tells_104 (by decide) (by omega) (by omega) (fun c3 => ?_) (fun c3 => ?_)
        · exfalso; omega
        · skip
          refine x_aload_n C dL_tells_107 0 rfl ?_
          refine x_iload_n C dL_tells_108 1 rfl ?_
          obtain ⟨P9, X9, hM9, hX9, hP9⟩ := k_farthest (l := kl κ) (A := A) hS1 (u := k) hk (by omega) hR1 hR2 (r2 := far) hfr
          obtain ⟨fs9, ho9⟩ := hS1.obj
          refine x_callVx C (n := 1) (qc := (RX7, TX7, 7)) (As := [vI ((k : Nat) : Int)]) (rest := []) hM9 gL_tells_X7_farthest (by decide +kernel) ho9 rfl rfl rfl rfl (Nat.le_of_ble_eq_true rfl) ⟨by decide, by decide⟩ ⟨(by decide), (by decide)⟩ dL_tells_109 hX9 (fun rv9 h91 hp9 => ?_)
          obtain ⟨rfl, hS2, hK2⟩ := hP9 rv9 h91 hp9
          refine x_iload C dL_tells_112 6 rfl ?_
          refine x_icmp_ne (tgt := 140) C dL_tells_114 (by decide) (by omega) (by omega) (fun c4 => ?_) (fun c4 => ?_)
          · exfalso; omega
          · skip
            obtain ⟨sh9, hsh9⟩ : ∃ sh9 : Int, sh9 = (if fo ≤ b then fo else -1) := ⟨_, rfl⟩
            have hsh8 : (fo ≤ b ∧ sh9 = fo) ∨ (¬ fo ≤ b ∧ sh9 = -1) := by
              rw [hsh9]
              by_cases q9 : fo ≤ b
              · rw [if_pos q9]; exact Or.inl ⟨q9, rfl⟩
              · rw [if_neg q9]; exact Or.inr ⟨q9, rfl⟩
            refine x_aload_n C dL_tells_117 0 rfl ?_
            refine x_iload_n C dL_tells_118 1 rfl ?_
            refine x_iload_n C dL_tells_119 2 rfl ?_
            obtain ⟨P9, X9, hM9, hX9, hP9⟩ := k_shortest (l := kl κ) (A := A) hS2 (u := k) (r := fo) (b := b) hk (by omega) hb hFd
            obtain ⟨fs9, ho9⟩ := hS2.obj
            refine x_callVx C (n := 2) (qc := (RX7, TX7, 7)) (As := [vI ((k : Nat) : Int), vI b]) (rest := []) hM9 gL_tells_X7_shortest (by decide +kernel) ho9 rfl rfl rfl rfl (Nat.le_of_ble_eq_true rfl) ⟨by decide, by decide⟩ ⟨(by decide), (by decide)⟩ dL_tells_120 hX9 (fun rv9 h92 hp9 => ?_)
            obtain ⟨rfl, hS3, hK3⟩ := hP9 rv9 h92 hp9
            refine x_topv (show (if fo ≤ b then fo else -1) = sh9 from by rw [hsh9]) ?_
            refine x_iload_n C dL_tells_123 3 rfl ?_
            refine x_iload_n C dL_tells_124 2 rfl ?_
            refine x_icmp_gt (tgt := 132) C dL_tells_125 (by decide) (by omega) (by omega) (fun c5 => ?_) (fun c5 => ?_)
            · skip
              refine x_iconst C dL_tells_132 (-1) (by decide) ?_
              refine x_icmp_ne (tgt := 140) C dL_tells_133 (by decide) (by omega) (by omega) (fun c6 => ?_) (fun c6 => ?_)
              · exfalso; omega
              · skip
                refine x_iconst C dL_tells_136 1 (by decide) ?_
                refine x_goto (tgt := 141) C dL_tells_137 (by decide) ?_
                refine x_zret C G dL_tells_141 (by first | exact Or.inl rfl | exact Or.inr rfl) ?_ (by decide) (by decide)
                exact ⟨rfl, hS3, (hK1.tr hK2).tr hK3⟩
            · skip
              refine x_iload_n C dL_tells_128 3 rfl ?_
              refine x_goto (tgt := 133) C dL_tells_129 (by decide) ?_
              refine x_icmp_ne (tgt := 140) C dL_tells_133 (by decide) (by omega) (by omega) (fun c7 => ?_) (fun c7 => ?_)
              · exfalso; omega
              · skip
                refine x_iconst C dL_tells_136 1 (by decide) ?_
                refine x_goto (tgt := 141) C dL_tells_137 (by decide) ?_
                refine x_zret C G dL_tells_141 (by first | exact Or.inl rfl | exact Or.inr rfl) ?_ (by decide) (by decide)
                exact ⟨rfl, hS3, (hK1.tr hK2).tr hK3⟩
      · skip
        have C6 : ∀ (its : Int)   (hits : (its = 1 ∧ ¬ RM mm i = 0) ∨ (its = 0 ∧ RM mm i = 0)) (hi96 : i < 96), X κ 0 0 h [(0, .ref x), (1, vI ((k : Nat) : Int)), (2, vI b), (3, vI fo), (4, .ref (ar 15)), (5, vI (((cntR (RM mm) (i + 1) : Nat) : Int))), (6, vI far), (7, vI ((i : Nat) : Int)), (8, vI its)] 59 [] := by
          intro its hits hi96
          refine x_iload C dL_tells_59 8 rfl ?_
          refine x_if_eq (tgt := 87) C dL_tells_61 (by decide) (by omega) (fun c9 => ?_) (fun c9 => ?_)
          · skip
            refine x_iload C dL_tells_87 6 rfl ?_
            refine x_istore C (ls' := [(0, .ref x), (1, vI ((k : Nat) : Int)), (2, vI b), (3, vI fo), (4, .ref (ar 15)), (5, vI (((cntR (RM mm) (i + 1) : Nat) : Int))), (6, vI far), (7, vI ((i : Nat) : Int)), (8, vI its)]) dL_tells_89 (by decide) rfl ?_
            refine x_iinc C (x := ((i : Nat) : Int)) (ls' := [(0, .ref x), (1, vI ((k : Nat) : Int)), (2, vI b), (3, vI fo), (4, .ref (ar 15)), (5, vI (((cntR (RM mm) (i + 1) : Nat) : Int))), (6, vI far), (7, vI ((((i : Nat) : Int)) + 1)), (8, vI its)]) dL_tells_91 7 rfl (by decide) rfl ?_
            refine x_goto (tgt := 9) C dL_tells_94 (by decide) ?_
            refine x_sub [0, 1, 2, 3, 4, 5, 6, 7] (ls' := [(0, .ref x), (1, vI ((k : Nat) : Int)), (2, vI b), (3, vI fo), (4, .ref (ar 15)), (5, vI (((cntR (RM mm) (i + 1) : Nat) : Int))), (6, vI far), (7, vI ((((i : Nat) : Int)) + 1))]) rfl ?_
            exact ihLP (((cntR (RM mm) (i + 1) : Nat) : Int)) far (i + 1) (by omega) (by omega) (rfl) (by first | exact frN_keep hfr (Or.inl (by omega)) | exact frN_set hfr (by omega) (Or.inl (by omega)) | exact frN_set hfr (by omega) (Or.inr (by omega)) | exact frN_keep hfr (Or.inr ⟨by omega, by omega⟩))
          · skip
            refine x_iload C dL_tells_64 6 rfl ?_
            refine x_if_lt (tgt := 82) C dL_tells_66 (by decide) (by omega) (fun c10 => ?_) (fun c10 => ?_)
            · skip
              refine x_iload C dL_tells_82 7 rfl ?_
              refine x_goto (tgt := 89) C dL_tells_84 (by decide) ?_
              refine x_istore C (ls' := [(0, .ref x), (1, vI ((k : Nat) : Int)), (2, vI b), (3, vI fo), (4, .ref (ar 15)), (5, vI (((cntR (RM mm) (i + 1) : Nat) : Int))), (6, vI ((i : Nat) : Int)), (7, vI ((i : Nat) : Int)), (8, vI its)]) dL_tells_89 (by decide) rfl ?_
              refine x_iinc C (x := ((i : Nat) : Int)) (ls' := [(0, .ref x), (1, vI ((k : Nat) : Int)), (2, vI b), (3, vI fo), (4, .ref (ar 15)), (5, vI (((cntR (RM mm) (i + 1) : Nat) : Int))), (6, vI ((i : Nat) : Int)), (7, vI ((((i : Nat) : Int)) + 1)), (8, vI its)]) dL_tells_91 7 rfl (by decide) rfl ?_
              refine x_goto (tgt := 9) C dL_tells_94 (by decide) ?_
              refine x_sub [0, 1, 2, 3, 4, 5, 6, 7] (ls' := [(0, .ref x), (1, vI ((k : Nat) : Int)), (2, vI b), (3, vI fo), (4, .ref (ar 15)), (5, vI (((cntR (RM mm) (i + 1) : Nat) : Int))), (6, vI ((i : Nat) : Int)), (7, vI ((((i : Nat) : Int)) + 1))]) rfl ?_
              exact ihLP (((cntR (RM mm) (i + 1) : Nat) : Int)) (((i : Nat) : Int)) (i + 1) (by omega) (by omega) (rfl) (by first | exact frN_keep hfr (Or.inl (by omega)) | exact frN_set hfr (by omega) (Or.inl (by omega)) | exact frN_set hfr (by omega) (Or.inr (by omega)) | exact frN_keep hfr (Or.inr ⟨by omega, by omega⟩))
            · skip
              refine x_iload C dL_tells_69 7 rfl ?_
              refine x_bipush C dL_tells_71 12 (by decide) ?_
              refine x_irem C dL_tells_73 (by omega) (by omega) (by omega) (by omega) ?_
              refine x_iload C dL_tells_74 6 rfl ?_
              refine x_bipush C dL_tells_76 12 (by decide) ?_
              refine x_irem C dL_tells_78 (by omega) (by omega) (by omega) (by omega) ?_
              refine x_icmp_le (tgt := 87) C dL_tells_79 (by decide) (by omega) (by omega) (fun c11 => ?_) (fun c11 => ?_)
              · skip
                refine x_iload C dL_tells_87 6 rfl ?_
                refine x_istore C (ls' := [(0, .ref x), (1, vI ((k : Nat) : Int)), (2, vI b), (3, vI fo), (4, .ref (ar 15)), (5, vI (((cntR (RM mm) (i + 1) : Nat) : Int))), (6, vI far), (7, vI ((i : Nat) : Int)), (8, vI its)]) dL_tells_89 (by decide) rfl ?_
                refine x_iinc C (x := ((i : Nat) : Int)) (ls' := [(0, .ref x), (1, vI ((k : Nat) : Int)), (2, vI b), (3, vI fo), (4, .ref (ar 15)), (5, vI (((cntR (RM mm) (i + 1) : Nat) : Int))), (6, vI far), (7, vI ((((i : Nat) : Int)) + 1)), (8, vI its)]) dL_tells_91 7 rfl (by decide) rfl ?_
                refine x_goto (tgt := 9) C dL_tells_94 (by decide) ?_
                refine x_sub [0, 1, 2, 3, 4, 5, 6, 7] (ls' := [(0, .ref x), (1, vI ((k : Nat) : Int)), (2, vI b), (3, vI fo), (4, .ref (ar 15)), (5, vI (((cntR (RM mm) (i + 1) : Nat) : Int))), (6, vI far), (7, vI ((((i : Nat) : Int)) + 1))]) rfl ?_
                exact ihLP (((cntR (RM mm) (i + 1) : Nat) : Int)) far (i + 1) (by omega) (by omega) (rfl) (by first | exact frN_keep hfr (Or.inl (by omega)) | exact frN_set hfr (by omega) (Or.inl (by omega)) | exact frN_set hfr (by omega) (Or.inr (by omega)) | exact frN_keep hfr (Or.inr ⟨by omega, by omega⟩))
              · skip
                refine x_iload C dL_tells_82 7 rfl ?_
                refine x_goto (tgt := 89) C dL_tells_84 (by decide) ?_
                refine x_istore C (ls' := [(0, .ref x), (1, vI ((k : Nat) : Int)), (2, vI b), (3, vI fo), (4, .ref (ar 15)), (5, vI (((cntR (RM mm) (i + 1) : Nat) : Int))), (6, vI ((i : Nat) : Int)), (7, vI ((i : Nat) : Int)), (8, vI its)]) dL_tells_89 (by decide) rfl ?_
                refine x_iinc C (x := ((i : Nat) : Int)) (ls' := [(0, .ref x), (1, vI ((k : Nat) : Int)), (2, vI b), (3, vI fo), (4, .ref (ar 15)), (5, vI (((cntR (RM mm) (i + 1) : Nat) : Int))), (6, vI ((i : Nat) : Int)), (7, vI ((((i : Nat) : Int)) + 1)), (8, vI its)]) dL_tells_91 7 rfl (by decide) rfl ?_
                refine x_goto (tgt := 9) C dL_tells_94 (by decide) ?_
                refine x_sub [0, 1, 2, 3, 4, 5, 6, 7] (ls' := [(0, .ref x), (1, vI ((k : Nat) : Int)), (2, vI b), (3, vI fo), (4, .ref (ar 15)), (5, vI (((cntR (RM mm) (i + 1) : Nat) : Int))), (6, vI ((i : Nat) : Int)), (7, vI ((((i : Nat) : Int)) + 1))]) rfl ?_
                exact ihLP (((cntR (RM mm) (i + 1) : Nat) : Int)) (((i : Nat) : Int)) (i + 1) (by omega) (by omega) (rfl) (by first | exact frN_keep hfr (Or.inl (by omega)) | exact frN_set hfr (by omega) (Or.inl (by omega)) | exact frN_set hfr (by omega) (Or.inr (by omega)) | exact frN_keep hfr (Or.inr ⟨by omega, by omega⟩))
        have C5 : ∀ (its : Int)   (hits : (its = 1 ∧ ¬ RM mm i = 0) ∨ (its = 0 ∧ RM mm i = 0)) (hi96 : i < 96), X κ 0 0 h [(0, .ref x), (1, vI ((k : Nat) : Int)), (2, vI b), (3, vI fo), (4, .ref (ar 15)), (5, vI many), (6, vI far), (7, vI ((i : Nat) : Int)), (8, vI its)] 44 [] := by
          intro its hits hi96
          refine x_iload C dL_tells_44 5 rfl ?_
          refine x_iload C dL_tells_46 8 rfl ?_
          refine x_if_eq (tgt := 55) C dL_tells_48 (by decide) (by omega) (fun c13 => ?_) (fun c13 => ?_)
          · skip
            refine x_iconst C dL_tells_55 0 (by decide) ?_
            refine x_iadd C dL_tells_56 ?_
            refine x_topv (show many + 0 = ((cntR (RM mm) (i + 1) : Nat) : Int) from by first | (rw [cntR_f (by omega)]; omega) | (rw [cntR_t (by omega)]; omega)) ?_
            refine x_istore C (ls' := [(0, .ref x), (1, vI ((k : Nat) : Int)), (2, vI b), (3, vI fo), (4, .ref (ar 15)), (5, vI (((cntR (RM mm) (i + 1) : Nat) : Int))), (6, vI far), (7, vI ((i : Nat) : Int)), (8, vI its)]) dL_tells_57 (by decide) rfl ?_
            exact C6 its (hits) (hi96)
          · skip
            refine x_iconst C dL_tells_51 1 (by decide) ?_
            refine x_goto (tgt := 56) C dL_tells_52 (by decide) ?_
            refine x_iadd C dL_tells_56 ?_
            refine x_topv (show many + 1 = ((cntR (RM mm) (i + 1) : Nat) : Int) from by first | (rw [cntR_f (by omega)]; omega) | (rw [cntR_t (by omega)]; omega)) ?_
            refine x_istore C (ls' := [(0, .ref x), (1, vI ((k : Nat) : Int)), (2, vI b), (3, vI fo), (4, .ref (ar 15)), (5, vI (((cntR (RM mm) (i + 1) : Nat) : Int))), (6, vI far), (7, vI ((i : Nat) : Int)), (8, vI its)]) dL_tells_57 (by decide) rfl ?_
            exact C6 its (hits) (hi96)
        refine x_aload C dL_tells_16 4 rfl ?_
        refine x_iload C dL_tells_18 7 rfl ?_
        refine x_bipush C dL_tells_20 48 (by decide) ?_
        refine x_idiv C dL_tells_22 (by omega) (by omega) (by omega) (by omega) ?_
        refine x_topv (show (((i : Nat) : Int)) / 48 = ((i / 48 : Nat) : Int) from by omega) ?_
        refine x_lald C hmm ⟨by omega, by omega⟩ (by decide) dL_tells_23 ?_
        refine x_iload C dL_tells_24 7 rfl ?_
        refine x_bipush C dL_tells_26 48 (by decide) ?_
        refine x_irem C dL_tells_28 (by omega) (by omega) (by omega) (by omega) ?_
        refine x_topv (show (((i : Nat) : Int)) % 48 = ((i % 48 : Nat) : Int) from by omega) ?_
        refine x_lshr C dL_tells_29 ?_
        refine x_lconst C (v := 1) dL_tells_30 rfl ?_
        refine x_land C dL_tells_31 ?_
        refine x_topl (fun x14 ex15 => ?_)
        have hg9 := RM_g (mm := mm) (z := i)
        rw [show lsr (mm (i / 48)) ((i % 48 : Nat) : Int) &&& 1 = x14 from ex15.symm] at hg9
        refine x_lconst C (v := 1) dL_tells_32 rfl ?_
        refine x_lcmp_ne (tgt := 41) C dL_tells_33 dL_tells_34 (by decide) (fun c16 => ?_) (fun c16 => ?_)
        · skip
          have hz9 : RM mm i = 0 := RM_0.mpr (hg9.elim (fun q9 => absurd q9.1 c16) (fun q9 => q9.2))
          refine x_iconst C dL_tells_41 0 (by decide) ?_
          refine x_istore C (ls' := [(0, .ref x), (1, vI ((k : Nat) : Int)), (2, vI b), (3, vI fo), (4, .ref (ar 15)), (5, vI many), (6, vI far), (7, vI ((i : Nat) : Int)), (8, vI 0)]) dL_tells_42 (by decide) rfl ?_
          exact C5 0 (by first | exact Or.inl ⟨rfl, hz9⟩ | exact Or.inr ⟨rfl, hz9⟩) (by omega)
        · skip
          have hz9 : ¬ RM mm i = 0 := fun q9 => (RM_0.mp q9) (hg9.elim (fun y9 => y9.2) (fun y9 => by have y8 := y9.1; rw [c16] at y8; exact absurd y8 (by decide)))
          refine x_iconst C dL_tells_37 1 (by decide) ?_
          refine x_goto (tgt := 42) C dL_tells_38 (by decide) ?_
          refine x_istore C (ls' := [(0, .ref x), (1, vI ((k : Nat) : Int)), (2, vI b), (3, vI fo), (4, .ref (ar 15)), (5, vI many), (6, vI far), (7, vI ((i : Nat) : Int)), (8, vI 1)]) dL_tells_42 (by decide) rfl ?_
          exact C5 1 (by first | exact Or.inl ⟨rfl, hz9⟩ | exact Or.inr ⟨rfl, hz9⟩) (by omega)
  exact LP (97) 0 ((-1)) 0 (by omega) (by omega) (rfl) (Or.inl ⟨rfl, fun c hc => absurd hc (Nat.not_lt_zero _)⟩)


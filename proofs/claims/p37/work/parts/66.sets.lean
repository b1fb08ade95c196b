set_option maxRecDepth 100000 in
set_option maxHeartbeats 1000000 in
theorem c_L_marks {l : Launch} {D : va_G} {A : Nat → Prop} {h : vh} {b : Int} {loA hiA n : Nat} {lo hi : Nat → Int64} (hlo : h loA = some (eJ D 64 lo)) (hhi : h hiA = some (eJ D 64 hi)) (hn : n < 6144) (hb : b = ((n / 64 : Nat) : Int) + 128 * ((n % 64 / 8 : Nat) : Int) + 1024 * ((n % 8 : Nat) : Int)) (hne : nq loA hiA) : MX l D A yL_marks wsL_marks { frames := 0, cells := 0, slots := 0, locals := 0 } [vI b, .ref loA, .ref hiA] h (fun rv h' => rv = none ∧ h' = hu (hu h loA (eJ D 64 (mkL lo n))) hiA (eJ D 64 (mkH hi n))) := by
  refine MX.of (cc := cL_marks) (maxL := 5) (ret := none) [(0, vI b), (1, .ref loA), (2, .ref hiA)] (by decide +kernel) rfl rfl (Nat.le_of_ble_eq_true rfl) ?_
  intro κ C hkl G
  subst hkl
  have C : CX κ "LedgeLevelsLaw" "marks" cL_marks wsL_marks { frames := 0, cells := 0, slots := 0, locals := 0 } D A 5 := C
  have hiz : nq (D.1 20) (D.1 21) := cx_iz C
  have hb9 : b / 128 = ((n % 64 / 8 : Nat) : Int) + 8 * ((n % 8 : Nat) : Int) := by omega
  have hy9 : n % 64 % 8 = n % 8 := by omega
  have hr9 : n % 64 < 64 := by omega
  refine x_iload_n C dL_marks_0 0 rfl ?_
  refine x_sipush C dL_marks_1 128 (by decide) ?_
  refine x_irem C dL_marks_4 (by omega) (by omega) (by omega) (by omega) ?_
  refine x_topv (show b % 128 = ((n / 64 : Nat) : Int) from by omega) ?_
  refine x_istore_n C (ls' := [(0, vI b), (1, .ref loA), (2, .ref hiA), (3, vI ((n / 64 : Nat) : Int))]) dL_marks_5 (by decide) rfl ?_
  refine x_iload_n C dL_marks_6 0 rfl ?_
  refine x_sipush C dL_marks_7 128 (by decide) ?_
  refine x_idiv C dL_marks_10 (by omega) (by omega) (by omega) (by omega) ?_
  refine x_bipush C dL_marks_11 64 (by decide) ?_
  refine x_irem C dL_marks_13 (by omega) (by omega) (by omega) (by omega) ?_
  refine x_topv (show (b / 128) % 64 = ((n % 64 / 8 + 8 * (n % 8) : Nat) : Int) from by rw [hb9]; omega) ?_
  refine x_istore C (ls' := [(0, vI b), (1, .ref loA), (2, .ref hiA), (3, vI ((n / 64 : Nat) : Int)), (4, vI ((n % 64 / 8 + 8 * (n % 8) : Nat) : Int))]) dL_marks_14 (by decide) rfl ?_
  refine x_iload C dL_marks_16 4 rfl ?_
  refine x_bipush C dL_marks_18 8 (by decide) ?_
  refine x_irem C dL_marks_20 (by omega) (by omega) (by omega) (by omega) ?_
  refine x_bipush C dL_marks_21 8 (by decide) ?_
  refine x_imul C dL_marks_23 ?_
  refine x_iload C dL_marks_24 4 rfl ?_
  refine x_bipush C dL_marks_26 8 (by decide) ?_
  refine x_idiv C dL_marks_28 (by omega) (by omega) (by omega) (by omega) ?_
  refine x_iadd C dL_marks_29 ?_
  refine x_topv (show (((((n % 64 / 8 + 8 * (n % 8) : Nat) : Int)) % 8) * 8) + ((((n % 64 / 8 + 8 * (n % 8) : Nat) : Int)) / 8) = ((n % 64 : Nat) : Int) from by omega) ?_
  refine x_istore C (ls' := [(0, vI b), (1, .ref loA), (2, .ref hiA), (3, vI ((n / 64 : Nat) : Int)), (4, vI ((n % 64 : Nat) : Int))]) dL_marks_30 (by decide) rfl ?_
  refine x_aload_n C dL_marks_32 1 rfl ?_
  refine x_iload C dL_marks_33 4 rfl ?_
  refine x_dup2 C dL_marks_35 rfl rfl ?_
  refine x_lald C hlo ⟨by omega, by omega⟩ (by decide) dL_marks_36 ?_
  refine x_iload_n C dL_marks_37 3 rfl ?_
  refine x_bipush C dL_marks_38 48 (by decide) ?_
  refine x_icmp_ge (tgt := 49) C dL_marks_40 (by decide) (by omega) (by omega) (fun c1 => ?_) (fun c1 => ?_)
  · skip
    refine x_lconst C (v := 0) dL_marks_49 rfl ?_
    refine x_lor C dL_marks_50 ?_
    refine x_last C hlo ⟨by omega, by omega⟩ (by decide) dL_marks_51 (x_hn (fun h2 e3 => ?_))
    have f4 : h2 loA = some (eJ D 64 (vp_updL lo (Int.toNat (((n % 64 : Nat) : Int))) ((lo (Int.toNat (((n % 64 : Nat) : Int)))) ||| 0))) := by rw [e3]; exact hu_s
    refine x_aload_n C dL_marks_52 2 rfl ?_
    refine x_iload C dL_marks_53 4 rfl ?_
    refine x_dup2 C dL_marks_55 rfl rfl ?_
    have f5 : h2 hiA = some (eJ D 64 hi) := by rw [e3, hu_n (Ne.symm hne)]; exact hhi
    refine x_lald C f5 ⟨by omega, by omega⟩ (by decide) dL_marks_56 ?_
    refine x_iload_n C dL_marks_57 3 rfl ?_
    refine x_bipush C dL_marks_58 48 (by decide) ?_
    refine x_icmp_ge (tgt := 67) C dL_marks_60 (by decide) (by omega) (by omega) (fun c6 => ?_) (fun c6 => ?_)
    · skip
      refine x_lconst C (v := 1) dL_marks_67 rfl ?_
      refine x_iload_n C dL_marks_68 3 rfl ?_
      refine x_bipush C dL_marks_69 48 (by decide) ?_
      refine x_isub C dL_marks_71 ?_
      refine x_topv (show (((n / 64 : Nat) : Int)) - 48 = ((n / 64 - 48 : Nat) : Int) from by omega) ?_
      refine x_lshl C dL_marks_72 ?_
      refine x_lor C dL_marks_73 ?_
      refine x_last C f5 ⟨by omega, by omega⟩ (by decide) dL_marks_74 (x_hn (fun h7 e8 => ?_))
      have f9 : h7 hiA = some (eJ D 64 (vp_updL hi (Int.toNat (((n % 64 : Nat) : Int))) ((hi (Int.toNat (((n % 64 : Nat) : Int)))) ||| (lsl 1 (((n / 64 - 48 : Nat) : Int)))))) := by rw [e8]; exact hu_s
      refine x_vret C G dL_marks_75 ?_ (by decide) (by decide)
      first
        | (exfalso; omega)
        | exact ⟨rfl, by rw [e8, e3]; unfold mkL mkH; rw [if_pos (show n / 64 < 48 by omega), if_pos (show n / 64 < 48 by omega)]; rfl⟩
        | exact ⟨rfl, by rw [e8, e3]; unfold mkL mkH; rw [if_neg (show ¬ n / 64 < 48 by omega), if_neg (show ¬ n / 64 < 48 by omega)]; rfl⟩
    · skip
      refine x_lconst C (v := 0) dL_marks_63 rfl ?_
      refine x_goto (tgt := 73) C dL_marks_64 (by decide) ?_
      refine x_lor C dL_marks_73 ?_
      refine x_last C f5 ⟨by omega, by omega⟩ (by decide) dL_marks_74 (x_hn (fun h10 e11 => ?_))
      have f12 : h10 hiA = some (eJ D 64 (vp_updL hi (Int.toNat (((n % 64 : Nat) : Int))) ((hi (Int.toNat (((n % 64 : Nat) : Int)))) ||| 0))) := by rw [e11]; exact hu_s
      refine x_vret C G dL_marks_75 ?_ (by decide) (by decide)
      first
        | (exfalso; omega)
        | exact ⟨rfl, by rw [e11, e3]; unfold mkL mkH; rw [if_pos (show n / 64 < 48 by omega), if_pos (show n / 64 < 48 by omega)]; rfl⟩
        | exact ⟨rfl, by rw [e11, e3]; unfold mkL mkH; rw [if_neg (show ¬ n / 64 < 48 by omega), if_neg (show ¬ n / 64 < 48 by omega)]; rfl⟩
  · skip
    refine x_lconst C (v := 1) dL_marks_43 rfl ?_
    refine x_iload_n C dL_marks_44 3 rfl ?_
    refine x_lshl C dL_marks_45 ?_
    refine x_goto (tgt := 50) C dL_marks_46 (by decide) ?_
    refine x_lor C dL_marks_50 ?_
    refine x_last C hlo ⟨by omega, by omega⟩ (by decide) dL_marks_51 (x_hn (fun h13 e14 => ?_))
    have f15 : h13 loA = some (eJ D 64 (vp_updL lo (Int.toNat (((n % 64 : Nat) : Int))) ((lo (Int.toNat (((n % 64 : Nat) : Int)))) ||| (lsl 1 (((n / 64 : Nat) : Int)))))) := by rw [e14]; exact hu_s
    refine x_aload_n C dL_marks_52 2 rfl ?_
    refine x_iload C dL_marks_53 4 rfl ?_
    refine x_dup2 C dL_marks_55 rfl rfl ?_
    have f16 : h13 hiA = some (eJ D 64 hi) := by rw [e14, hu_n (Ne.symm hne)]; exact hhi
    refine x_lald C f16 ⟨by omega, by omega⟩ (by decide) dL_marks_56 ?_
    refine x_iload_n C dL_marks_57 3 rfl ?_
    refine x_bipush C dL_marks_58 48 (by decide) ?_
    refine x_icmp_ge (tgt := 67) C dL_marks_60 (by decide) (by omega) (by omega) (fun c17 => ?_) (fun c17 => ?_)
    · skip
      refine x_lconst C (v := 1) dL_marks_67 rfl ?_
      refine x_iload_n C dL_marks_68 3 rfl ?_
      refine x_bipush C dL_marks_69 48 (by decide) ?_
      refine x_isub C dL_marks_71 ?_
      refine x_topv (show (((n / 64 : Nat) : Int)) - 48 = ((n / 64 - 48 : Nat) : Int) from by omega) ?_
      refine x_lshl C dL_marks_72 ?_
      refine x_lor C dL_marks_73 ?_
      refine x_last C f16 ⟨by omega, by omega⟩ (by decide) dL_marks_74 (x_hn (fun h18 e19 => ?_))
      have f20 : h18 hiA = some (eJ D 64 (vp_updL hi (Int.toNat (((n % 64 : Nat) : Int))) ((hi (Int.toNat (((n % 64 : Nat) : Int)))) ||| (lsl 1 (((n / 64 - 48 : Nat) : Int)))))) := by rw [e19]; exact hu_s
      refine x_vret C G dL_marks_75 ?_ (by decide) (by decide)
      first
        | (exfalso; omega)
        | exact ⟨rfl, by rw [e19, e14]; unfold mkL mkH; rw [if_pos (show n / 64 < 48 by omega), if_pos (show n / 64 < 48 by omega)]; rfl⟩
        | exact ⟨rfl, by rw [e19, e14]; unfold mkL mkH; rw [if_neg (show ¬ n / 64 < 48 by omega), if_neg (show ¬ n / 64 < 48 by omega)]; rfl⟩
    · skip
      refine x_lconst C (v := 0) dL_marks_63 rfl ?_
      refine x_goto (tgt := 73) C dL_marks_64 (by decide) ?_
      refine x_lor C dL_marks_73 ?_
      refine x_last C f16 ⟨by omega, by omega⟩ (by decide) dL_marks_74 (x_hn (fun h21 e22 => ?_))
      have f23 : h21 hiA = some (eJ D 64 (vp_updL hi (Int.toNat (((n % 64 : Nat) : Int))) ((hi (Int.toNat (((n % 64 : Nat) : Int)))) ||| 0))) := by rw [e22]; exact hu_s
      refine x_vret C G dL_marks_75 ?_ (by decide) (by decide)
      first
        | (exfalso; omega)
        | exact ⟨rfl, by rw [e22, e14]; unfold mkL mkH; rw [if_pos (show n / 64 < 48 by omega), if_pos (show n / 64 < 48 by omega)]; rfl⟩
        | exact ⟨rfl, by rw [e22, e14]; unfold mkL mkH; rw [if_neg (show ¬ n / 64 < 48 by omega), if_neg (show ¬ n / 64 < 48 by omega)]; rfl⟩

theorem TT_e {f : Nat → Int} {B : Int → Nat} {al : Nat} {S : Nat → Int} {now k i : Nat} (hk : k < 64) : TTr f B al S (64 * now + k) i = mv f B al S ((i : Nat) : Int) ((now : Nat) : Int) (((k / 8 : Nat) : Int) - 4) (k % 8) := by
  unfold TTr
  rw [show (64 * now + k) / 64 = now by omega, show (64 * now + k) / 8 % 8 = k / 8 by omega, show (64 * now + k) % 8 = k % 8 by omega]
/-- a body has taken the key of its own cell -/
def GB (f : Nat → Int) (n : Nat) : Prop := n % 8 ||| kbr f (fun _ => 0) ((n / 64 : Nat) : Int) = n % 8

theorem kL_spreads_0 : Cond.constant "LedgeLevelsLaw" 54 (32768) ∈ wsL_spreads := by decide +kernel
set_option maxRecDepth 100000 in
set_option maxHeartbeats 1000000 in
theorem c_L_spreads {l : Launch} {D : va_G} {A : Nat → Prop} {h : vh} {gA qA cA dA eA fA mA : Nat} {g c d e f m : Nat → Int64} {q S : Nat → Int} {o : Int} {al : Nat} (hg : h gA = some (eJ D 60 g)) (hq : h qA = some (eI D 5 q)) (hc : h cA = some (eJ D 64 c)) (hd : h dA = some (eJ D 64 d)) (he : h eA = some (eJ D 64 e)) (hf : h fA = some (eJ D 64 f)) (hm : h mA = some (eJ D 2 m)) (ha : al = (lyA (gk g o.toNat) 96)) (ho : 0 ≤ o ∧ o ≤ 54) (hS : ∀ j : Nat, j < 3 → S j = q (j + 2)) (rS : ∀ j, 0 ≤ S j ∧ S j ≤ 4) (hA : (lyA (gk g o.toNat) 96) ≤ 7) (hf8 : ∀ z, 0 ≤ gk g o.toNat z ∧ gk g o.toNat z ≤ 8) (nce : nq cA eA) (ncf : nq cA fA) (nde : nq dA eA) (ndf : nq dA fA) (nef : nq eA fA) (hgd : ∀ n, n < 6144 → Mk c d n → GB (gk g o.toNat) n) : MX l D A yL_spreads wsL_spreads { frames := 4, cells := 0, slots := 0, locals := 108 } [vI ((al : Nat) : Int), vI o, .ref qA, .ref gA, .ref cA, .ref dA, .ref eA, .ref fA, .ref mA] h (fun rv h' => ∃ (e1 f1 m1 : Nat → Int64) (w1 : Int), rv = some (vI w1) ∧ h' = hu (hu (hu h eA (eJ D 64 e1)) fA (eJ D 64 f1)) mA (eJ D 2 m1) ∧ (SPI (TTr (gk g o.toNat) (kbr (gk g o.toNat) (fun _ => 0)) al S) c d e f m 64 0 0 e1 f1 m1 w1)) := by
  refine MX.of (cc := cL_spreads) (maxL := 17) (ret := (some .boolean)) [(0, vI ((al : Nat) : Int)), (1, vI o), (2, .ref qA), (3, .ref gA), (4, .ref cA), (5, .ref dA), (6, .ref eA), (7, .ref fA), (8, .ref mA)] (by decide +kernel) rfl rfl (Nat.le_of_ble_eq_true rfl) ?_
  intro κ C hkl G
  subst hkl
  have C : CX κ "LedgeLevelsLaw" "spreads" cL_spreads wsL_spreads { frames := 4, cells := 0, slots := 0, locals := 108 } D A 17 := C
  have hiz : nq (D.1 20) (D.1 21) := cx_iz C
  refine x_iconst C dL_spreads_0 0 (by decide) ?_
  refine x_istore C (ls' := [(0, vI ((al : Nat) : Int)), (1, vI o), (2, .ref qA), (3, .ref gA), (4, .ref cA), (5, .ref dA), (6, .ref eA), (7, .ref fA), (8, .ref mA), (9, vI 0)]) dL_spreads_1 (by decide) rfl ?_
  refine x_iconst C dL_spreads_3 0 (by decide) ?_
  refine x_istore C (ls' := [(0, vI ((al : Nat) : Int)), (1, vI o), (2, .ref qA), (3, .ref gA), (4, .ref cA), (5, .ref dA), (6, .ref eA), (7, .ref fA), (8, .ref mA), (9, vI 0), (10, vI 0)]) dL_spreads_4 (by decide) rfl ?_
  have KL : ∀ (N : Nat) (k : Nat) (e2 f2 m2 : Nat → Int64) (w2 : Int) (h1 : vh)  (u2g : h1 gA = some (eJ D 60 g)) (u2q : h1 qA = some (eI D 5 q)) (u2c : h1 cA = some (eJ D 64 c)) (u2d : h1 dA = some (eJ D 64 d)) (u2e : h1 eA = some (eJ D 64 e2)) (u2f : h1 fA = some (eJ D 64 f2)) (u2m : h1 mA = some (eJ D 2 m2)) (hk : k ≤ 64) (hN : 64 - k < N) (hI2 : SPI (TTr (gk g o.toNat) (kbr (gk g o.toNat) (fun _ => 0)) al S) c d e f m k 0 0 e2 f2 m2 w2) (hw2 : w2 = 0 ∨ w2 = 1) (hfr : ∀ b9, b9 ≠ eA → b9 ≠ fA → b9 ≠ mA → h1 b9 = h b9), X κ 0 0 h1 [(0, vI ((al : Nat) : Int)), (1, vI o), (2, .ref qA), (3, .ref gA), (4, .ref cA), (5, .ref dA), (6, .ref eA), (7, .ref fA), (8, .ref mA), (9, vI w2), (10, vI ((k : Nat) : Int))] 6 [] := by
    intro N
    induction N with
    | zero => intro k e2 f2 m2 w2 h1 u2g u2q u2c u2d u2e u2f u2m hk hN hI2 hw2 hfr; exfalso; omega
    | succ N ihKL =>
      intro k e2 f2 m2 w2 h1 u2g u2q u2c u2d u2e u2f u2m hk hN hI2 hw2 hfr
      refine x_iload C dL_spreads_6 10 rfl ?_
      refine x_bipush C dL_spreads_8 64 (by decide) ?_
      refine x_icmp_ge (tgt := 203) C dL_spreads_10 (by decide) (by omega) (by omega) (fun c2 => ?_) (fun c2 => ?_)
      · skip
        refine x_iload C dL_spreads_203 9 rfl ?_
        refine x_zret C G dL_spreads_205 (by rcases hw2 with q9 | q9 <;> rw [q9] <;> simp) ?_ (by decide) (by decide)
        obtain rfl : k = 64 := by omega
        exact ⟨e2, f2, m2, w2, rfl, hu3_of u2e u2f u2m hfr, hI2⟩
      · skip
        refine x_iconst C dL_spreads_13 0 (by decide) ?_
        refine x_istore C (ls' := [(0, vI ((al : Nat) : Int)), (1, vI o), (2, .ref qA), (3, .ref gA), (4, .ref cA), (5, .ref dA), (6, .ref eA), (7, .ref fA), (8, .ref mA), (9, vI w2), (10, vI ((k : Nat) : Int)), (11, vI 0)]) dL_spreads_14 (by decide) rfl ?_
        have NL : ∀ (N3 : Nat) (now : Nat) (e3 f3 m3 : Nat → Int64) (w3 : Int) (h3 : vh)  (u3g : h3 gA = some (eJ D 60 g)) (u3q : h3 qA = some (eI D 5 q)) (u3c : h3 cA = some (eJ D 64 c)) (u3d : h3 dA = some (eJ D 64 d)) (u3e : h3 eA = some (eJ D 64 e3)) (u3f : h3 fA = some (eJ D 64 f3)) (u3m : h3 mA = some (eJ D 2 m3)) (hnow : now ≤ 96) (hN3 : 96 - now < N3) (hI3 : SPI (TTr (gk g o.toNat) (kbr (gk g o.toNat) (fun _ => 0)) al S) c d e f m k now 0 e3 f3 m3 w3) (hw3 : w3 = 0 ∨ w3 = 1) (hfr : ∀ b9, b9 ≠ eA → b9 ≠ fA → b9 ≠ mA → h3 b9 = h b9), X κ 0 0 h3 [(0, vI ((al : Nat) : Int)), (1, vI o), (2, .ref qA), (3, .ref gA), (4, .ref cA), (5, .ref dA), (6, .ref eA), (7, .ref fA), (8, .ref mA), (9, vI w3), (10, vI ((k : Nat) : Int)), (11, vI ((now : Nat) : Int))] 16 [] := by
          intro N3
          induction N3 with
          | zero => intro now e3 f3 m3 w3 h3 u3g u3q u3c u3d u3e u3f u3m hnow hN3 hI3 hw3 hfr; exfalso; omega
          | succ N3 ihNL =>
            intro now e3 f3 m3 w3 h3 u3g u3q u3c u3d u3e u3f u3m hnow hN3 hI3 hw3 hfr
            refine x_iload C dL_spreads_16 11 rfl ?_
            refine x_bipush C dL_spreads_18 96 (by decide) ?_
            refine x_icmp_ge (tgt := 197) C dL_spreads_20 (by decide) (by omega) (by omega) (fun c4 => ?_) (fun c4 => ?_)
            · skip
              refine x_iinc C (x := ((k : Nat) : Int)) (ls' := [(0, vI ((al : Nat) : Int)), (1, vI o), (2, .ref qA), (3, .ref gA), (4, .ref cA), (5, .ref dA), (6, .ref eA), (7, .ref fA), (8, .ref mA), (9, vI w3), (10, vI ((((k : Nat) : Int)) + 1)), (11, vI ((now : Nat) : Int))]) dL_spreads_197 10 rfl (by decide) rfl ?_
              refine x_goto (tgt := 6) C dL_spreads_200 (by decide) ?_
              refine x_sub [0, 1, 2, 3, 4, 5, 6, 7, 8, 9, 10] (ls' := [(0, vI ((al : Nat) : Int)), (1, vI o), (2, .ref qA), (3, .ref gA), (4, .ref cA), (5, .ref dA), (6, .ref eA), (7, .ref fA), (8, .ref mA), (9, vI w3), (10, vI ((((k : Nat) : Int)) + 1))]) rfl ?_
              exact ihKL (k + 1) e3 f3 m3 w3 h3 u3g u3q u3c u3d u3e u3f u3m (by omega) (by omega) (by have q9 : now = 96 := (by omega); subst q9; exact hI3.col) (hw3) (hfr)
            · skip
              refine x_iload C dL_spreads_23 11 rfl ?_
              refine x_bipush C dL_spreads_25 48 (by decide) ?_
              refine x_icmp_ge (tgt := 43) C dL_spreads_27 (by decide) (by omega) (by omega) (fun c5 => ?_) (fun c5 => ?_)
              · skip
                refine x_aload C dL_spreads_43 5 rfl ?_
                refine x_iload C dL_spreads_45 10 rfl ?_
                refine x_lald C u3d ⟨by omega, by omega⟩ (by decide) dL_spreads_47 ?_
                refine x_iload C dL_spreads_48 11 rfl ?_
                refine x_bipush C dL_spreads_50 48 (by decide) ?_
                refine x_isub C dL_spreads_52 ?_
                refine x_topv (show (((now : Nat) : Int)) - 48 = ((now - 48 : Nat) : Int) from by omega) ?_
                refine x_lshr C dL_spreads_53 ?_
                refine x_lconst C (v := 1) dL_spreads_54 rfl ?_
                refine x_land C dL_spreads_55 ?_
                refine x_lstore C (ls' := [(12, .long ((lsr (d (Int.toNat (((k : Nat) : Int)))) (((now - 48 : Nat) : Int))) &&& 1)), (0, vI ((al : Nat) : Int)), (1, vI o), (2, .ref qA), (3, .ref gA), (4, .ref cA), (5, .ref dA), (6, .ref eA), (7, .ref fA), (8, .ref mA), (9, vI w3), (10, vI ((k : Nat) : Int)), (11, vI ((now : Nat) : Int))]) dL_spreads_56 (by decide) rfl ?_
                refine x_iconst C dL_spreads_58 0 (by decide) ?_
                refine x_istore C (ls' := [(12, .long ((lsr (d (Int.toNat (((k : Nat) : Int)))) (((now - 48 : Nat) : Int))) &&& 1)), (0, vI ((al : Nat) : Int)), (1, vI o), (2, .ref qA), (3, .ref gA), (4, .ref cA), (5, .ref dA), (6, .ref eA), (7, .ref fA), (8, .ref mA), (9, vI w3), (10, vI ((k : Nat) : Int)), (11, vI ((now : Nat) : Int)), (14, vI 0)]) dL_spreads_59 (by decide) rfl ?_
                have IL : ∀ (N4 : Nat) (i : Nat) (x : Int64) (e4 f4 m4 : Nat → Int64) (w4 : Int) (h6 : vh)  (u4g : h6 gA = some (eJ D 60 g)) (u4q : h6 qA = some (eI D 5 q)) (u4c : h6 cA = some (eJ D 64 c)) (u4d : h6 dA = some (eJ D 64 d)) (u4e : h6 eA = some (eJ D 64 e4)) (u4f : h6 fA = some (eJ D 64 f4)) (u4m : h6 mA = some (eJ D 2 m4)) (hi : i ≤ 6) (hN4 : 6 - i < N4) (hx : (x = 1 ∧ Mk c d (64 * now + k)) ∨ (x = 0 ∧ ¬ Mk c d (64 * now + k) ∧ i = 0)) (hI4 : SPI (TTr (gk g o.toNat) (kbr (gk g o.toNat) (fun _ => 0)) al S) c d e f m k now i e4 f4 m4 w4) (hw4 : w4 = 0 ∨ w4 = 1) (hfr : ∀ b9, b9 ≠ eA → b9 ≠ fA → b9 ≠ mA → h6 b9 = h b9), X κ 0 0 h6 [(0, vI ((al : Nat) : Int)), (1, vI o), (2, .ref qA), (3, .ref gA), (4, .ref cA), (5, .ref dA), (6, .ref eA), (7, .ref fA), (8, .ref mA), (9, vI w4), (10, vI ((k : Nat) : Int)), (11, vI ((now : Nat) : Int)), (12, .long x), (14, vI ((i : Nat) : Int))] 61 [] := by
                  intro N4
                  induction N4 with
                  | zero => intro i x e4 f4 m4 w4 h6 u4g u4q u4c u4d u4e u4f u4m hi hN4 hx hI4 hw4 hfr; exfalso; omega
                  | succ N4 ihIL =>
                    intro i x e4 f4 m4 w4 h6 u4g u4q u4c u4d u4e u4f u4m hi hN4 hx hI4 hw4 hfr
                    refine x_iload C dL_spreads_61 13 rfl ?_
                    refine x_bipush C dL_spreads_63 6 (by decide) ?_
                    refine x_icmp_ge (tgt := 191) C dL_spreads_65 (by decide) (by omega) (by omega) (fun c7 => ?_) (fun c7 => ?_)
                    · skip
                      refine x_iinc C (x := ((now : Nat) : Int)) (ls' := [(0, vI ((al : Nat) : Int)), (1, vI o), (2, .ref qA), (3, .ref gA), (4, .ref cA), (5, .ref dA), (6, .ref eA), (7, .ref fA), (8, .ref mA), (9, vI w4), (10, vI ((k : Nat) : Int)), (11, vI ((((now : Nat) : Int)) + 1)), (12, .long x), (14, vI ((i : Nat) : Int))]) dL_spreads_191 11 rfl (by decide) rfl ?_
                      refine x_goto (tgt := 16) C dL_spreads_194 (by decide) ?_
                      refine x_sub [0, 1, 2, 3, 4, 5, 6, 7, 8, 9, 10, 11] (ls' := [(0, vI ((al : Nat) : Int)), (1, vI o), (2, .ref qA), (3, .ref gA), (4, .ref cA), (5, .ref dA), (6, .ref eA), (7, .ref fA), (8, .ref mA), (9, vI w4), (10, vI ((k : Nat) : Int)), (11, vI ((((now : Nat) : Int)) + 1))]) rfl ?_
                      exact ihNL (now + 1) e4 f4 m4 w4 h6 u4g u4q u4c u4d u4e u4f u4m (by omega) (by omega) (by first | (have q9 : i = 6 := (by omega); subst q9; exact hI4.row) | (have q9 := hxb.2; subst q9; exact hI4.skip (by omega) hxb.1)) (hw4) (hfr)
                    · skip
                      refine x_lload C dL_spreads_68 12 rfl ?_
                      refine x_lconst C (v := 1) dL_spreads_70 rfl ?_
                      refine x_lcmp_ne (tgt := 191) C dL_spreads_71 dL_spreads_72 (by decide) (fun c8 => ?_) (fun c8 => ?_)
                      · skip
                        have hxb : ¬ Mk c d (64 * now + k) ∧ i = 0 := hx.elim (fun q9 => absurd q9.1 c8) (fun q9 => q9.2)
                        refine x_iinc C (x := ((now : Nat) : Int)) (ls' := [(0, vI ((al : Nat) : Int)), (1, vI o), (2, .ref qA), (3, .ref gA), (4, .ref cA), (5, .ref dA), (6, .ref eA), (7, .ref fA), (8, .ref mA), (9, vI w4), (10, vI ((k : Nat) : Int)), (11, vI ((((now : Nat) : Int)) + 1)), (12, .long x), (14, vI ((i : Nat) : Int))]) dL_spreads_191 11 rfl (by decide) rfl ?_
                        refine x_goto (tgt := 16) C dL_spreads_194 (by decide) ?_
                        refine x_sub [0, 1, 2, 3, 4, 5, 6, 7, 8, 9, 10, 11] (ls' := [(0, vI ((al : Nat) : Int)), (1, vI o), (2, .ref qA), (3, .ref gA), (4, .ref cA), (5, .ref dA), (6, .ref eA), (7, .ref fA), (8, .ref mA), (9, vI w4), (10, vI ((k : Nat) : Int)), (11, vI ((((now : Nat) : Int)) + 1))]) rfl ?_
                        exact ihNL (now + 1) e4 f4 m4 w4 h6 u4g u4q u4c u4d u4e u4f u4m (by omega) (by omega) (by first | (have q9 : i = 6 := (by omega); subst q9; exact hI4.row) | (have q9 := hxb.2; subst q9; exact hI4.skip (by omega) hxb.1)) (hw4) (hfr)
                      · skip
                        have hmk : Mk c d (64 * now + k) := hx.elim (fun q9 => q9.2) (fun q9 => by have q8 := q9.1; rw [c8] at q8; exact absurd q8 (by decide))
                        have hx1e : x = 1 := c8
                        subst hx1e
                        refine x_iload C dL_spreads_75 11 rfl ?_
                        refine x_sipush C dL_spreads_77 128 (by decide) ?_
                        refine x_iload C dL_spreads_80 10 rfl ?_
                        refine x_bipush C dL_spreads_82 8 (by decide) ?_
                        refine x_idiv C dL_spreads_84 (by omega) (by omega) (by omega) (by omega) ?_
                        refine x_imul C dL_spreads_85 ?_
                        refine x_iadd C dL_spreads_86 ?_
                        refine x_sipush C dL_spreads_87 1024 (by decide) ?_
                        refine x_iload C dL_spreads_90 10 rfl ?_
                        refine x_bipush C dL_spreads_92 8 (by decide) ?_
                        refine x_irem C dL_spreads_94 (by omega) (by omega) (by omega) (by omega) ?_
                        refine x_imul C dL_spreads_95 ?_
                        refine x_iadd C dL_spreads_96 ?_
                        refine x_iload C dL_spreads_97 13 rfl ?_
                        refine x_iload_n C dL_spreads_99 0 rfl ?_
                        refine x_iload_n C dL_spreads_100 1 rfl ?_
                        refine x_aload_n C dL_spreads_101 2 rfl ?_
                        refine x_aload_n C dL_spreads_102 3 rfl ?_
                        refine x_callS C (n := 6) (As := [vI (((((now : Nat) : Int)) + (128 * ((((k : Nat) : Int)) / 8))) + (1024 * ((((k : Nat) : Int)) % 8))), vI ((i : Nat) : Int), vI ((al : Nat) : Int), vI o, .ref qA, .ref gA]) (rest := []) (c_L_step (c := ((now : Nat) : Int)) (v := (((k / 8 : Nat) : Int) - 4)) (t := (k % 8)) (S := S) u4g u4q (by omega) (by omega) (by omega) (by omega) (by omega) (by omega) (by omega) (by have q9 := hgd _ (by omega) hmk; unfold GB at q9; rw [show (64 * now + k) % 8 = k % 8 by omega, show (64 * now + k) / 64 = now by omega] at q9; exact q9) (by omega) (by omega) (by omega) (by omega)) gL_spreads_L_step (by decide +kernel) rfl rfl rfl (Nat.le_of_ble_eq_true rfl) ⟨by decide, by decide⟩ ⟨(by decide), (by decide)⟩ dL_spreads_103 (fun rv9 h10 hp11 => ?_)
                        obtain ⟨rfl, e12⟩ := hp11
                        obtain rfl := e12.symm
                        refine x_topi (fun x13 ex14 => ?_)
                        have hx1 : x13 = encB ((TTr (gk g o.toNat) (kbr (gk g o.toNat) (fun _ => 0)) al S) (64 * now + k) i) := by rw [ex14, TT_e (by omega)]
                        obtain ⟨⟨t1, t2, t3, t4, t5, t6, t7⟩, hb3⟩ := TTr_ok (f := (gk g o.toNat)) (B := (kbr (gk g o.toNat) (fun _ => 0))) (al := al) (S := S) (kbr_8 hA) rS (64 * now + k) (by omega) i (by omega)
                        obtain ⟨bb9, hbb⟩ : ∃ bb9 : B4, bb9 = (TTr (gk g o.toNat) (kbr (gk g o.toNat) (fun _ => 0)) al S) (64 * now + k) i := ⟨_, rfl⟩
                        rw [← hbb] at hx1 t1 t2 t3 t4 t5 t6 t7 hb3
                        have hx2 : x13 = bb9.1 + 128 * (bb9.2.1 + 4) + 1024 * ((bb9.2.2.1 : Nat) : Int) + stK bb9.2.2.2 := hx1
                        have hk3 : (bb9.2.2.2 = 1 ∧ stK bb9.2.2.2 = 0) ∨ (bb9.2.2.2 = 2 ∧ stK bb9.2.2.2 = 16384) ∨ (bb9.2.2.2 = 3 ∧ stK bb9.2.2.2 = 32768) := by
                          rcases hb3 with q9 | q9 | q9 <;> rw [q9] <;> simp [stK]
                        have hcd : cd bb9 = 64 * bb9.1.toNat + 8 * (bb9.2.1 + 4).toNat + bb9.2.2.1 := rfl
                        have hcl : cd bb9 < 6144 := by omega
                        refine x_istore C (ls' := [(0, vI ((al : Nat) : Int)), (1, vI o), (2, .ref qA), (3, .ref gA), (4, .ref cA), (5, .ref dA), (6, .ref eA), (7, .ref fA), (8, .ref mA), (9, vI w4), (10, vI ((k : Nat) : Int)), (11, vI ((now : Nat) : Int)), (12, .long x), (14, vI ((i : Nat) : Int)), (15, vI x13)]) dL_spreads_106 (by decide) rfl ?_
                        refine x_iload C dL_spreads_108 14 rfl ?_
                        refine x_ldcI C (z := 32768) (by decide) kL_spreads_0 dL_spreads_110 ?_
                        refine x_icmp_ge (tgt := 141) C dL_spreads_112 (by decide) (by omega) (by omega) (fun c15 => ?_) (fun c15 => ?_)
                        · skip
                          refine x_iload C dL_spreads_141 14 rfl ?_
                          refine x_sipush C dL_spreads_143 16384 (by decide) ?_
                          refine x_icmp_ge (tgt := 158) C dL_spreads_146 (by decide) (by omega) (by omega) (fun c16 => ?_) (fun c16 => ?_)
                          · skip
                            refine x_iload C dL_spreads_158 9 rfl ?_
                            refine x_if_ne (tgt := 178) C dL_spreads_160 (by decide) (by omega) (fun c17 => ?_) (fun c17 => ?_)
                            · skip
                              refine x_iconst C dL_spreads_178 1 (by decide) ?_
                              refine x_goto (tgt := 183) C dL_spreads_179 (by decide) ?_
                              refine x_istore C (ls' := [(0, vI ((al : Nat) : Int)), (1, vI o), (2, .ref qA), (3, .ref gA), (4, .ref cA), (5, .ref dA), (6, .ref eA), (7, .ref fA), (8, .ref mA), (9, vI 1), (10, vI ((k : Nat) : Int)), (11, vI ((now : Nat) : Int)), (12, .long x), (14, vI ((i : Nat) : Int)), (15, vI x13)]) dL_spreads_183 (by decide) rfl ?_
                              refine x_iinc C (x := ((i : Nat) : Int)) (ls' := [(0, vI ((al : Nat) : Int)), (1, vI o), (2, .ref qA), (3, .ref gA), (4, .ref cA), (5, .ref dA), (6, .ref eA), (7, .ref fA), (8, .ref mA), (9, vI 1), (10, vI ((k : Nat) : Int)), (11, vI ((now : Nat) : Int)), (12, .long x), (14, vI ((((i : Nat) : Int)) + 1)), (15, vI x13)]) dL_spreads_185 13 rfl (by decide) rfl ?_
                              refine x_goto (tgt := 61) C dL_spreads_188 (by decide) ?_
                              refine x_sub [0, 1, 2, 3, 4, 5, 6, 7, 8, 9, 10, 11, 12, 13] (ls' := [(0, vI ((al : Nat) : Int)), (1, vI o), (2, .ref qA), (3, .ref gA), (4, .ref cA), (5, .ref dA), (6, .ref eA), (7, .ref fA), (8, .ref mA), (9, vI 1), (10, vI ((k : Nat) : Int)), (11, vI ((now : Nat) : Int)), (12, .long x), (14, vI ((((i : Nat) : Int)) + 1))]) rfl ?_
                              exact ihIL (i + 1) 1 e4 f4 m4 1 h6 u4g u4q u4c u4d u4e u4f u4m (by omega) (by omega) (Or.inl ⟨rfl, hmk⟩) (hI4.step (by omega) (by omega) (by omega) hmk hbb (by first | exact mk_yes hcl (by omega) | exact mk_no (by omega)) (by first | exact ms_yes t1 (by omega) | exact ms_no (by omega)) (by omega) (by first | exact Cl_mk hcl | exact id)) (by omega) (fun b9 y1 y2 y3 => by first | exact hfr b9 y1 y2 y3 | (rw []; simp only [hu_n y1, hu_n y2, hu_n y3]; exact hfr b9 y1 y2 y3))
                            · skip
                              refine x_iload C dL_spreads_163 14 rfl ?_
                              refine x_sipush C dL_spreads_165 16384 (by decide) ?_
                              refine x_icmp_lt (tgt := 182) C dL_spreads_168 (by decide) (by omega) (by omega) (fun c18 => ?_) (fun c18 => ?_)
                              · skip
                                refine x_iconst C dL_spreads_182 0 (by decide) ?_
                                refine x_istore C (ls' := [(0, vI ((al : Nat) : Int)), (1, vI o), (2, .ref qA), (3, .ref gA), (4, .ref cA), (5, .ref dA), (6, .ref eA), (7, .ref fA), (8, .ref mA), (9, vI 0), (10, vI ((k : Nat) : Int)), (11, vI ((now : Nat) : Int)), (12, .long x), (14, vI ((i : Nat) : Int)), (15, vI x13)]) dL_spreads_183 (by decide) rfl ?_
                                refine x_iinc C (x := ((i : Nat) : Int)) (ls' := [(0, vI ((al : Nat) : Int)), (1, vI o), (2, .ref qA), (3, .ref gA), (4, .ref cA), (5, .ref dA), (6, .ref eA), (7, .ref fA), (8, .ref mA), (9, vI 0), (10, vI ((k : Nat) : Int)), (11, vI ((now : Nat) : Int)), (12, .long x), (14, vI ((((i : Nat) : Int)) + 1)), (15, vI x13)]) dL_spreads_185 13 rfl (by decide) rfl ?_
                                refine x_goto (tgt := 61) C dL_spreads_188 (by decide) ?_
                                refine x_sub [0, 1, 2, 3, 4, 5, 6, 7, 8, 9, 10, 11, 12, 13] (ls' := [(0, vI ((al : Nat) : Int)), (1, vI o), (2, .ref qA), (3, .ref gA), (4, .ref cA), (5, .ref dA), (6, .ref eA), (7, .ref fA), (8, .ref mA), (9, vI 0), (10, vI ((k : Nat) : Int)), (11, vI ((now : Nat) : Int)), (12, .long x), (14, vI ((((i : Nat) : Int)) + 1))]) rfl ?_
                                exact ihIL (i + 1) 1 e4 f4 m4 0 h6 u4g u4q u4c u4d u4e u4f u4m (by omega) (by omega) (Or.inl ⟨rfl, hmk⟩) (hI4.step (by omega) (by omega) (by omega) hmk hbb (by first | exact mk_yes hcl (by omega) | exact mk_no (by omega)) (by first | exact ms_yes t1 (by omega) | exact ms_no (by omega)) (by omega) (by first | exact Cl_mk hcl | exact id)) (by omega) (fun b9 y1 y2 y3 => by first | exact hfr b9 y1 y2 y3 | (rw []; simp only [hu_n y1, hu_n y2, hu_n y3]; exact hfr b9 y1 y2 y3))
                              · skip
                                refine x_iload C dL_spreads_171 14 rfl ?_
                                refine x_ldcI C (z := 32768) (by decide) kL_spreads_0 dL_spreads_173 ?_
                                refine x_icmp_ge (tgt := 182) C dL_spreads_175 (by decide) (by omega) (by omega) (fun c19 => ?_) (fun c19 => ?_)
                                · skip
                                  refine x_iconst C dL_spreads_182 0 (by decide) ?_
                                  refine x_istore C (ls' := [(0, vI ((al : Nat) : Int)), (1, vI o), (2, .ref qA), (3, .ref gA), (4, .ref cA), (5, .ref dA), (6, .ref eA), (7, .ref fA), (8, .ref mA), (9, vI 0), (10, vI ((k : Nat) : Int)), (11, vI ((now : Nat) : Int)), (12, .long x), (14, vI ((i : Nat) : Int)), (15, vI x13)]) dL_spreads_183 (by decide) rfl ?_
                                  refine x_iinc C (x := ((i : Nat) : Int)) (ls' := [(0, vI ((al : Nat) : Int)), (1, vI o), (2, .ref qA), (3, .ref gA), (4, .ref cA), (5, .ref dA), (6, .ref eA), (7, .ref fA), (8, .ref mA), (9, vI 0), (10, vI ((k : Nat) : Int)), (11, vI ((now : Nat) : Int)), (12, .long x), (14, vI ((((i : Nat) : Int)) + 1)), (15, vI x13)]) dL_spreads_185 13 rfl (by decide) rfl ?_
                                  refine x_goto (tgt := 61) C dL_spreads_188 (by decide) ?_
                                  refine x_sub [0, 1, 2, 3, 4, 5, 6, 7, 8, 9, 10, 11, 12, 13] (ls' := [(0, vI ((al : Nat) : Int)), (1, vI o), (2, .ref qA), (3, .ref gA), (4, .ref cA), (5, .ref dA), (6, .ref eA), (7, .ref fA), (8, .ref mA), (9, vI 0), (10, vI ((k : Nat) : Int)), (11, vI ((now : Nat) : Int)), (12, .long x), (14, vI ((((i : Nat) : Int)) + 1))]) rfl ?_
                                  exact ihIL (i + 1) 1 e4 f4 m4 0 h6 u4g u4q u4c u4d u4e u4f u4m (by omega) (by omega) (Or.inl ⟨rfl, hmk⟩) (hI4.step (by omega) (by omega) (by omega) hmk hbb (by first | exact mk_yes hcl (by omega) | exact mk_no (by omega)) (by first | exact ms_yes t1 (by omega) | exact ms_no (by omega)) (by omega) (by first | exact Cl_mk hcl | exact id)) (by omega) (fun b9 y1 y2 y3 => by first | exact hfr b9 y1 y2 y3 | (rw []; simp only [hu_n y1, hu_n y2, hu_n y3]; exact hfr b9 y1 y2 y3))
                                · skip
                                  refine x_iconst C dL_spreads_178 1 (by decide) ?_
                                  refine x_goto (tgt := 183) C dL_spreads_179 (by decide) ?_
                                  refine x_istore C (ls' := [(0, vI ((al : Nat) : Int)), (1, vI o), (2, .ref qA), (3, .ref gA), (4, .ref cA), (5, .ref dA), (6, .ref eA), (7, .ref fA), (8, .ref mA), (9, vI 1), (10, vI ((k : Nat) : Int)), (11, vI ((now : Nat) : Int)), (12, .long x), (14, vI ((i : Nat) : Int)), (15, vI x13)]) dL_spreads_183 (by decide) rfl ?_
                                  refine x_iinc C (x := ((i : Nat) : Int)) (ls' := [(0, vI ((al : Nat) : Int)), (1, vI o), (2, .ref qA), (3, .ref gA), (4, .ref cA), (5, .ref dA), (6, .ref eA), (7, .ref fA), (8, .ref mA), (9, vI 1), (10, vI ((k : Nat) : Int)), (11, vI ((now : Nat) : Int)), (12, .long x), (14, vI ((((i : Nat) : Int)) + 1)), (15, vI x13)]) dL_spreads_185 13 rfl (by decide) rfl ?_
                                  refine x_goto (tgt := 61) C dL_spreads_188 (by decide) ?_
                                  refine x_sub [0, 1, 2, 3, 4, 5, 6, 7, 8, 9, 10, 11, 12, 13] (ls' := [(0, vI ((al : Nat) : Int)), (1, vI o), (2, .ref qA), (3, .ref gA), (4, .ref cA), (5, .ref dA), (6, .ref eA), (7, .ref fA), (8, .ref mA), (9, vI 1), (10, vI ((k : Nat) : Int)), (11, vI ((now : Nat) : Int)), (12, .long x), (14, vI ((((i : Nat) : Int)) + 1))]) rfl ?_
                                  exact ihIL (i + 1) 1 e4 f4 m4 1 h6 u4g u4q u4c u4d u4e u4f u4m (by omega) (by omega) (Or.inl ⟨rfl, hmk⟩) (hI4.step (by omega) (by omega) (by omega) hmk hbb (by first | exact mk_yes hcl (by omega) | exact mk_no (by omega)) (by first | exact ms_yes t1 (by omega) | exact ms_no (by omega)) (by omega) (by first | exact Cl_mk hcl | exact id)) (by omega) (fun b9 y1 y2 y3 => by first | exact hfr b9 y1 y2 y3 | (rw []; simp only [hu_n y1, hu_n y2, hu_n y3]; exact hfr b9 y1 y2 y3))
                          · skip
                            refine x_iload C dL_spreads_149 14 rfl ?_
                            refine x_aload C dL_spreads_151 6 rfl ?_
                            refine x_aload C dL_spreads_153 7 rfl ?_
                            refine x_callS C (n := 3) (As := [vI x13, .ref eA, .ref fA]) (rest := []) (c_L_marks (n := (cd bb9)) u4e u4f (by omega) (by omega) (by assumption)) gL_spreads_L_marks (by decide +kernel) rfl rfl rfl (Nat.le_of_ble_eq_true rfl) ⟨by decide, by decide⟩ ⟨(by decide), (by decide)⟩ dL_spreads_155 (fun rv20 h21 hp22 => ?_)
                            obtain ⟨rfl, e23⟩ := hp22
                            have f24 : h21 fA = some (eJ D 64 (mkH f4 ((cd bb9)))) := by rw [e23]; exact hu_s
                            have f25 : h21 eA = some (eJ D 64 (mkL e4 ((cd bb9)))) := by rw [e23, hu_n nef]; exact hu_s
                            refine x_iload C dL_spreads_158 9 rfl ?_
                            refine x_if_ne (tgt := 178) C dL_spreads_160 (by decide) (by omega) (fun c26 => ?_) (fun c26 => ?_)
                            · skip
                              refine x_iconst C dL_spreads_178 1 (by decide) ?_
                              refine x_goto (tgt := 183) C dL_spreads_179 (by decide) ?_
                              refine x_istore C (ls' := [(0, vI ((al : Nat) : Int)), (1, vI o), (2, .ref qA), (3, .ref gA), (4, .ref cA), (5, .ref dA), (6, .ref eA), (7, .ref fA), (8, .ref mA), (9, vI 1), (10, vI ((k : Nat) : Int)), (11, vI ((now : Nat) : Int)), (12, .long x), (14, vI ((i : Nat) : Int)), (15, vI x13)]) dL_spreads_183 (by decide) rfl ?_
                              refine x_iinc C (x := ((i : Nat) : Int)) (ls' := [(0, vI ((al : Nat) : Int)), (1, vI o), (2, .ref qA), (3, .ref gA), (4, .ref cA), (5, .ref dA), (6, .ref eA), (7, .ref fA), (8, .ref mA), (9, vI 1), (10, vI ((k : Nat) : Int)), (11, vI ((now : Nat) : Int)), (12, .long x), (14, vI ((((i : Nat) : Int)) + 1)), (15, vI x13)]) dL_spreads_185 13 rfl (by decide) rfl ?_
                              refine x_goto (tgt := 61) C dL_spreads_188 (by decide) ?_
                              refine x_sub [0, 1, 2, 3, 4, 5, 6, 7, 8, 9, 10, 11, 12, 13] (ls' := [(0, vI ((al : Nat) : Int)), (1, vI o), (2, .ref qA), (3, .ref gA), (4, .ref cA), (5, .ref dA), (6, .ref eA), (7, .ref fA), (8, .ref mA), (9, vI 1), (10, vI ((k : Nat) : Int)), (11, vI ((now : Nat) : Int)), (12, .long x), (14, vI ((((i : Nat) : Int)) + 1))]) rfl ?_
                              have n28 : nq gA fA := vnt u4g u4f (p := (1, 60)) (q := (1, 64)) rfl rfl (by decide)
                              have n29 : nq gA eA := vnt u4g u4e (p := (1, 60)) (q := (1, 64)) rfl rfl (by decide)
                              have f27 : h21 gA = some (eJ D 60 g) := by rw [e23, hu_n n28, hu_n n29]; exact u4g
                              have n31 : nq qA fA := vnt u4q u4f (p := (0, 5)) (q := (1, 64)) rfl rfl (by decide)
                              have n32 : nq qA eA := vnt u4q u4e (p := (0, 5)) (q := (1, 64)) rfl rfl (by decide)
                              have f30 : h21 qA = some (eI D 5 q) := by rw [e23, hu_n n31, hu_n n32]; exact u4q
                              have f33 : h21 cA = some (eJ D 64 c) := by rw [e23, hu_n ncf, hu_n nce]; exact u4c
                              have f34 : h21 dA = some (eJ D 64 d) := by rw [e23, hu_n ndf, hu_n nde]; exact u4d
                              have n36 : nq mA fA := vnt u4m u4f (p := (1, 2)) (q := (1, 64)) rfl rfl (by decide)
                              have n37 : nq mA eA := vnt u4m u4e (p := (1, 2)) (q := (1, 64)) rfl rfl (by decide)
                              have f35 : h21 mA = some (eJ D 2 m4) := by rw [e23, hu_n n36, hu_n n37]; exact u4m
                              exact ihIL (i + 1) 1 (mkL e4 ((cd bb9))) (mkH f4 ((cd bb9))) m4 1 h21 f27 f30 f33 f34 f25 f24 f35 (by omega) (by omega) (Or.inl ⟨rfl, hmk⟩) (hI4.step (by omega) (by omega) (by omega) hmk hbb (by first | exact mk_yes hcl (by omega) | exact mk_no (by omega)) (by first | exact ms_yes t1 (by omega) | exact ms_no (by omega)) (by omega) (by first | exact Cl_mk hcl | exact id)) (by omega) (fun b9 y1 y2 y3 => by first | exact hfr b9 y1 y2 y3 | (rw [e23]; simp only [hu_n y1, hu_n y2, hu_n y3]; exact hfr b9 y1 y2 y3))
                            · skip
                              refine x_iload C dL_spreads_163 14 rfl ?_
                              refine x_sipush C dL_spreads_165 16384 (by decide) ?_
                              refine x_icmp_lt (tgt := 182) C dL_spreads_168 (by decide) (by omega) (by omega) (fun c38 => ?_) (fun c38 => ?_)
                              · skip
                                refine x_iconst C dL_spreads_182 0 (by decide) ?_
                                refine x_istore C (ls' := [(0, vI ((al : Nat) : Int)), (1, vI o), (2, .ref qA), (3, .ref gA), (4, .ref cA), (5, .ref dA), (6, .ref eA), (7, .ref fA), (8, .ref mA), (9, vI 0), (10, vI ((k : Nat) : Int)), (11, vI ((now : Nat) : Int)), (12, .long x), (14, vI ((i : Nat) : Int)), (15, vI x13)]) dL_spreads_183 (by decide) rfl ?_
                                refine x_iinc C (x := ((i : Nat) : Int)) (ls' := [(0, vI ((al : Nat) : Int)), (1, vI o), (2, .ref qA), (3, .ref gA), (4, .ref cA), (5, .ref dA), (6, .ref eA), (7, .ref fA), (8, .ref mA), (9, vI 0), (10, vI ((k : Nat) : Int)), (11, vI ((now : Nat) : Int)), (12, .long x), (14, vI ((((i : Nat) : Int)) + 1)), (15, vI x13)]) dL_spreads_185 13 rfl (by decide) rfl ?_
                                refine x_goto (tgt := 61) C dL_spreads_188 (by decide) ?_
                                refine x_sub [0, 1, 2, 3, 4, 5, 6, 7, 8, 9, 10, 11, 12, 13] (ls' := [(0, vI ((al : Nat) : Int)), (1, vI o), (2, .ref qA), (3, .ref gA), (4, .ref cA), (5, .ref dA), (6, .ref eA), (7, .ref fA), (8, .ref mA), (9, vI 0), (10, vI ((k : Nat) : Int)), (11, vI ((now : Nat) : Int)), (12, .long x), (14, vI ((((i : Nat) : Int)) + 1))]) rfl ?_
                                have n40 : nq gA fA := vnt u4g u4f (p := (1, 60)) (q := (1, 64)) rfl rfl (by decide)
                                have n41 : nq gA eA := vnt u4g u4e (p := (1, 60)) (q := (1, 64)) rfl rfl (by decide)
                                have f39 : h21 gA = some (eJ D 60 g) := by rw [e23, hu_n n40, hu_n n41]; exact u4g
                                have n43 : nq qA fA := vnt u4q u4f (p := (0, 5)) (q := (1, 64)) rfl rfl (by decide)
                                have n44 : nq qA eA := vnt u4q u4e (p := (0, 5)) (q := (1, 64)) rfl rfl (by decide)
                                have f42 : h21 qA = some (eI D 5 q) := by rw [e23, hu_n n43, hu_n n44]; exact u4q
                                have f45 : h21 cA = some (eJ D 64 c) := by rw [e23, hu_n ncf, hu_n nce]; exact u4c
                                have f46 : h21 dA = some (eJ D 64 d) := by rw [e23, hu_n ndf, hu_n nde]; exact u4d
                                have n48 : nq mA fA := vnt u4m u4f (p := (1, 2)) (q := (1, 64)) rfl rfl (by decide)
                                have n49 : nq mA eA := vnt u4m u4e (p := (1, 2)) (q := (1, 64)) rfl rfl (by decide)
                                have f47 : h21 mA = some (eJ D 2 m4) := by rw [e23, hu_n n48, hu_n n49]; exact u4m
                                exact ihIL (i + 1) 1 (mkL e4 ((cd bb9))) (mkH f4 ((cd bb9))) m4 0 h21 f39 f42 f45 f46 f25 f24 f47 (by omega) (by omega) (Or.inl ⟨rfl, hmk⟩) (hI4.step (by omega) (by omega) (by omega) hmk hbb (by first | exact mk_yes hcl (by omega) | exact mk_no (by omega)) (by first | exact ms_yes t1 (by omega) | exact ms_no (by omega)) (by omega) (by first | exact Cl_mk hcl | exact id)) (by omega) (fun b9 y1 y2 y3 => by first | exact hfr b9 y1 y2 y3 | (rw [e23]; simp only [hu_n y1, hu_n y2, hu_n y3]; exact hfr b9 y1 y2 y3))
                              · skip
                                refine x_iload C dL_spreads_171 14 rfl ?_
                                refine x_ldcI C (z := 32768) (by decide) kL_spreads_0 dL_spreads_173 ?_
                                refine x_icmp_ge (tgt := 182) C dL_spreads_175 (by decide) (by omega) (by omega) (fun c50 => ?_) (fun c50 => ?_)
                                · skip
                                  refine x_iconst C dL_spreads_182 0 (by decide) ?_
                                  refine x_istore C (ls' := [(0, vI ((al : Nat) : Int)), (1, vI o), (2, .ref qA), (3, .ref gA), (4, .ref cA), (5, .ref dA), (6, .ref eA), (7, .ref fA), (8, .ref mA), (9, vI 0), (10, vI ((k : Nat) : Int)), (11, vI ((now : Nat) : Int)), (12, .long x), (14, vI ((i : Nat) : Int)), (15, vI x13)]) dL_spreads_183 (by decide) rfl ?_
                                  refine x_iinc C (x := ((i : Nat) : Int)) (ls' := [(0, vI ((al : Nat) : Int)), (1, vI o), (2, .ref qA), (3, .ref gA), (4, .ref cA), (5, .ref dA), (6, .ref eA), (7, .ref fA), (8, .ref mA), (9, vI 0), (10, vI ((k : Nat) : Int)), (11, vI ((now : Nat) : Int)), (12, .long x), (14, vI ((((i : Nat) : Int)) + 1)), (15, vI x13)]) dL_spreads_185 13 rfl (by decide) rfl ?_
                                  refine x_goto (tgt := 61) C dL_spreads_188 (by decide) ?_
                                  refine x_sub [0, 1, 2, 3, 4, 5, 6, 7, 8, 9, 10, 11, 12, 13] (ls' := [(0, vI ((al : Nat) : Int)), (1, vI o), (2, .ref qA), (3, .ref gA), (4, .ref cA), (5, .ref dA), (6, .ref eA), (7, .ref fA), (8, .ref mA), (9, vI 0), (10, vI ((k : Nat) : Int)), (11, vI ((now : Nat) : Int)), (12, .long x), (14, vI ((((i : Nat) : Int)) + 1))]) rfl ?_
                                  have n52 : nq gA fA := vnt u4g u4f (p := (1, 60)) (q := (1, 64)) rfl rfl (by decide)
                                  have n53 : nq gA eA := vnt u4g u4e (p := (1, 60)) (q := (1, 64)) rfl rfl (by decide)
                                  have f51 : h21 gA = some (eJ D 60 g) := by rw [e23, hu_n n52, hu_n n53]; exact u4g
                                  have n55 : nq qA fA := vnt u4q u4f (p := (0, 5)) (q := (1, 64)) rfl rfl (by decide)
                                  have n56 : nq qA eA := vnt u4q u4e (p := (0, 5)) (q := (1, 64)) rfl rfl (by decide)
                                  have f54 : h21 qA = some (eI D 5 q) := by rw [e23, hu_n n55, hu_n n56]; exact u4q
                                  have f57 : h21 cA = some (eJ D 64 c) := by rw [e23, hu_n ncf, hu_n nce]; exact u4c
                                  have f58 : h21 dA = some (eJ D 64 d) := by rw [e23, hu_n ndf, hu_n nde]; exact u4d
                                  have n60 : nq mA fA := vnt u4m u4f (p := (1, 2)) (q := (1, 64)) rfl rfl (by decide)
                                  have n61 : nq mA eA := vnt u4m u4e (p := (1, 2)) (q := (1, 64)) rfl rfl (by decide)
                                  have f59 : h21 mA = some (eJ D 2 m4) := by rw [e23, hu_n n60, hu_n n61]; exact u4m
                                  exact ihIL (i + 1) 1 (mkL e4 ((cd bb9))) (mkH f4 ((cd bb9))) m4 0 h21 f51 f54 f57 f58 f25 f24 f59 (by omega) (by omega) (Or.inl ⟨rfl, hmk⟩) (hI4.step (by omega) (by omega) (by omega) hmk hbb (by first | exact mk_yes hcl (by omega) | exact mk_no (by omega)) (by first | exact ms_yes t1 (by omega) | exact ms_no (by omega)) (by omega) (by first | exact Cl_mk hcl | exact id)) (by omega) (fun b9 y1 y2 y3 => by first | exact hfr b9 y1 y2 y3 | (rw [e23]; simp only [hu_n y1, hu_n y2, hu_n y3]; exact hfr b9 y1 y2 y3))
                                · skip
                                  refine x_iconst C dL_spreads_178 1 (by decide) ?_
                                  refine x_goto (tgt := 183) C dL_spreads_179 (by decide) ?_
                                  refine x_istore C (ls' := [(0, vI ((al : Nat) : Int)), (1, vI o), (2, .ref qA), (3, .ref gA), (4, .ref cA), (5, .ref dA), (6, .ref eA), (7, .ref fA), (8, .ref mA), (9, vI 1), (10, vI ((k : Nat) : Int)), (11, vI ((now : Nat) : Int)), (12, .long x), (14, vI ((i : Nat) : Int)), (15, vI x13)]) dL_spreads_183 (by decide) rfl ?_
                                  refine x_iinc C (x := ((i : Nat) : Int)) (ls' := [(0, vI ((al : Nat) : Int)), (1, vI o), (2, .ref qA), (3, .ref gA), (4, .ref cA), (5, .ref dA), (6, .ref eA), (7, .ref fA), (8, .ref mA), (9, vI 1), (10, vI ((k : Nat) : Int)), (11, vI ((now : Nat) : Int)), (12, .long x), (14, vI ((((i : Nat) : Int)) + 1)), (15, vI x13)]) dL_spreads_185 13 rfl (by decide) rfl ?_
                                  refine x_goto (tgt := 61) C dL_spreads_188 (by decide) ?_
                                  refine x_sub [0, 1, 2, 3, 4, 5, 6, 7, 8, 9, 10, 11, 12, 13] (ls' := [(0, vI ((al : Nat) : Int)), (1, vI o), (2, .ref qA), (3, .ref gA), (4, .ref cA), (5, .ref dA), (6, .ref eA), (7, .ref fA), (8, .ref mA), (9, vI 1), (10, vI ((k : Nat) : Int)), (11, vI ((now : Nat) : Int)), (12, .long x), (14, vI ((((i : Nat) : Int)) + 1))]) rfl ?_
                                  have n63 : nq gA fA := vnt u4g u4f (p := (1, 60)) (q := (1, 64)) rfl rfl (by decide)
                                  have n64 : nq gA eA := vnt u4g u4e (p := (1, 60)) (q := (1, 64)) rfl rfl (by decide)
                                  have f62 : h21 gA = some (eJ D 60 g) := by rw [e23, hu_n n63, hu_n n64]; exact u4g
                                  have n66 : nq qA fA := vnt u4q u4f (p := (0, 5)) (q := (1, 64)) rfl rfl (by decide)
                                  have n67 : nq qA eA := vnt u4q u4e (p := (0, 5)) (q := (1, 64)) rfl rfl (by decide)
                                  have f65 : h21 qA = some (eI D 5 q) := by rw [e23, hu_n n66, hu_n n67]; exact u4q
                                  have f68 : h21 cA = some (eJ D 64 c) := by rw [e23, hu_n ncf, hu_n nce]; exact u4c
                                  have f69 : h21 dA = some (eJ D 64 d) := by rw [e23, hu_n ndf, hu_n nde]; exact u4d
                                  have n71 : nq mA fA := vnt u4m u4f (p := (1, 2)) (q := (1, 64)) rfl rfl (by decide)
                                  have n72 : nq mA eA := vnt u4m u4e (p := (1, 2)) (q := (1, 64)) rfl rfl (by decide)
                                  have f70 : h21 mA = some (eJ D 2 m4) := by rw [e23, hu_n n71, hu_n n72]; exact u4m
                                  exact ihIL (i + 1) 1 (mkL e4 ((cd bb9))) (mkH f4 ((cd bb9))) m4 1 h21 f62 f65 f68 f69 f25 f24 f70 (by omega) (by omega) (Or.inl ⟨rfl, hmk⟩) (hI4.step (by omega) (by omega) (by omega) hmk hbb (by first | exact mk_yes hcl (by omega) | exact mk_no (by omega)) (by first | exact ms_yes t1 (by omega) | exact ms_no (by omega)) (by omega) (by first | exact Cl_mk hcl | exact id)) (by omega) (fun b9 y1 y2 y3 => by first | exact hfr b9 y1 y2 y3 | (rw [e23]; simp only [hu_n y1, hu_n y2, hu_n y3]; exact hfr b9 y1 y2 y3))
                        · skip
                          refine x_iload C dL_spreads_115 14 rfl ?_
                          refine x_sipush C dL_spreads_117 128 (by decide) ?_
                          refine x_irem C dL_spreads_120 (by omega) (by omega) (by omega) (by omega) ?_
                          refine x_topv (show x13 % 128 = ((bb9.1.toNat : Nat) : Int) from by omega) ?_
                          refine x_istore C (ls' := [(0, vI ((al : Nat) : Int)), (1, vI o), (2, .ref qA), (3, .ref gA), (4, .ref cA), (5, .ref dA), (6, .ref eA), (7, .ref fA), (8, .ref mA), (9, vI w4), (10, vI ((k : Nat) : Int)), (11, vI ((now : Nat) : Int)), (12, .long x), (14, vI ((i : Nat) : Int)), (15, vI x13), (16, vI ((bb9.1.toNat : Nat) : Int))]) dL_spreads_121 (by decide) rfl ?_
                          refine x_aload C dL_spreads_123 8 rfl ?_
                          refine x_iload C dL_spreads_125 15 rfl ?_
                          refine x_bipush C dL_spreads_127 48 (by decide) ?_
                          refine x_idiv C dL_spreads_129 (by omega) (by omega) (by omega) (by omega) ?_
                          refine x_topv (show (((bb9.1.toNat : Nat) : Int)) / 48 = ((bb9.1.toNat / 48 : Nat) : Int) from by omega) ?_
                          refine x_dup2 C dL_spreads_130 rfl rfl ?_
                          refine x_lald C u4m ⟨by omega, by omega⟩ (by decide) dL_spreads_131 ?_
                          refine x_lconst C (v := 1) dL_spreads_132 rfl ?_
                          refine x_iload C dL_spreads_133 15 rfl ?_
                          refine x_bipush C dL_spreads_135 48 (by decide) ?_
                          refine x_irem C dL_spreads_137 (by omega) (by omega) (by omega) (by omega) ?_
                          refine x_topv (show (((bb9.1.toNat : Nat) : Int)) % 48 = ((bb9.1.toNat % 48 : Nat) : Int) from by omega) ?_
                          refine x_lshl C dL_spreads_138 ?_
                          refine x_lor C dL_spreads_139 ?_
                          refine x_last C u4m ⟨by omega, by omega⟩ (by decide) dL_spreads_140 (x_hn (fun h73 e74 => ?_))
                          have f75 : h73 mA = some (eJ D 2 (vp_updL m4 (Int.toNat (((bb9.1.toNat / 48 : Nat) : Int))) ((m4 (Int.toNat (((bb9.1.toNat / 48 : Nat) : Int)))) ||| (lsl 1 (((bb9.1.toNat % 48 : Nat) : Int)))))) := by rw [e74]; exact hu_s
                          refine x_iload C dL_spreads_141 14 rfl ?_
                          refine x_sipush C dL_spreads_143 16384 (by decide) ?_
                          refine x_icmp_ge (tgt := 158) C dL_spreads_146 (by decide) (by omega) (by omega) (fun c76 => ?_) (fun c76 => ?_)
                          · skip
                            refine x_iload C dL_spreads_158 9 rfl ?_
                            refine x_if_ne (tgt := 178) C dL_spreads_160 (by decide) (by omega) (fun c77 => ?_) (fun c77 => ?_)
                            · skip
                              refine x_iconst C dL_spreads_178 1 (by decide) ?_
                              refine x_goto (tgt := 183) C dL_spreads_179 (by decide) ?_
                              refine x_istore C (ls' := [(0, vI ((al : Nat) : Int)), (1, vI o), (2, .ref qA), (3, .ref gA), (4, .ref cA), (5, .ref dA), (6, .ref eA), (7, .ref fA), (8, .ref mA), (9, vI 1), (10, vI ((k : Nat) : Int)), (11, vI ((now : Nat) : Int)), (12, .long x), (14, vI ((i : Nat) : Int)), (15, vI x13), (16, vI ((bb9.1.toNat : Nat) : Int))]) dL_spreads_183 (by decide) rfl ?_
                              refine x_iinc C (x := ((i : Nat) : Int)) (ls' := [(0, vI ((al : Nat) : Int)), (1, vI o), (2, .ref qA), (3, .ref gA), (4, .ref cA), (5, .ref dA), (6, .ref eA), (7, .ref fA), (8, .ref mA), (9, vI 1), (10, vI ((k : Nat) : Int)), (11, vI ((now : Nat) : Int)), (12, .long x), (14, vI ((((i : Nat) : Int)) + 1)), (15, vI x13), (16, vI ((bb9.1.toNat : Nat) : Int))]) dL_spreads_185 13 rfl (by decide) rfl ?_
                              refine x_goto (tgt := 61) C dL_spreads_188 (by decide) ?_
                              refine x_sub [0, 1, 2, 3, 4, 5, 6, 7, 8, 9, 10, 11, 12, 13] (ls' := [(0, vI ((al : Nat) : Int)), (1, vI o), (2, .ref qA), (3, .ref gA), (4, .ref cA), (5, .ref dA), (6, .ref eA), (7, .ref fA), (8, .ref mA), (9, vI 1), (10, vI ((k : Nat) : Int)), (11, vI ((now : Nat) : Int)), (12, .long x), (14, vI ((((i : Nat) : Int)) + 1))]) rfl ?_
                              have n79 : nq gA mA := vnt u4g u4m (p := (1, 60)) (q := (1, 2)) rfl rfl (by decide)
                              have f78 : h73 gA = some (eJ D 60 g) := by rw [e74, hu_n n79]; exact u4g
                              have n81 : nq qA mA := vnt u4q u4m (p := (0, 5)) (q := (1, 2)) rfl rfl (by decide)
                              have f80 : h73 qA = some (eI D 5 q) := by rw [e74, hu_n n81]; exact u4q
                              have n83 : nq cA mA := vnt u4c u4m (p := (1, 64)) (q := (1, 2)) rfl rfl (by decide)
                              have f82 : h73 cA = some (eJ D 64 c) := by rw [e74, hu_n n83]; exact u4c
                              have n85 : nq dA mA := vnt u4d u4m (p := (1, 64)) (q := (1, 2)) rfl rfl (by decide)
                              have f84 : h73 dA = some (eJ D 64 d) := by rw [e74, hu_n n85]; exact u4d
                              have n87 : nq eA mA := vnt u4e u4m (p := (1, 64)) (q := (1, 2)) rfl rfl (by decide)
                              have f86 : h73 eA = some (eJ D 64 e4) := by rw [e74, hu_n n87]; exact u4e
                              have n89 : nq fA mA := vnt u4f u4m (p := (1, 64)) (q := (1, 2)) rfl rfl (by decide)
                              have f88 : h73 fA = some (eJ D 64 f4) := by rw [e74, hu_n n89]; exact u4f
                              exact ihIL (i + 1) 1 e4 f4 (vp_updL m4 (Int.toNat (((bb9.1.toNat / 48 : Nat) : Int))) ((m4 (Int.toNat (((bb9.1.toNat / 48 : Nat) : Int)))) ||| (lsl 1 (((bb9.1.toNat % 48 : Nat) : Int))))) 1 h73 f78 f80 f82 f84 f86 f88 f75 (by omega) (by omega) (Or.inl ⟨rfl, hmk⟩) (hI4.step (by omega) (by omega) (by omega) hmk hbb (by first | exact mk_yes hcl (by omega) | exact mk_no (by omega)) (by first | exact ms_yes t1 (by omega) | exact ms_no (by omega)) (by omega) (by first | exact Cl_mk hcl | exact id)) (by omega) (fun b9 y1 y2 y3 => by first | exact hfr b9 y1 y2 y3 | (rw [e74]; simp only [hu_n y1, hu_n y2, hu_n y3]; exact hfr b9 y1 y2 y3))
                            · skip
                              refine x_iload C dL_spreads_163 14 rfl ?_
                              refine x_sipush C dL_spreads_165 16384 (by decide) ?_
                              refine x_icmp_lt (tgt := 182) C dL_spreads_168 (by decide) (by omega) (by omega) (fun c90 => ?_) (fun c90 => ?_)
                              · skip
                                refine x_iconst C dL_spreads_182 0 (by decide) ?_
                                refine x_istore C (ls' := [(0, vI ((al : Nat) : Int)), (1, vI o), (2, .ref qA), (3, .ref gA), (4, .ref cA), (5, .ref dA), (6, .ref eA), (7, .ref fA), (8, .ref mA), (9, vI 0), (10, vI ((k : Nat) : Int)), (11, vI ((now : Nat) : Int)), (12, .long x), (14, vI ((i : Nat) : Int)), (15, vI x13), (16, vI ((bb9.1.toNat : Nat) : Int))]) dL_spreads_183 (by decide) rfl ?_
                                refine x_iinc C (x := ((i : Nat) : Int)) (ls' := [(0, vI ((al : Nat) : Int)), (1, vI o), (2, .ref qA), (3, .ref gA), (4, .ref cA), (5, .ref dA), (6, .ref eA), (7, .ref fA), (8, .ref mA), (9, vI 0), (10, vI ((k : Nat) : Int)), (11, vI ((now : Nat) : Int)), (12, .long x), (14, vI ((((i : Nat) : Int)) + 1)), (15, vI x13), (16, vI ((bb9.1.toNat : Nat) : Int))]) dL_spreads_185 13 rfl (by decide) rfl ?_
                                refine x_goto (tgt := 61) C dL_spreads_188 (by decide) ?_
                                refine x_sub [0, 1, 2, 3, 4, 5, 6, 7, 8, 9, 10, 11, 12, 13] (ls' := [(0, vI ((al : Nat) : Int)), (1, vI o), (2, .ref qA), (3, .ref gA), (4, .ref cA), (5, .ref dA), (6, .ref eA), (7, .ref fA), (8, .ref mA), (9, vI 0), (10, vI ((k : Nat) : Int)), (11, vI ((now : Nat) : Int)), (12, .long x), (14, vI ((((i : Nat) : Int)) + 1))]) rfl ?_
                                have n92 : nq gA mA := vnt u4g u4m (p := (1, 60)) (q := (1, 2)) rfl rfl (by decide)
                                have f91 : h73 gA = some (eJ D 60 g) := by rw [e74, hu_n n92]; exact u4g
                                have n94 : nq qA mA := vnt u4q u4m (p := (0, 5)) (q := (1, 2)) rfl rfl (by decide)
                                have f93 : h73 qA = some (eI D 5 q) := by rw [e74, hu_n n94]; exact u4q
                                have n96 : nq cA mA := vnt u4c u4m (p := (1, 64)) (q := (1, 2)) rfl rfl (by decide)
                                have f95 : h73 cA = some (eJ D 64 c) := by rw [e74, hu_n n96]; exact u4c
                                have n98 : nq dA mA := vnt u4d u4m (p := (1, 64)) (q := (1, 2)) rfl rfl (by decide)
                                have f97 : h73 dA = some (eJ D 64 d) := by rw [e74, hu_n n98]; exact u4d
                                have n100 : nq eA mA := vnt u4e u4m (p := (1, 64)) (q := (1, 2)) rfl rfl (by decide)
                                have f99 : h73 eA = some (eJ D 64 e4) := by rw [e74, hu_n n100]; exact u4e
                                have n102 : nq fA mA := vnt u4f u4m (p := (1, 64)) (q := (1, 2)) rfl rfl (by decide)
                                have f101 : h73 fA = some (eJ D 64 f4) := by rw [e74, hu_n n102]; exact u4f
                                exact ihIL (i + 1) 1 e4 f4 (vp_updL m4 (Int.toNat (((bb9.1.toNat / 48 : Nat) : Int))) ((m4 (Int.toNat (((bb9.1.toNat / 48 : Nat) : Int)))) ||| (lsl 1 (((bb9.1.toNat % 48 : Nat) : Int))))) 0 h73 f91 f93 f95 f97 f99 f101 f75 (by omega) (by omega) (Or.inl ⟨rfl, hmk⟩) (hI4.step (by omega) (by omega) (by omega) hmk hbb (by first | exact mk_yes hcl (by omega) | exact mk_no (by omega)) (by first | exact ms_yes t1 (by omega) | exact ms_no (by omega)) (by omega) (by first | exact Cl_mk hcl | exact id)) (by omega) (fun b9 y1 y2 y3 => by first | exact hfr b9 y1 y2 y3 | (rw [e74]; simp only [hu_n y1, hu_n y2, hu_n y3]; exact hfr b9 y1 y2 y3))
                              · skip
                                refine x_iload C dL_spreads_171 14 rfl ?_
                                refine x_ldcI C (z := 32768) (by decide) kL_spreads_0 dL_spreads_173 ?_
                                refine x_icmp_ge (tgt := 182) C dL_spreads_175 (by decide) (by omega) (by omega) (fun c103 => ?_) (fun c103 => ?_)
                                · skip
                                  refine x_iconst C dL_spreads_182 0 (by decide) ?_
                                  refine x_istore C (ls' := [(0, vI ((al : Nat) : Int)), (1, vI o), (2, .ref qA), (3, .ref gA), (4, .ref cA), (5, .ref dA), (6, .ref eA), (7, .ref fA), (8, .ref mA), (9, vI 0), (10, vI ((k : Nat) : Int)), (11, vI ((now : Nat) : Int)), (12, .long x), (14, vI ((i : Nat) : Int)), (15, vI x13), (16, vI ((bb9.1.toNat : Nat) : Int))]) dL_spreads_183 (by decide) rfl ?_
                                  refine x_iinc C (x := ((i : Nat) : Int)) (ls' := [(0, vI ((al : Nat) : Int)), (1, vI o), (2, .ref qA), (3, .ref gA), (4, .ref cA), (5, .ref dA), (6, .ref eA), (7, .ref fA), (8, .ref mA), (9, vI 0), (10, vI ((k : Nat) : Int)), (11, vI ((now : Nat) : Int)), (12, .long x), (14, vI ((((i : Nat) : Int)) + 1)), (15, vI x13), (16, vI ((bb9.1.toNat : Nat) : Int))]) dL_spreads_185 13 rfl (by decide) rfl ?_
                                  refine x_goto (tgt := 61) C dL_spreads_188 (by decide) ?_
                                  refine x_sub [0, 1, 2, 3, 4, 5, 6, 7, 8, 9, 10, 11, 12, 13] (ls' := [(0, vI ((al : Nat) : Int)), (1, vI o), (2, .ref qA), (3, .ref gA), (4, .ref cA), (5, .ref dA), (6, .ref eA), (7, .ref fA), (8, .ref mA), (9, vI 0), (10, vI ((k : Nat) : Int)), (11, vI ((now : Nat) : Int)), (12, .long x), (14, vI ((((i : Nat) : Int)) + 1))]) rfl ?_
                                  have n105 : nq gA mA := vnt u4g u4m (p := (1, 60)) (q := (1, 2)) rfl rfl (by decide)
                                  have f104 : h73 gA = some (eJ D 60 g) := by rw [e74, hu_n n105]; exact u4g
                                  have n107 : nq qA mA := vnt u4q u4m (p := (0, 5)) (q := (1, 2)) rfl rfl (by decide)
                                  have f106 : h73 qA = some (eI D 5 q) := by rw [e74, hu_n n107]; exact u4q
                                  have n109 : nq cA mA := vnt u4c u4m (p := (1, 64)) (q := (1, 2)) rfl rfl (by decide)
                                  have f108 : h73 cA = some (eJ D 64 c) := by rw [e74, hu_n n109]; exact u4c
                                  have n111 : nq dA mA := vnt u4d u4m (p := (1, 64)) (q := (1, 2)) rfl rfl (by decide)
                                  have f110 : h73 dA = some (eJ D 64 d) := by rw [e74, hu_n n111]; exact u4d
                                  have n113 : nq eA mA := vnt u4e u4m (p := (1, 64)) (q := (1, 2)) rfl rfl (by decide)
                                  have f112 : h73 eA = some (eJ D 64 e4) := by rw [e74, hu_n n113]; exact u4e
                                  have n115 : nq fA mA := vnt u4f u4m (p := (1, 64)) (q := (1, 2)) rfl rfl (by decide)
                                  have f114 : h73 fA = some (eJ D 64 f4) := by rw [e74, hu_n n115]; exact u4f
                                  exact ihIL (i + 1) 1 e4 f4 (vp_updL m4 (Int.toNat (((bb9.1.toNat / 48 : Nat) : Int))) ((m4 (Int.toNat (((bb9.1.toNat / 48 : Nat) : Int)))) ||| (lsl 1 (((bb9.1.toNat % 48 : Nat) : Int))))) 0 h73 f104 f106 f108 f110 f112 f114 f75 (by omega) (by omega) (Or.inl ⟨rfl, hmk⟩) (hI4.step (by omega) (by omega) (by omega) hmk hbb (by first | exact mk_yes hcl (by omega) | exact mk_no (by omega)) (by first | exact ms_yes t1 (by omega) | exact ms_no (by omega)) (by omega) (by first | exact Cl_mk hcl | exact id)) (by omega) (fun b9 y1 y2 y3 => by first | exact hfr b9 y1 y2 y3 | (rw [e74]; simp only [hu_n y1, hu_n y2, hu_n y3]; exact hfr b9 y1 y2 y3))
                                · skip
                                  refine x_iconst C dL_spreads_178 1 (by decide) ?_
                                  refine x_goto (tgt := 183) C dL_spreads_179 (by decide) ?_
                                  refine x_istore C (ls' := [(0, vI ((al : Nat) : Int)), (1, vI o), (2, .ref qA), (3, .ref gA), (4, .ref cA), (5, .ref dA), (6, .ref eA), (7, .ref fA), (8, .ref mA), (9, vI 1), (10, vI ((k : Nat) : Int)), (11, vI ((now : Nat) : Int)), (12, .long x), (14, vI ((i : Nat) : Int)), (15, vI x13), (16, vI ((bb9.1.toNat : Nat) : Int))]) dL_spreads_183 (by decide) rfl ?_
                                  refine x_iinc C (x := ((i : Nat) : Int)) (ls' := [(0, vI ((al : Nat) : Int)), (1, vI o), (2, .ref qA), (3, .ref gA), (4, .ref cA), (5, .ref dA), (6, .ref eA), (7, .ref fA), (8, .ref mA), (9, vI 1), (10, vI ((k : Nat) : Int)), (11, vI ((now : Nat) : Int)), (12, .long x), (14, vI ((((i : Nat) : Int)) + 1)), (15, vI x13), (16, vI ((bb9.1.toNat : Nat) : Int))]) dL_spreads_185 13 rfl (by decide) rfl ?_
                                  refine x_goto (tgt := 61) C dL_spreads_188 (by decide) ?_
                                  refine x_sub [0, 1, 2, 3, 4, 5, 6, 7, 8, 9, 10, 11, 12, 13] (ls' := [(0, vI ((al : Nat) : Int)), (1, vI o), (2, .ref qA), (3, .ref gA), (4, .ref cA), (5, .ref dA), (6, .ref eA), (7, .ref fA), (8, .ref mA), (9, vI 1), (10, vI ((k : Nat) : Int)), (11, vI ((now : Nat) : Int)), (12, .long x), (14, vI ((((i : Nat) : Int)) + 1))]) rfl ?_
                                  have n117 : nq gA mA := vnt u4g u4m (p := (1, 60)) (q := (1, 2)) rfl rfl (by decide)
                                  have f116 : h73 gA = some (eJ D 60 g) := by rw [e74, hu_n n117]; exact u4g
                                  have n119 : nq qA mA := vnt u4q u4m (p := (0, 5)) (q := (1, 2)) rfl rfl (by decide)
                                  have f118 : h73 qA = some (eI D 5 q) := by rw [e74, hu_n n119]; exact u4q
                                  have n121 : nq cA mA := vnt u4c u4m (p := (1, 64)) (q := (1, 2)) rfl rfl (by decide)
                                  have f120 : h73 cA = some (eJ D 64 c) := by rw [e74, hu_n n121]; exact u4c
                                  have n123 : nq dA mA := vnt u4d u4m (p := (1, 64)) (q := (1, 2)) rfl rfl (by decide)
                                  have f122 : h73 dA = some (eJ D 64 d) := by rw [e74, hu_n n123]; exact u4d
                                  have n125 : nq eA mA := vnt u4e u4m (p := (1, 64)) (q := (1, 2)) rfl rfl (by decide)
                                  have f124 : h73 eA = some (eJ D 64 e4) := by rw [e74, hu_n n125]; exact u4e
                                  have n127 : nq fA mA := vnt u4f u4m (p := (1, 64)) (q := (1, 2)) rfl rfl (by decide)
                                  have f126 : h73 fA = some (eJ D 64 f4) := by rw [e74, hu_n n127]; exact u4f
                                  exact ihIL (i + 1) 1 e4 f4 (vp_updL m4 (Int.toNat (((bb9.1.toNat / 48 : Nat) : Int))) ((m4 (Int.toNat (((bb9.1.toNat / 48 : Nat) : Int)))) ||| (lsl 1 (((bb9.1.toNat % 48 : Nat) : Int))))) 1 h73 f116 f118 f120 f122 f124 f126 f75 (by omega) (by omega) (Or.inl ⟨rfl, hmk⟩) (hI4.step (by omega) (by omega) (by omega) hmk hbb (by first | exact mk_yes hcl (by omega) | exact mk_no (by omega)) (by first | exact ms_yes t1 (by omega) | exact ms_no (by omega)) (by omega) (by first | exact Cl_mk hcl | exact id)) (by omega) (fun b9 y1 y2 y3 => by first | exact hfr b9 y1 y2 y3 | (rw [e74]; simp only [hu_n y1, hu_n y2, hu_n y3]; exact hfr b9 y1 y2 y3))
                          · skip
                            refine x_iload C dL_spreads_149 14 rfl ?_
                            refine x_aload C dL_spreads_151 6 rfl ?_
                            refine x_aload C dL_spreads_153 7 rfl ?_
                            have n129 : nq eA mA := vnt u4e u4m (p := (1, 64)) (q := (1, 2)) rfl rfl (by decide)
                            have f128 : h73 eA = some (eJ D 64 e4) := by rw [e74, hu_n n129]; exact u4e
                            have n131 : nq fA mA := vnt u4f u4m (p := (1, 64)) (q := (1, 2)) rfl rfl (by decide)
                            have f130 : h73 fA = some (eJ D 64 f4) := by rw [e74, hu_n n131]; exact u4f
                            refine x_callS C (n := 3) (As := [vI x13, .ref eA, .ref fA]) (rest := []) (c_L_marks (n := (cd bb9)) f128 f130 (by omega) (by omega) (by assumption)) gL_spreads_L_marks (by decide +kernel) rfl rfl rfl (Nat.le_of_ble_eq_true rfl) ⟨by decide, by decide⟩ ⟨(by decide), (by decide)⟩ dL_spreads_155 (fun rv132 h133 hp134 => ?_)
                            obtain ⟨rfl, e135⟩ := hp134
                            have f136 : h133 fA = some (eJ D 64 (mkH f4 ((cd bb9)))) := by rw [e135]; exact hu_s
                            have f137 : h133 eA = some (eJ D 64 (mkL e4 ((cd bb9)))) := by rw [e135, hu_n nef]; exact hu_s
                            refine x_iload C dL_spreads_158 9 rfl ?_
                            refine x_if_ne (tgt := 178) C dL_spreads_160 (by decide) (by omega) (fun c138 => ?_) (fun c138 => ?_)
                            · skip
                              refine x_iconst C dL_spreads_178 1 (by decide) ?_
                              refine x_goto (tgt := 183) C dL_spreads_179 (by decide) ?_
                              refine x_istore C (ls' := [(0, vI ((al : Nat) : Int)), (1, vI o), (2, .ref qA), (3, .ref gA), (4, .ref cA), (5, .ref dA), (6, .ref eA), (7, .ref fA), (8, .ref mA), (9, vI 1), (10, vI ((k : Nat) : Int)), (11, vI ((now : Nat) : Int)), (12, .long x), (14, vI ((i : Nat) : Int)), (15, vI x13), (16, vI ((bb9.1.toNat : Nat) : Int))]) dL_spreads_183 (by decide) rfl ?_
                              refine x_iinc C (x := ((i : Nat) : Int)) (ls' := [(0, vI ((al : Nat) : Int)), (1, vI o), (2, .ref qA), (3, .ref gA), (4, .ref cA), (5, .ref dA), (6, .ref eA), (7, .ref fA), (8, .ref mA), (9, vI 1), (10, vI ((k : Nat) : Int)), (11, vI ((now : Nat) : Int)), (12, .long x), (14, vI ((((i : Nat) : Int)) + 1)), (15, vI x13), (16, vI ((bb9.1.toNat : Nat) : Int))]) dL_spreads_185 13 rfl (by decide) rfl ?_
                              refine x_goto (tgt := 61) C dL_spreads_188 (by decide) ?_
                              refine x_sub [0, 1, 2, 3, 4, 5, 6, 7, 8, 9, 10, 11, 12, 13] (ls' := [(0, vI ((al : Nat) : Int)), (1, vI o), (2, .ref qA), (3, .ref gA), (4, .ref cA), (5, .ref dA), (6, .ref eA), (7, .ref fA), (8, .ref mA), (9, vI 1), (10, vI ((k : Nat) : Int)), (11, vI ((now : Nat) : Int)), (12, .long x), (14, vI ((((i : Nat) : Int)) + 1))]) rfl ?_
                              have n140 : nq gA mA := vnt u4g u4m (p := (1, 60)) (q := (1, 2)) rfl rfl (by decide)
                              have f139 : h73 gA = some (eJ D 60 g) := by rw [e74, hu_n n140]; exact u4g
                              have n142 : nq gA fA := vnt f139 f130 (p := (1, 60)) (q := (1, 64)) rfl rfl (by decide)
                              have n143 : nq gA eA := vnt f139 f128 (p := (1, 60)) (q := (1, 64)) rfl rfl (by decide)
                              have f141 : h133 gA = some (eJ D 60 g) := by rw [e135, hu_n n142, hu_n n143]; exact f139
                              have n145 : nq qA mA := vnt u4q u4m (p := (0, 5)) (q := (1, 2)) rfl rfl (by decide)
                              have f144 : h73 qA = some (eI D 5 q) := by rw [e74, hu_n n145]; exact u4q
                              have n147 : nq qA fA := vnt f144 f130 (p := (0, 5)) (q := (1, 64)) rfl rfl (by decide)
                              have n148 : nq qA eA := vnt f144 f128 (p := (0, 5)) (q := (1, 64)) rfl rfl (by decide)
                              have f146 : h133 qA = some (eI D 5 q) := by rw [e135, hu_n n147, hu_n n148]; exact f144
                              have n150 : nq cA mA := vnt u4c u4m (p := (1, 64)) (q := (1, 2)) rfl rfl (by decide)
                              have f149 : h73 cA = some (eJ D 64 c) := by rw [e74, hu_n n150]; exact u4c
                              have f151 : h133 cA = some (eJ D 64 c) := by rw [e135, hu_n ncf, hu_n nce]; exact f149
                              have n153 : nq dA mA := vnt u4d u4m (p := (1, 64)) (q := (1, 2)) rfl rfl (by decide)
                              have f152 : h73 dA = some (eJ D 64 d) := by rw [e74, hu_n n153]; exact u4d
                              have f154 : h133 dA = some (eJ D 64 d) := by rw [e135, hu_n ndf, hu_n nde]; exact f152
                              have f155 : h133 mA = some (eJ D 2 (vp_updL m4 (Int.toNat (((bb9.1.toNat / 48 : Nat) : Int))) ((m4 (Int.toNat (((bb9.1.toNat / 48 : Nat) : Int)))) ||| (lsl 1 (((bb9.1.toNat % 48 : Nat) : Int)))))) := by rw [e135, hu_n (Ne.symm n131), hu_n (Ne.symm n129)]; exact f75
                              exact ihIL (i + 1) 1 (mkL e4 ((cd bb9))) (mkH f4 ((cd bb9))) (vp_updL m4 (Int.toNat (((bb9.1.toNat / 48 : Nat) : Int))) ((m4 (Int.toNat (((bb9.1.toNat / 48 : Nat) : Int)))) ||| (lsl 1 (((bb9.1.toNat % 48 : Nat) : Int))))) 1 h133 f141 f146 f151 f154 f137 f136 f155 (by omega) (by omega) (Or.inl ⟨rfl, hmk⟩) (hI4.step (by omega) (by omega) (by omega) hmk hbb (by first | exact mk_yes hcl (by omega) | exact mk_no (by omega)) (by first | exact ms_yes t1 (by omega) | exact ms_no (by omega)) (by omega) (by first | exact Cl_mk hcl | exact id)) (by omega) (fun b9 y1 y2 y3 => by first | exact hfr b9 y1 y2 y3 | (rw [e135, e74]; simp only [hu_n y1, hu_n y2, hu_n y3]; exact hfr b9 y1 y2 y3))
                            · skip
                              refine x_iload C dL_spreads_163 14 rfl ?_
                              refine x_sipush C dL_spreads_165 16384 (by decide) ?_
                              refine x_icmp_lt (tgt := 182) C dL_spreads_168 (by decide) (by omega) (by omega) (fun c156 => ?_) (fun c156 => ?_)
                              · skip
                                refine x_iconst C dL_spreads_182 0 (by decide) ?_
                                refine x_istore C (ls' := [(0, vI ((al : Nat) : Int)), (1, vI o), (2, .ref qA), (3, .ref gA), (4, .ref cA), (5, .ref dA), (6, .ref eA), (7, .ref fA), (8, .ref mA), (9, vI 0), (10, vI ((k : Nat) : Int)), (11, vI ((now : Nat) : Int)), (12, .long x), (14, vI ((i : Nat) : Int)), (15, vI x13), (16, vI ((bb9.1.toNat : Nat) : Int))]) dL_spreads_183 (by decide) rfl ?_
                                refine x_iinc C (x := ((i : Nat) : Int)) (ls' := [(0, vI ((al : Nat) : Int)), (1, vI o), (2, .ref qA), (3, .ref gA), (4, .ref cA), (5, .ref dA), (6, .ref eA), (7, .ref fA), (8, .ref mA), (9, vI 0), (10, vI ((k : Nat) : Int)), (11, vI ((now : Nat) : Int)), (12, .long x), (14, vI ((((i : Nat) : Int)) + 1)), (15, vI x13), (16, vI ((bb9.1.toNat : Nat) : Int))]) dL_spreads_185 13 rfl (by decide) rfl ?_
                                refine x_goto (tgt := 61) C dL_spreads_188 (by decide) ?_
                                refine x_sub [0, 1, 2, 3, 4, 5, 6, 7, 8, 9, 10, 11, 12, 13] (ls' := [(0, vI ((al : Nat) : Int)), (1, vI o), (2, .ref qA), (3, .ref gA), (4, .ref cA), (5, .ref dA), (6, .ref eA), (7, .ref fA), (8, .ref mA), (9, vI 0), (10, vI ((k : Nat) : Int)), (11, vI ((now : Nat) : Int)), (12, .long x), (14, vI ((((i : Nat) : Int)) + 1))]) rfl ?_
                                have n158 : nq gA mA := vnt u4g u4m (p := (1, 60)) (q := (1, 2)) rfl rfl (by decide)
                                have f157 : h73 gA = some (eJ D 60 g) := by rw [e74, hu_n n158]; exact u4g
                                have n160 : nq gA fA := vnt f157 f130 (p := (1, 60)) (q := (1, 64)) rfl rfl (by decide)
                                have n161 : nq gA eA := vnt f157 f128 (p := (1, 60)) (q := (1, 64)) rfl rfl (by decide)
                                have f159 : h133 gA = some (eJ D 60 g) := by rw [e135, hu_n n160, hu_n n161]; exact f157
                                have n163 : nq qA mA := vnt u4q u4m (p := (0, 5)) (q := (1, 2)) rfl rfl (by decide)
                                have f162 : h73 qA = some (eI D 5 q) := by rw [e74, hu_n n163]; exact u4q
                                have n165 : nq qA fA := vnt f162 f130 (p := (0, 5)) (q := (1, 64)) rfl rfl (by decide)
                                have n166 : nq qA eA := vnt f162 f128 (p := (0, 5)) (q := (1, 64)) rfl rfl (by decide)
                                have f164 : h133 qA = some (eI D 5 q) := by rw [e135, hu_n n165, hu_n n166]; exact f162
                                have n168 : nq cA mA := vnt u4c u4m (p := (1, 64)) (q := (1, 2)) rfl rfl (by decide)
                                have f167 : h73 cA = some (eJ D 64 c) := by rw [e74, hu_n n168]; exact u4c
                                have f169 : h133 cA = some (eJ D 64 c) := by rw [e135, hu_n ncf, hu_n nce]; exact f167
                                have n171 : nq dA mA := vnt u4d u4m (p := (1, 64)) (q := (1, 2)) rfl rfl (by decide)
                                have f170 : h73 dA = some (eJ D 64 d) := by rw [e74, hu_n n171]; exact u4d
                                have f172 : h133 dA = some (eJ D 64 d) := by rw [e135, hu_n ndf, hu_n nde]; exact f170
                                have f173 : h133 mA = some (eJ D 2 (vp_updL m4 (Int.toNat (((bb9.1.toNat / 48 : Nat) : Int))) ((m4 (Int.toNat (((bb9.1.toNat / 48 : Nat) : Int)))) ||| (lsl 1 (((bb9.1.toNat % 48 : Nat) : Int)))))) := by rw [e135, hu_n (Ne.symm n131), hu_n (Ne.symm n129)]; exact f75
                                exact ihIL (i + 1) 1 (mkL e4 ((cd bb9))) (mkH f4 ((cd bb9))) (vp_updL m4 (Int.toNat (((bb9.1.toNat / 48 : Nat) : Int))) ((m4 (Int.toNat (((bb9.1.toNat / 48 : Nat) : Int)))) ||| (lsl 1 (((bb9.1.toNat % 48 : Nat) : Int))))) 0 h133 f159 f164 f169 f172 f137 f136 f173 (by omega) (by omega) (Or.inl ⟨rfl, hmk⟩) (hI4.step (by omega) (by omega) (by omega) hmk hbb (by first | exact mk_yes hcl (by omega) | exact mk_no (by omega)) (by first | exact ms_yes t1 (by omega) | exact ms_no (by omega)) (by omega) (by first | exact Cl_mk hcl | exact id)) (by omega) (fun b9 y1 y2 y3 => by first | exact hfr b9 y1 y2 y3 | (rw [e135, e74]; simp only [hu_n y1, hu_n y2, hu_n y3]; exact hfr b9 y1 y2 y3))
                              · skip
                                refine x_iload C dL_spreads_171 14 rfl ?_
                                refine x_ldcI C (z := 32768) (by decide) kL_spreads_0 dL_spreads_173 ?_
                                refine x_icmp_ge (tgt := 182) C dL_spreads_175 (by decide) (by omega) (by omega) (fun c174 => ?_) (fun c174 => ?_)
                                · skip
                                  refine x_iconst C dL_spreads_182 0 (by decide) ?_
                                  refine x_istore C (ls' := [(0, vI ((al : Nat) : Int)), (1, vI o), (2, .ref qA), (3, .ref gA), (4, .ref cA), (5, .ref dA), (6, .ref eA), (7, .ref fA), (8, .ref mA), (9, vI 0), (10, vI ((k : Nat) : Int)), (11, vI ((now : Nat) : Int)), (12, .long x), (14, vI ((i : Nat) : Int)), (15, vI x13), (16, vI ((bb9.1.toNat : Nat) : Int))]) dL_spreads_183 (by decide) rfl ?_
                                  refine x_iinc C (x := ((i : Nat) : Int)) (ls' := [(0, vI ((al : Nat) : Int)), (1, vI o), (2, .ref qA), (3, .ref gA), (4, .ref cA), (5, .ref dA), (6, .ref eA), (7, .ref fA), (8, .ref mA), (9, vI 0), (10, vI ((k : Nat) : Int)), (11, vI ((now : Nat) : Int)), (12, .long x), (14, vI ((((i : Nat) : Int)) + 1)), (15, vI x13), (16, vI ((bb9.1.toNat : Nat) : Int))]) dL_spreads_185 13 rfl (by decide) rfl ?_
                                  refine x_goto (tgt := 61) C dL_spreads_188 (by decide) ?_
                                  refine x_sub [0, 1, 2, 3, 4, 5, 6, 7, 8, 9, 10, 11, 12, 13] (ls' := [(0, vI ((al : Nat) : Int)), (1, vI o), (2, .ref qA), (3, .ref gA), (4, .ref cA), (5, .ref dA), (6, .ref eA), (7, .ref fA), (8, .ref mA), (9, vI 0), (10, vI ((k : Nat) : Int)), (11, vI ((now : Nat) : Int)), (12, .long x), (14, vI ((((i : Nat) : Int)) + 1))]) rfl ?_
                                  have n176 : nq gA mA := vnt u4g u4m (p := (1, 60)) (q := (1, 2)) rfl rfl (by decide)
                                  have f175 : h73 gA = some (eJ D 60 g) := by rw [e74, hu_n n176]; exact u4g
                                  have n178 : nq gA fA := vnt f175 f130 (p := (1, 60)) (q := (1, 64)) rfl rfl (by decide)
                                  have n179 : nq gA eA := vnt f175 f128 (p := (1, 60)) (q := (1, 64)) rfl rfl (by decide)
                                  have f177 : h133 gA = some (eJ D 60 g) := by rw [e135, hu_n n178, hu_n n179]; exact f175
                                  have n181 : nq qA mA := vnt u4q u4m (p := (0, 5)) (q := (1, 2)) rfl rfl (by decide)
                                  have f180 : h73 qA = some (eI D 5 q) := by rw [e74, hu_n n181]; exact u4q
                                  have n183 : nq qA fA := vnt f180 f130 (p := (0, 5)) (q := (1, 64)) rfl rfl (by decide)
                                  have n184 : nq qA eA := vnt f180 f128 (p := (0, 5)) (q := (1, 64)) rfl rfl (by decide)
                                  have f182 : h133 qA = some (eI D 5 q) := by rw [e135, hu_n n183, hu_n n184]; exact f180
                                  have n186 : nq cA mA := vnt u4c u4m (p := (1, 64)) (q := (1, 2)) rfl rfl (by decide)
                                  have f185 : h73 cA = some (eJ D 64 c) := by rw [e74, hu_n n186]; exact u4c
                                  have f187 : h133 cA = some (eJ D 64 c) := by rw [e135, hu_n ncf, hu_n nce]; exact f185
                                  have n189 : nq dA mA := vnt u4d u4m (p := (1, 64)) (q := (1, 2)) rfl rfl (by decide)
                                  have f188 : h73 dA = some (eJ D 64 d) := by rw [e74, hu_n n189]; exact u4d
                                  have f190 : h133 dA = some (eJ D 64 d) := by rw [e135, hu_n ndf, hu_n nde]; exact f188
                                  have f191 : h133 mA = some (eJ D 2 (vp_updL m4 (Int.toNat (((bb9.1.toNat / 48 : Nat) : Int))) ((m4 (Int.toNat (((bb9.1.toNat / 48 : Nat) : Int)))) ||| (lsl 1 (((bb9.1.toNat % 48 : Nat) : Int)))))) := by rw [e135, hu_n (Ne.symm n131), hu_n (Ne.symm n129)]; exact f75
                                  exact ihIL (i + 1) 1 (mkL e4 ((cd bb9))) (mkH f4 ((cd bb9))) (vp_updL m4 (Int.toNat (((bb9.1.toNat / 48 : Nat) : Int))) ((m4 (Int.toNat (((bb9.1.toNat / 48 : Nat) : Int)))) ||| (lsl 1 (((bb9.1.toNat % 48 : Nat) : Int))))) 0 h133 f177 f182 f187 f190 f137 f136 f191 (by omega) (by omega) (Or.inl ⟨rfl, hmk⟩) (hI4.step (by omega) (by omega) (by omega) hmk hbb (by first | exact mk_yes hcl (by omega) | exact mk_no (by omega)) (by first | exact ms_yes t1 (by omega) | exact ms_no (by omega)) (by omega) (by first | exact Cl_mk hcl | exact id)) (by omega) (fun b9 y1 y2 y3 => by first | exact hfr b9 y1 y2 y3 | (rw [e135, e74]; simp only [hu_n y1, hu_n y2, hu_n y3]; exact hfr b9 y1 y2 y3))
                                · skip
                                  refine x_iconst C dL_spreads_178 1 (by decide) ?_
                                  refine x_goto (tgt := 183) C dL_spreads_179 (by decide) ?_
                                  refine x_istore C (ls' := [(0, vI ((al : Nat) : Int)), (1, vI o), (2, .ref qA), (3, .ref gA), (4, .ref cA), (5, .ref dA), (6, .ref eA), (7, .ref fA), (8, .ref mA), (9, vI 1), (10, vI ((k : Nat) : Int)), (11, vI ((now : Nat) : Int)), (12, .long x), (14, vI ((i : Nat) : Int)), (15, vI x13), (16, vI ((bb9.1.toNat : Nat) : Int))]) dL_spreads_183 (by decide) rfl ?_
                                  refine x_iinc C (x := ((i : Nat) : Int)) (ls' := [(0, vI ((al : Nat) : Int)), (1, vI o), (2, .ref qA), (3, .ref gA), (4, .ref cA), (5, .ref dA), (6, .ref eA), (7, .ref fA), (8, .ref mA), (9, vI 1), (10, vI ((k : Nat) : Int)), (11, vI ((now : Nat) : Int)), (12, .long x), (14, vI ((((i : Nat) : Int)) + 1)), (15, vI x13), (16, vI ((bb9.1.toNat : Nat) : Int))]) dL_spreads_185 13 rfl (by decide) rfl ?_
                                  refine x_goto (tgt := 61) C dL_spreads_188 (by decide) ?_
                                  refine x_sub [0, 1, 2, 3, 4, 5, 6, 7, 8, 9, 10, 11, 12, 13] (ls' := [(0, vI ((al : Nat) : Int)), (1, vI o), (2, .ref qA), (3, .ref gA), (4, .ref cA), (5, .ref dA), (6, .ref eA), (7, .ref fA), (8, .ref mA), (9, vI 1), (10, vI ((k : Nat) : Int)), (11, vI ((now : Nat) : Int)), (12, .long x), (14, vI ((((i : Nat) : Int)) + 1))]) rfl ?_
                                  have n193 : nq gA mA := vnt u4g u4m (p := (1, 60)) (q := (1, 2)) rfl rfl (by decide)
                                  have f192 : h73 gA = some (eJ D 60 g) := by rw [e74, hu_n n193]; exact u4g
                                  have n195 : nq gA fA := vnt f192 f130 (p := (1, 60)) (q := (1, 64)) rfl rfl (by decide)
                                  have n196 : nq gA eA := vnt f192 f128 (p := (1, 60)) (q := (1, 64)) rfl rfl (by decide)
                                  have f194 : h133 gA = some (eJ D 60 g) := by rw [e135, hu_n n195, hu_n n196]; exact f192
                                  have n198 : nq qA mA := vnt u4q u4m (p := (0, 5)) (q := (1, 2)) rfl rfl (by decide)
                                  have f197 : h73 qA = some (eI D 5 q) := by rw [e74, hu_n n198]; exact u4q
                                  have n200 : nq qA fA := vnt f197 f130 (p := (0, 5)) (q := (1, 64)) rfl rfl (by decide)
                                  have n201 : nq qA eA := vnt f197 f128 (p := (0, 5)) (q := (1, 64)) rfl rfl (by decide)
                                  have f199 : h133 qA = some (eI D 5 q) := by rw [e135, hu_n n200, hu_n n201]; exact f197
                                  have n203 : nq cA mA := vnt u4c u4m (p := (1, 64)) (q := (1, 2)) rfl rfl (by decide)
                                  have f202 : h73 cA = some (eJ D 64 c) := by rw [e74, hu_n n203]; exact u4c
                                  have f204 : h133 cA = some (eJ D 64 c) := by rw [e135, hu_n ncf, hu_n nce]; exact f202
                                  have n206 : nq dA mA := vnt u4d u4m (p := (1, 64)) (q := (1, 2)) rfl rfl (by decide)
                                  have f205 : h73 dA = some (eJ D 64 d) := by rw [e74, hu_n n206]; exact u4d
                                  have f207 : h133 dA = some (eJ D 64 d) := by rw [e135, hu_n ndf, hu_n nde]; exact f205
                                  have f208 : h133 mA = some (eJ D 2 (vp_updL m4 (Int.toNat (((bb9.1.toNat / 48 : Nat) : Int))) ((m4 (Int.toNat (((bb9.1.toNat / 48 : Nat) : Int)))) ||| (lsl 1 (((bb9.1.toNat % 48 : Nat) : Int)))))) := by rw [e135, hu_n (Ne.symm n131), hu_n (Ne.symm n129)]; exact f75
                                  exact ihIL (i + 1) 1 (mkL e4 ((cd bb9))) (mkH f4 ((cd bb9))) (vp_updL m4 (Int.toNat (((bb9.1.toNat / 48 : Nat) : Int))) ((m4 (Int.toNat (((bb9.1.toNat / 48 : Nat) : Int)))) ||| (lsl 1 (((bb9.1.toNat % 48 : Nat) : Int))))) 1 h133 f194 f199 f204 f207 f137 f136 f208 (by omega) (by omega) (Or.inl ⟨rfl, hmk⟩) (hI4.step (by omega) (by omega) (by omega) hmk hbb (by first | exact mk_yes hcl (by omega) | exact mk_no (by omega)) (by first | exact ms_yes t1 (by omega) | exact ms_no (by omega)) (by omega) (by first | exact Cl_mk hcl | exact id)) (by omega) (fun b9 y1 y2 y3 => by first | exact hfr b9 y1 y2 y3 | (rw [e135, e74]; simp only [hu_n y1, hu_n y2, hu_n y3]; exact hfr b9 y1 y2 y3))
                refine x_sub [1, 2, 3, 4, 5, 6, 7, 8, 9, 10, 11, 12, 0, 13] (ls' := [(0, vI ((al : Nat) : Int)), (1, vI o), (2, .ref qA), (3, .ref gA), (4, .ref cA), (5, .ref dA), (6, .ref eA), (7, .ref fA), (8, .ref mA), (9, vI w3), (10, vI ((k : Nat) : Int)), (11, vI ((now : Nat) : Int)), (12, .long ((lsr (d (Int.toNat (((k : Nat) : Int)))) (((now - 48 : Nat) : Int))) &&& 1)), (14, vI 0)]) rfl ?_
                exact IL (7) 0 ((lsr (d (Int.toNat (((k : Nat) : Int)))) (((now - 48 : Nat) : Int))) &&& 1) e3 f3 m3 w3 h3 u3g u3q u3c u3d u3e u3f u3m (by omega) (by omega) (hx39.imp id (fun z9 => ⟨z9.1, z9.2, rfl⟩)) (hI3) (hw3) (hfr)
              · skip
                refine x_aload C dL_spreads_30 4 rfl ?_
                refine x_iload C dL_spreads_32 10 rfl ?_
                refine x_lald C u3c ⟨by omega, by omega⟩ (by decide) dL_spreads_34 ?_
                refine x_iload C dL_spreads_35 11 rfl ?_
                refine x_lshr C dL_spreads_37 ?_
                refine x_lconst C (v := 1) dL_spreads_38 rfl ?_
                refine x_land C dL_spreads_39 ?_
                refine x_topl (fun x209 ex210 => ?_)
                have hx39 := MkL (c := c) (d := d) (k := k) (now := now) (by omega) (by omega)
                rw [show lsr (c k) ((now : Nat) : Int) &&& 1 = x209 from ex210.symm] at hx39
                refine x_goto (tgt := 56) C dL_spreads_40 (by decide) ?_
                refine x_lstore C (ls' := [(12, .long x209), (0, vI ((al : Nat) : Int)), (1, vI o), (2, .ref qA), (3, .ref gA), (4, .ref cA), (5, .ref dA), (6, .ref eA), (7, .ref fA), (8, .ref mA), (9, vI w3), (10, vI ((k : Nat) : Int)), (11, vI ((now : Nat) : Int))]) dL_spreads_56 (by decide) rfl ?_
                refine x_iconst C dL_spreads_58 0 (by decide) ?_
                refine x_istore C (ls' := [(12, .long x209), (0, vI ((al : Nat) : Int)), (1, vI o), (2, .ref qA), (3, .ref gA), (4, .ref cA), (5, .ref dA), (6, .ref eA), (7, .ref fA), (8, .ref mA), (9, vI w3), (10, vI ((k : Nat) : Int)), (11, vI ((now : Nat) : Int)), (14, vI 0)]) dL_spreads_59 (by decide) rfl ?_
                have IL : ∀ (N4 : Nat) (i : Nat) (x : Int64) (e4 f4 m4 : Nat → Int64) (w4 : Int) (h211 : vh)  (u4g : h211 gA = some (eJ D 60 g)) (u4q : h211 qA = some (eI D 5 q)) (u4c : h211 cA = some (eJ D 64 c)) (u4d : h211 dA = some (eJ D 64 d)) (u4e : h211 eA = some (eJ D 64 e4)) (u4f : h211 fA = some (eJ D 64 f4)) (u4m : h211 mA = some (eJ D 2 m4)) (hi : i ≤ 6) (hN4 : 6 - i < N4) (hx : (x = 1 ∧ Mk c d (64 * now + k)) ∨ (x = 0 ∧ ¬ Mk c d (64 * now + k) ∧ i = 0)) (hI4 : SPI (TTr (gk g o.toNat) (kbr (gk g o.toNat) (fun _ => 0)) al S) c d e f m k now i e4 f4 m4 w4) (hw4 : w4 = 0 ∨ w4 = 1) (hfr : ∀ b9, b9 ≠ eA → b9 ≠ fA → b9 ≠ mA → h211 b9 = h b9), X κ 0 0 h211 [(0, vI ((al : Nat) : Int)), (1, vI o), (2, .ref qA), (3, .ref gA), (4, .ref cA), (5, .ref dA), (6, .ref eA), (7, .ref fA), (8, .ref mA), (9, vI w4), (10, vI ((k : Nat) : Int)), (11, vI ((now : Nat) : Int)), (12, .long x), (14, vI ((i : Nat) : Int))] 61 [] := by
                  intro N4
                  induction N4 with
                  | zero => intro i x e4 f4 m4 w4 h211 u4g u4q u4c u4d u4e u4f u4m hi hN4 hx hI4 hw4 hfr; exfalso; omega
                  | succ N4 ihIL =>
                    intro i x e4 f4 m4 w4 h211 u4g u4q u4c u4d u4e u4f u4m hi hN4 hx hI4 hw4 hfr
                    refine x_iload C dL_spreads_61 13 rfl ?_
                    refine x_bipush C dL_spreads_63 6 (by decide) ?_
                    refine x_icmp_ge (tgt := 191) C dL_spreads_65 (by decide) (by omega) (by omega) (fun c212 => ?_) (fun c212 => ?_)
                    · skip
                      refine x_iinc C (x := ((now : Nat) : Int)) (ls' := [(0, vI ((al : Nat) : Int)), (1, vI o), (2, .ref qA), (3, .ref gA), (4, .ref cA), (5, .ref dA), (6, .ref eA), (7, .ref fA), (8, .ref mA), (9, vI w4), (10, vI ((k : Nat) : Int)), (11, vI ((((now : Nat) : Int)) + 1)), (12, .long x), (14, vI ((i : Nat) : Int))]) dL_spreads_191 11 rfl (by decide) rfl ?_
                      refine x_goto (tgt := 16) C dL_spreads_194 (by decide) ?_
                      refine x_sub [0, 1, 2, 3, 4, 5, 6, 7, 8, 9, 10, 11] (ls' := [(0, vI ((al : Nat) : Int)), (1, vI o), (2, .ref qA), (3, .ref gA), (4, .ref cA), (5, .ref dA), (6, .ref eA), (7, .ref fA), (8, .ref mA), (9, vI w4), (10, vI ((k : Nat) : Int)), (11, vI ((((now : Nat) : Int)) + 1))]) rfl ?_
                      exact ihNL (now + 1) e4 f4 m4 w4 h211 u4g u4q u4c u4d u4e u4f u4m (by omega) (by omega) (by first | (have q9 : i = 6 := (by omega); subst q9; exact hI4.row) | (have q9 := hxb.2; subst q9; exact hI4.skip (by omega) hxb.1)) (hw4) (hfr)
                    · skip
                      refine x_lload C dL_spreads_68 12 rfl ?_
                      refine x_lconst C (v := 1) dL_spreads_70 rfl ?_
                      refine x_lcmp_ne (tgt := 191) C dL_spreads_71 dL_spreads_72 (by decide) (fun c213 => ?_) (fun c213 => ?_)
                      · skip
                        have hxb : ¬ Mk c d (64 * now + k) ∧ i = 0 := hx.elim (fun q9 => absurd q9.1 c213) (fun q9 => q9.2)
                        refine x_iinc C (x := ((now : Nat) : Int)) (ls' := [(0, vI ((al : Nat) : Int)), (1, vI o), (2, .ref qA), (3, .ref gA), (4, .ref cA), (5, .ref dA), (6, .ref eA), (7, .ref fA), (8, .ref mA), (9, vI w4), (10, vI ((k : Nat) : Int)), (11, vI ((((now : Nat) : Int)) + 1)), (12, .long x), (14, vI ((i : Nat) : Int))]) dL_spreads_191 11 rfl (by decide) rfl ?_
                        refine x_goto (tgt := 16) C dL_spreads_194 (by decide) ?_
                        refine x_sub [0, 1, 2, 3, 4, 5, 6, 7, 8, 9, 10, 11] (ls' := [(0, vI ((al : Nat) : Int)), (1, vI o), (2, .ref qA), (3, .ref gA), (4, .ref cA), (5, .ref dA), (6, .ref eA), (7, .ref fA), (8, .ref mA), (9, vI w4), (10, vI ((k : Nat) : Int)), (11, vI ((((now : Nat) : Int)) + 1))]) rfl ?_
                        exact ihNL (now + 1) e4 f4 m4 w4 h211 u4g u4q u4c u4d u4e u4f u4m (by omega) (by omega) (by first | (have q9 : i = 6 := (by omega); subst q9; exact hI4.row) | (have q9 := hxb.2; subst q9; exact hI4.skip (by omega) hxb.1)) (hw4) (hfr)
                      · skip
                        have hmk : Mk c d (64 * now + k) := hx.elim (fun q9 => q9.2) (fun q9 => by have q8 := q9.1; rw [c213] at q8; exact absurd q8 (by decide))
                        have hx1e : x = 1 := c213
                        subst hx1e
                        refine x_iload C dL_spreads_75 11 rfl ?_
                        refine x_sipush C dL_spreads_77 128 (by decide) ?_
                        refine x_iload C dL_spreads_80 10 rfl ?_
                        refine x_bipush C dL_spreads_82 8 (by decide) ?_
                        refine x_idiv C dL_spreads_84 (by omega) (by omega) (by omega) (by omega) ?_
                        refine x_imul C dL_spreads_85 ?_
                        refine x_iadd C dL_spreads_86 ?_
                        refine x_sipush C dL_spreads_87 1024 (by decide) ?_
                        refine x_iload C dL_spreads_90 10 rfl ?_
                        refine x_bipush C dL_spreads_92 8 (by decide) ?_
                        refine x_irem C dL_spreads_94 (by omega) (by omega) (by omega) (by omega) ?_
                        refine x_imul C dL_spreads_95 ?_
                        refine x_iadd C dL_spreads_96 ?_
                        refine x_iload C dL_spreads_97 13 rfl ?_
                        refine x_iload_n C dL_spreads_99 0 rfl ?_
                        refine x_iload_n C dL_spreads_100 1 rfl ?_
                        refine x_aload_n C dL_spreads_101 2 rfl ?_
                        refine x_aload_n C dL_spreads_102 3 rfl ?_
                        refine x_callS C (n := 6) (As := [vI (((((now : Nat) : Int)) + (128 * ((((k : Nat) : Int)) / 8))) + (1024 * ((((k : Nat) : Int)) % 8))), vI ((i : Nat) : Int), vI ((al : Nat) : Int), vI o, .ref qA, .ref gA]) (rest := []) (c_L_step (c := ((now : Nat) : Int)) (v := (((k / 8 : Nat) : Int) - 4)) (t := (k % 8)) (S := S) u4g u4q (by omega) (by omega) (by omega) (by omega) (by omega) (by omega) (by omega) (by have q9 := hgd _ (by omega) hmk; unfold GB at q9; rw [show (64 * now + k) % 8 = k % 8 by omega, show (64 * now + k) / 64 = now by omega] at q9; exact q9) (by omega) (by omega) (by omega) (by omega)) gL_spreads_L_step (by decide +kernel) rfl rfl rfl (Nat.le_of_ble_eq_true rfl) ⟨by decide, by decide⟩ ⟨(by decide), (by decide)⟩ dL_spreads_103 (fun rv214 h215 hp216 => ?_)
                        obtain ⟨rfl, e217⟩ := hp216
                        obtain rfl := e217.symm
                        refine x_topi (fun x218 ex219 => ?_)
                        have hx1 : x218 = encB ((TTr (gk g o.toNat) (kbr (gk g o.toNat) (fun _ => 0)) al S) (64 * now + k) i) := by rw [ex219, TT_e (by omega)]
                        obtain ⟨⟨t1, t2, t3, t4, t5, t6, t7⟩, hb3⟩ := TTr_ok (f := (gk g o.toNat)) (B := (kbr (gk g o.toNat) (fun _ => 0))) (al := al) (S := S) (kbr_8 hA) rS (64 * now + k) (by omega) i (by omega)
                        obtain ⟨bb9, hbb⟩ : ∃ bb9 : B4, bb9 = (TTr (gk g o.toNat) (kbr (gk g o.toNat) (fun _ => 0)) al S) (64 * now + k) i := ⟨_, rfl⟩
                        rw [← hbb] at hx1 t1 t2 t3 t4 t5 t6 t7 hb3
                        have hx2 : x218 = bb9.1 + 128 * (bb9.2.1 + 4) + 1024 * ((bb9.2.2.1 : Nat) : Int) + stK bb9.2.2.2 := hx1
                        have hk3 : (bb9.2.2.2 = 1 ∧ stK bb9.2.2.2 = 0) ∨ (bb9.2.2.2 = 2 ∧ stK bb9.2.2.2 = 16384) ∨ (bb9.2.2.2 = 3 ∧ stK bb9.2.2.2 = 32768) := by
                          rcases hb3 with q9 | q9 | q9 <;> rw [q9] <;> simp [stK]
                        have hcd : cd bb9 = 64 * bb9.1.toNat + 8 * (bb9.2.1 + 4).toNat + bb9.2.2.1 := rfl
                        have hcl : cd bb9 < 6144 := by omega
                        refine x_istore C (ls' := [(0, vI ((al : Nat) : Int)), (1, vI o), (2, .ref qA), (3, .ref gA), (4, .ref cA), (5, .ref dA), (6, .ref eA), (7, .ref fA), (8, .ref mA), (9, vI w4), (10, vI ((k : Nat) : Int)), (11, vI ((now : Nat) : Int)), (12, .long x), (14, vI ((i : Nat) : Int)), (15, vI x218)]) dL_spreads_106 (by decide) rfl ?_
                        refine x_iload C dL_spreads_108 14 rfl ?_
                        refine x_ldcI C (z := 32768) (by decide) kL_spreads_0 dL_spreads_110 ?_
                        refine x_icmp_ge (tgt := 141) C dL_spreads_112 (by decide) (by omega) (by omega) (fun c220 => ?_) (fun c220 => ?_)
                        · skip
                          refine x_iload C dL_spreads_141 14 rfl ?_
                          refine x_sipush C dL_spreads_143 16384 (by decide) ?_
                          refine x_icmp_ge (tgt := 158) C dL_spreads_146 (by decide) (by omega) (by omega) (fun c221 => ?_) (fun c221 => ?_)
                          · skip
                            refine x_iload C dL_spreads_158 9 rfl ?_
                            refine x_if_ne (tgt := 178) C dL_spreads_160 (by decide) (by omega) (fun c222 => ?_) (fun c222 => ?_)
                            · skip
                              refine x_iconst C dL_spreads_178 1 (by decide) ?_
                              refine x_goto (tgt := 183) C dL_spreads_179 (by decide) ?_
                              refine x_istore C (ls' := [(0, vI ((al : Nat) : Int)), (1, vI o), (2, .ref qA), (3, .ref gA), (4, .ref cA), (5, .ref dA), (6, .ref eA), (7, .ref fA), (8, .ref mA), (9, vI 1), (10, vI ((k : Nat) : Int)), (11, vI ((now : Nat) : Int)), (12, .long x), (14, vI ((i : Nat) : Int)), (15, vI x218)]) dL_spreads_183 (by decide) rfl ?_
                              refine x_iinc C (x := ((i : Nat) : Int)) (ls' := [(0, vI ((al : Nat) : Int)), (1, vI o), (2, .ref qA), (3, .ref gA), (4, .ref cA), (5, .ref dA), (6, .ref eA), (7, .ref fA), (8, .ref mA), (9, vI 1), (10, vI ((k : Nat) : Int)), (11, vI ((now : Nat) : Int)), (12, .long x), (14, vI ((((i : Nat) : Int)) + 1)), (15, vI x218)]) dL_spreads_185 13 rfl (by decide) rfl ?_
                              refine x_goto (tgt := 61) C dL_spreads_188 (by decide) ?_
                              refine x_sub [0, 1, 2, 3, 4, 5, 6, 7, 8, 9, 10, 11, 12, 13] (ls' := [(0, vI ((al : Nat) : Int)), (1, vI o), (2, .ref qA), (3, .ref gA), (4, .ref cA), (5, .ref dA), (6, .ref eA), (7, .ref fA), (8, .ref mA), (9, vI 1), (10, vI ((k : Nat) : Int)), (11, vI ((now : Nat) : Int)), (12, .long x), (14, vI ((((i : Nat) : Int)) + 1))]) rfl ?_
                              exact ihIL (i + 1) 1 e4 f4 m4 1 h211 u4g u4q u4c u4d u4e u4f u4m (by omega) (by omega) (Or.inl ⟨rfl, hmk⟩) (hI4.step (by omega) (by omega) (by omega) hmk hbb (by first | exact mk_yes hcl (by omega) | exact mk_no (by omega)) (by first | exact ms_yes t1 (by omega) | exact ms_no (by omega)) (by omega) (by first | exact Cl_mk hcl | exact id)) (by omega) (fun b9 y1 y2 y3 => by first | exact hfr b9 y1 y2 y3 | (rw []; simp only [hu_n y1, hu_n y2, hu_n y3]; exact hfr b9 y1 y2 y3))
                            · skip
                              refine x_iload C dL_spreads_163 14 rfl ?_
                              refine x_sipush C dL_spreads_165 16384 (by decide) ?_
                              refine x_icmp_lt (tgt := 182) C dL_spreads_168 (by decide) (by omega) (by omega) (fun c223 => ?_) (fun c223 => ?_)
                              · skip
                                refine x_iconst C dL_spreads_182 0 (by decide) ?_
                                refine x_istore C (ls' := [(0, vI ((al : Nat) : Int)), (1, vI o), (2, .ref qA), (3, .ref gA), (4, .ref cA), (5, .ref dA), (6, .ref eA), (7, .ref fA), (8, .ref mA), (9, vI 0), (10, vI ((k : Nat) : Int)), (11, vI ((now : Nat) : Int)), (12, .long x), (14, vI ((i : Nat) : Int)), (15, vI x218)]) dL_spreads_183 (by decide) rfl ?_
                                refine x_iinc C (x := ((i : Nat) : Int)) (ls' := [(0, vI ((al : Nat) : Int)), (1, vI o), (2, .ref qA), (3, .ref gA), (4, .ref cA), (5, .ref dA), (6, .ref eA), (7, .ref fA), (8, .ref mA), (9, vI 0), (10, vI ((k : Nat) : Int)), (11, vI ((now : Nat) : Int)), (12, .long x), (14, vI ((((i : Nat) : Int)) + 1)), (15, vI x218)]) dL_spreads_185 13 rfl (by decide) rfl ?_
                                refine x_goto (tgt := 61) C dL_spreads_188 (by decide) ?_
                                refine x_sub [0, 1, 2, 3, 4, 5, 6, 7, 8, 9, 10, 11, 12, 13] (ls' := [(0, vI ((al : Nat) : Int)), (1, vI o), (2, .ref qA), (3, .ref gA), (4, .ref cA), (5, .ref dA), (6, .ref eA), (7, .ref fA), (8, .ref mA), (9, vI 0), (10, vI ((k : Nat) : Int)), (11, vI ((now : Nat) : Int)), (12, .long x), (14, vI ((((i : Nat) : Int)) + 1))]) rfl ?_
                                exact ihIL (i + 1) 1 e4 f4 m4 0 h211 u4g u4q u4c u4d u4e u4f u4m (by omega) (by omega) (Or.inl ⟨rfl, hmk⟩) (hI4.step (by omega) (by omega) (by omega) hmk hbb (by first | exact mk_yes hcl (by omega) | exact mk_no (by omega)) (by first | exact ms_yes t1 (by omega) | exact ms_no (by omega)) (by omega) (by first | exact Cl_mk hcl | exact id)) (by omega) (fun b9 y1 y2 y3 => by first | exact hfr b9 y1 y2 y3 | (rw []; simp only [hu_n y1, hu_n y2, hu_n y3]; exact hfr b9 y1 y2 y3))
                              · skip
                                refine x_iload C dL_spreads_171 14 rfl ?_
                                refine x_ldcI C (z := 32768) (by decide) kL_spreads_0 dL_spreads_173 ?_
                                refine x_icmp_ge (tgt := 182) C dL_spreads_175 (by decide) (by omega) (by omega) (fun c224 => ?_) (fun c224 => ?_)
                                · skip
                                  refine x_iconst C dL_spreads_182 0 (by decide) ?_
                                  refine x_istore C (ls' := [(0, vI ((al : Nat) : Int)), (1, vI o), (2, .ref qA), (3, .ref gA), (4, .ref cA), (5, .ref dA), (6, .ref eA), (7, .ref fA), (8, .ref mA), (9, vI 0), (10, vI ((k : Nat) : Int)), (11, vI ((now : Nat) : Int)), (12, .long x), (14, vI ((i : Nat) : Int)), (15, vI x218)]) dL_spreads_183 (by decide) rfl ?_
                                  refine x_iinc C (x := ((i : Nat) : Int)) (ls' := [(0, vI ((al : Nat) : Int)), (1, vI o), (2, .ref qA), (3, .ref gA), (4, .ref cA), (5, .ref dA), (6, .ref eA), (7, .ref fA), (8, .ref mA), (9, vI 0), (10, vI ((k : Nat) : Int)), (11, vI ((now : Nat) : Int)), (12, .long x), (14, vI ((((i : Nat) : Int)) + 1)), (15, vI x218)]) dL_spreads_185 13 rfl (by decide) rfl ?_
                                  refine x_goto (tgt := 61) C dL_spreads_188 (by decide) ?_
                                  refine x_sub [0, 1, 2, 3, 4, 5, 6, 7, 8, 9, 10, 11, 12, 13] (ls' := [(0, vI ((al : Nat) : Int)), (1, vI o), (2, .ref qA), (3, .ref gA), (4, .ref cA), (5, .ref dA), (6, .ref eA), (7, .ref fA), (8, .ref mA), (9, vI 0), (10, vI ((k : Nat) : Int)), (11, vI ((now : Nat) : Int)), (12, .long x), (14, vI ((((i : Nat) : Int)) + 1))]) rfl ?_
                                  exact ihIL (i + 1) 1 e4 f4 m4 0 h211 u4g u4q u4c u4d u4e u4f u4m (by omega) (by omega) (Or.inl ⟨rfl, hmk⟩) (hI4.step (by omega) (by omega) (by omega) hmk hbb (by first | exact mk_yes hcl (by omega) | exact mk_no (by omega)) (by first | exact ms_yes t1 (by omega) | exact ms_no (by omega)) (by omega) (by first | exact Cl_mk hcl | exact id)) (by omega) (fun b9 y1 y2 y3 => by first | exact hfr b9 y1 y2 y3 | (rw []; simp only [hu_n y1, hu_n y2, hu_n y3]; exact hfr b9 y1 y2 y3))
                                · skip
                                  refine x_iconst C dL_spreads_178 1 (by decide) ?_
                                  refine x_goto (tgt := 183) C dL_spreads_179 (by decide) ?_
                                  refine x_istore C (ls' := [(0, vI ((al : Nat) : Int)), (1, vI o), (2, .ref qA), (3, .ref gA), (4, .ref cA), (5, .ref dA), (6, .ref eA), (7, .ref fA), (8, .ref mA), (9, vI 1), (10, vI ((k : Nat) : Int)), (11, vI ((now : Nat) : Int)), (12, .long x), (14, vI ((i : Nat) : Int)), (15, vI x218)]) dL_spreads_183 (by decide) rfl ?_
                                  refine x_iinc C (x := ((i : Nat) : Int)) (ls' := [(0, vI ((al : Nat) : Int)), (1, vI o), (2, .ref qA), (3, .ref gA), (4, .ref cA), (5, .ref dA), (6, .ref eA), (7, .ref fA), (8, .ref mA), (9, vI 1), (10, vI ((k : Nat) : Int)), (11, vI ((now : Nat) : Int)), (12, .long x), (14, vI ((((i : Nat) : Int)) + 1)), (15, vI x218)]) dL_spreads_185 13 rfl (by decide) rfl ?_
                                  refine x_goto (tgt := 61) C dL_spreads_188 (by decide) ?_
                                  refine x_sub [0, 1, 2, 3, 4, 5, 6, 7, 8, 9, 10, 11, 12, 13] (ls' := [(0, vI ((al : Nat) : Int)), (1, vI o), (2, .ref qA), (3, .ref gA), (4, .ref cA), (5, .ref dA), (6, .ref eA), (7, .ref fA), (8, .ref mA), (9, vI 1), (10, vI ((k : Nat) : Int)), (11, vI ((now : Nat) : Int)), (12, .long x), (14, vI ((((i : Nat) : Int)) + 1))]) rfl ?_
                                  exact ihIL (i + 1) 1 e4 f4 m4 1 h211 u4g u4q u4c u4d u4e u4f u4m (by omega) (by omega) (Or.inl ⟨rfl, hmk⟩) (hI4.step (by omega) (by omega) (by omega) hmk hbb (by first | exact mk_yes hcl (by omega) | exact mk_no (by omega)) (by first | exact ms_yes t1 (by omega) | exact ms_no (by omega)) (by omega) (by first | exact Cl_mk hcl | exact id)) (by omega) (fun b9 y1 y2 y3 => by first | exact hfr b9 y1 y2 y3 | (rw []; simp only [hu_n y1, hu_n y2, hu_n y3]; exact hfr b9 y1 y2 y3))
                          · skip
                            refine x_iload C dL_spreads_149 14 rfl ?_
                            refine x_aload C dL_spreads_151 6 rfl ?_
                            refine x_aload C dL_spreads_153 7 rfl ?_
                            refine x_callS C (n := 3) (As := [vI x218, .ref eA, .ref fA]) (rest := []) (c_L_marks (n := (cd bb9)) u4e u4f (by omega) (by omega) (by assumption)) gL_spreads_L_marks (by decide +kernel) rfl rfl rfl (Nat.le_of_ble_eq_true rfl) ⟨by decide, by decide⟩ ⟨(by decide), (by decide)⟩ dL_spreads_155 (fun rv225 h226 hp227 => ?_)
                            obtain ⟨rfl, e228⟩ := hp227
                            have f229 : h226 fA = some (eJ D 64 (mkH f4 ((cd bb9)))) := by rw [e228]; exact hu_s
                            have f230 : h226 eA = some (eJ D 64 (mkL e4 ((cd bb9)))) := by rw [e228, hu_n nef]; exact hu_s
                            refine x_iload C dL_spreads_158 9 rfl ?_
                            refine x_if_ne (tgt := 178) C dL_spreads_160 (by decide) (by omega) (fun c231 => ?_) (fun c231 => ?_)
                            · skip
                              refine x_iconst C dL_spreads_178 1 (by decide) ?_
                              refine x_goto (tgt := 183) C dL_spreads_179 (by decide) ?_
                              refine x_istore C (ls' := [(0, vI ((al : Nat) : Int)), (1, vI o), (2, .ref qA), (3, .ref gA), (4, .ref cA), (5, .ref dA), (6, .ref eA), (7, .ref fA), (8, .ref mA), (9, vI 1), (10, vI ((k : Nat) : Int)), (11, vI ((now : Nat) : Int)), (12, .long x), (14, vI ((i : Nat) : Int)), (15, vI x218)]) dL_spreads_183 (by decide) rfl ?_
                              refine x_iinc C (x := ((i : Nat) : Int)) (ls' := [(0, vI ((al : Nat) : Int)), (1, vI o), (2, .ref qA), (3, .ref gA), (4, .ref cA), (5, .ref dA), (6, .ref eA), (7, .ref fA), (8, .ref mA), (9, vI 1), (10, vI ((k : Nat) : Int)), (11, vI ((now : Nat) : Int)), (12, .long x), (14, vI ((((i : Nat) : Int)) + 1)), (15, vI x218)]) dL_spreads_185 13 rfl (by decide) rfl ?_
                              refine x_goto (tgt := 61) C dL_spreads_188 (by decide) ?_
                              refine x_sub [0, 1, 2, 3, 4, 5, 6, 7, 8, 9, 10, 11, 12, 13] (ls' := [(0, vI ((al : Nat) : Int)), (1, vI o), (2, .ref qA), (3, .ref gA), (4, .ref cA), (5, .ref dA), (6, .ref eA), (7, .ref fA), (8, .ref mA), (9, vI 1), (10, vI ((k : Nat) : Int)), (11, vI ((now : Nat) : Int)), (12, .long x), (14, vI ((((i : Nat) : Int)) + 1))]) rfl ?_
                              have n233 : nq gA fA := vnt u4g u4f (p := (1, 60)) (q := (1, 64)) rfl rfl (by decide)
                              have n234 : nq gA eA := vnt u4g u4e (p := (1, 60)) (q := (1, 64)) rfl rfl (by decide)
                              have f232 : h226 gA = some (eJ D 60 g) := by rw [e228, hu_n n233, hu_n n234]; exact u4g
                              have n236 : nq qA fA := vnt u4q u4f (p := (0, 5)) (q := (1, 64)) rfl rfl (by decide)
                              have n237 : nq qA eA := vnt u4q u4e (p := (0, 5)) (q := (1, 64)) rfl rfl (by decide)
                              have f235 : h226 qA = some (eI D 5 q) := by rw [e228, hu_n n236, hu_n n237]; exact u4q
                              have f238 : h226 cA = some (eJ D 64 c) := by rw [e228, hu_n ncf, hu_n nce]; exact u4c
                              have f239 : h226 dA = some (eJ D 64 d) := by rw [e228, hu_n ndf, hu_n nde]; exact u4d
                              have n241 : nq mA fA := vnt u4m u4f (p := (1, 2)) (q := (1, 64)) rfl rfl (by decide)
                              have n242 : nq mA eA := vnt u4m u4e (p := (1, 2)) (q := (1, 64)) rfl rfl (by decide)
                              have f240 : h226 mA = some (eJ D 2 m4) := by rw [e228, hu_n n241, hu_n n242]; exact u4m
                              exact ihIL (i + 1) 1 (mkL e4 ((cd bb9))) (mkH f4 ((cd bb9))) m4 1 h226 f232 f235 f238 f239 f230 f229 f240 (by omega) (by omega) (Or.inl ⟨rfl, hmk⟩) (hI4.step (by omega) (by omega) (by omega) hmk hbb (by first | exact mk_yes hcl (by omega) | exact mk_no (by omega)) (by first | exact ms_yes t1 (by omega) | exact ms_no (by omega)) (by omega) (by first | exact Cl_mk hcl | exact id)) (by omega) (fun b9 y1 y2 y3 => by first | exact hfr b9 y1 y2 y3 | (rw [e228]; simp only [hu_n y1, hu_n y2, hu_n y3]; exact hfr b9 y1 y2 y3))
                            · skip
                              refine x_iload C dL_spreads_163 14 rfl ?_
                              refine x_sipush C dL_spreads_165 16384 (by decide) ?_
                              refine x_icmp_lt (tgt := 182) C dL_spreads_168 (by decide) (by omega) (by omega) (fun c243 => ?_) (fun c243 => ?_)
                              · skip
                                refine x_iconst C dL_spreads_182 0 (by decide) ?_
                                refine x_istore C (ls' := [(0, vI ((al : Nat) : Int)), (1, vI o), (2, .ref qA), (3, .ref gA), (4, .ref cA), (5, .ref dA), (6, .ref eA), (7, .ref fA), (8, .ref mA), (9, vI 0), (10, vI ((k : Nat) : Int)), (11, vI ((now : Nat) : Int)), (12, .long x), (14, vI ((i : Nat) : Int)), (15, vI x218)]) dL_spreads_183 (by decide) rfl ?_
                                refine x_iinc C (x := ((i : Nat) : Int)) (ls' := [(0, vI ((al : Nat) : Int)), (1, vI o), (2, .ref qA), (3, .ref gA), (4, .ref cA), (5, .ref dA), (6, .ref eA), (7, .ref fA), (8, .ref mA), (9, vI 0), (10, vI ((k : Nat) : Int)), (11, vI ((now : Nat) : Int)), (12, .long x), (14, vI ((((i : Nat) : Int)) + 1)), (15, vI x218)]) dL_spreads_185 13 rfl (by decide) rfl ?_
                                refine x_goto (tgt := 61) C dL_spreads_188 (by decide) ?_
                                refine x_sub [0, 1, 2, 3, 4, 5, 6, 7, 8, 9, 10, 11, 12, 13] (ls' := [(0, vI ((al : Nat) : Int)), (1, vI o), (2, .ref qA), (3, .ref gA), (4, .ref cA), (5, .ref dA), (6, .ref eA), (7, .ref fA), (8, .ref mA), (9, vI 0), (10, vI ((k : Nat) : Int)), (11, vI ((now : Nat) : Int)), (12, .long x), (14, vI ((((i : Nat) : Int)) + 1))]) rfl ?_
                                have n245 : nq gA fA := vnt u4g u4f (p := (1, 60)) (q := (1, 64)) rfl rfl (by decide)
                                have n246 : nq gA eA := vnt u4g u4e (p := (1, 60)) (q := (1, 64)) rfl rfl (by decide)
                                have f244 : h226 gA = some (eJ D 60 g) := by rw [e228, hu_n n245, hu_n n246]; exact u4g
                                have n248 : nq qA fA := vnt u4q u4f (p := (0, 5)) (q := (1, 64)) rfl rfl (by decide)
                                have n249 : nq qA eA := vnt u4q u4e (p := (0, 5)) (q := (1, 64)) rfl rfl (by decide)
                                have f247 : h226 qA = some (eI D 5 q) := by rw [e228, hu_n n248, hu_n n249]; exact u4q
                                have f250 : h226 cA = some (eJ D 64 c) := by rw [e228, hu_n ncf, hu_n nce]; exact u4c
                                have f251 : h226 dA = some (eJ D 64 d) := by rw [e228, hu_n ndf, hu_n nde]; exact u4d
                                have n253 : nq mA fA := vnt u4m u4f (p := (1, 2)) (q := (1, 64)) rfl rfl (by decide)
                                have n254 : nq mA eA := vnt u4m u4e (p := (1, 2)) (q := (1, 64)) rfl rfl (by decide)
                                have f252 : h226 mA = some (eJ D 2 m4) := by rw [e228, hu_n n253, hu_n n254]; exact u4m
                                exact ihIL (i + 1) 1 (mkL e4 ((cd bb9))) (mkH f4 ((cd bb9))) m4 0 h226 f244 f247 f250 f251 f230 f229 f252 (by omega) (by omega) (Or.inl ⟨rfl, hmk⟩) (hI4.step (by omega) (by omega) (by omega) hmk hbb (by first | exact mk_yes hcl (by omega) | exact mk_no (by omega)) (by first | exact ms_yes t1 (by omega) | exact ms_no (by omega)) (by omega) (by first | exact Cl_mk hcl | exact id)) (by omega) (fun b9 y1 y2 y3 => by first | exact hfr b9 y1 y2 y3 | (rw [e228]; simp only [hu_n y1, hu_n y2, hu_n y3]; exact hfr b9 y1 y2 y3))
                              · skip
                                refine x_iload C dL_spreads_171 14 rfl ?_
                                refine x_ldcI C (z := 32768) (by decide) kL_spreads_0 dL_spreads_173 ?_
                                refine x_icmp_ge (tgt := 182) C dL_spreads_175 (by decide) (by omega) (by omega) (fun c255 => ?_) (fun c255 => ?_)
                                · skip
                                  refine x_iconst C dL_spreads_182 0 (by decide) ?_
                                  refine x_istore C (ls' := [(0, vI ((al : Nat) : Int)), (1, vI o), (2, .ref qA), (3, .ref gA), (4, .ref cA), (5, .ref dA), (6, .ref eA), (7, .ref fA), (8, .ref mA), (9, vI 0), (10, vI ((k : Nat) : Int)), (11, vI ((now : Nat) : Int)), (12, .long x), (14, vI ((i : Nat) : Int)), (15, vI x218)]) dL_spreads_183 (by decide) rfl ?_
                                  refine x_iinc C (x := ((i : Nat) : Int)) (ls' := [(0, vI ((al : Nat) : Int)), (1, vI o), (2, .ref qA), (3, .ref gA), (4, .ref cA), (5, .ref dA), (6, .ref eA), (7, .ref fA), (8, .ref mA), (9, vI 0), (10, vI ((k : Nat) : Int)), (11, vI ((now : Nat) : Int)), (12, .long x), (14, vI ((((i : Nat) : Int)) + 1)), (15, vI x218)]) dL_spreads_185 13 rfl (by decide) rfl ?_
                                  refine x_goto (tgt := 61) C dL_spreads_188 (by decide) ?_
                                  refine x_sub [0, 1, 2, 3, 4, 5, 6, 7, 8, 9, 10, 11, 12, 13] (ls' := [(0, vI ((al : Nat) : Int)), (1, vI o), (2, .ref qA), (3, .ref gA), (4, .ref cA), (5, .ref dA), (6, .ref eA), (7, .ref fA), (8, .ref mA), (9, vI 0), (10, vI ((k : Nat) : Int)), (11, vI ((now : Nat) : Int)), (12, .long x), (14, vI ((((i : Nat) : Int)) + 1))]) rfl ?_
                                  have n257 : nq gA fA := vnt u4g u4f (p := (1, 60)) (q := (1, 64)) rfl rfl (by decide)
                                  have n258 : nq gA eA := vnt u4g u4e (p := (1, 60)) (q := (1, 64)) rfl rfl (by decide)
                                  have f256 : h226 gA = some (eJ D 60 g) := by rw [e228, hu_n n257, hu_n n258]; exact u4g
                                  have n260 : nq qA fA := vnt u4q u4f (p := (0, 5)) (q := (1, 64)) rfl rfl (by decide)
                                  have n261 : nq qA eA := vnt u4q u4e (p := (0, 5)) (q := (1, 64)) rfl rfl (by decide)
                                  have f259 : h226 qA = some (eI D 5 q) := by rw [e228, hu_n n260, hu_n n261]; exact u4q
                                  have f262 : h226 cA = some (eJ D 64 c) := by rw [e228, hu_n ncf, hu_n nce]; exact u4c
                                  have f263 : h226 dA = some (eJ D 64 d) := by rw [e228, hu_n ndf, hu_n nde]; exact u4d
                                  have n265 : nq mA fA := vnt u4m u4f (p := (1, 2)) (q := (1, 64)) rfl rfl (by decide)
                                  have n266 : nq mA eA := vnt u4m u4e (p := (1, 2)) (q := (1, 64)) rfl rfl (by decide)
                                  have f264 : h226 mA = some (eJ D 2 m4) := by rw [e228, hu_n n265, hu_n n266]; exact u4m
                                  exact ihIL (i + 1) 1 (mkL e4 ((cd bb9))) (mkH f4 ((cd bb9))) m4 0 h226 f256 f259 f262 f263 f230 f229 f264 (by omega) (by omega) (Or.inl ⟨rfl, hmk⟩) (hI4.step (by omega) (by omega) (by omega) hmk hbb (by first | exact mk_yes hcl (by omega) | exact mk_no (by omega)) (by first | exact ms_yes t1 (by omega) | exact ms_no (by omega)) (by omega) (by first | exact Cl_mk hcl | exact id)) (by omega) (fun b9 y1 y2 y3 => by first | exact hfr b9 y1 y2 y3 | (rw [e228]; simp only [hu_n y1, hu_n y2, hu_n y3]; exact hfr b9 y1 y2 y3))
                                · skip
                                  refine x_iconst C dL_spreads_178 1 (by decide) ?_
                                  refine x_goto (tgt := 183) C dL_spreads_179 (by decide) ?_
                                  refine x_istore C (ls' := [(0, vI ((al : Nat) : Int)), (1, vI o), (2, .ref qA), (3, .ref gA), (4, .ref cA), (5, .ref dA), (6, .ref eA), (7, .ref fA), (8, .ref mA), (9, vI 1), (10, vI ((k : Nat) : Int)), (11, vI ((now : Nat) : Int)), (12, .long x), (14, vI ((i : Nat) : Int)), (15, vI x218)]) dL_spreads_183 (by decide) rfl ?_
                                  refine x_iinc C (x := ((i : Nat) : Int)) (ls' := [(0, vI ((al : Nat) : Int)), (1, vI o), (2, .ref qA), (3, .ref gA), (4, .ref cA), (5, .ref dA), (6, .ref eA), (7, .ref fA), (8, .ref mA), (9, vI 1), (10, vI ((k : Nat) : Int)), (11, vI ((now : Nat) : Int)), (12, .long x), (14, vI ((((i : Nat) : Int)) + 1)), (15, vI x218)]) dL_spreads_185 13 rfl (by decide) rfl ?_
                                  refine x_goto (tgt := 61) C dL_spreads_188 (by decide) ?_
                                  refine x_sub [0, 1, 2, 3, 4, 5, 6, 7, 8, 9, 10, 11, 12, 13] (ls' := [(0, vI ((al : Nat) : Int)), (1, vI o), (2, .ref qA), (3, .ref gA), (4, .ref cA), (5, .ref dA), (6, .ref eA), (7, .ref fA), (8, .ref mA), (9, vI 1), (10, vI ((k : Nat) : Int)), (11, vI ((now : Nat) : Int)), (12, .long x), (14, vI ((((i : Nat) : Int)) + 1))]) rfl ?_
                                  have n268 : nq gA fA := vnt u4g u4f (p := (1, 60)) (q := (1, 64)) rfl rfl (by decide)
                                  have n269 : nq gA eA := vnt u4g u4e (p := (1, 60)) (q := (1, 64)) rfl rfl (by decide)
                                  have f267 : h226 gA = some (eJ D 60 g) := by rw [e228, hu_n n268, hu_n n269]; exact u4g
                                  have n271 : nq qA fA := vnt u4q u4f (p := (0, 5)) (q := (1, 64)) rfl rfl (by decide)
                                  have n272 : nq qA eA := vnt u4q u4e (p := (0, 5)) (q := (1, 64)) rfl rfl (by decide)
                                  have f270 : h226 qA = some (eI D 5 q) := by rw [e228, hu_n n271, hu_n n272]; exact u4q
                                  have f273 : h226 cA = some (eJ D 64 c) := by rw [e228, hu_n ncf, hu_n nce]; exact u4c
                                  have f274 : h226 dA = some (eJ D 64 d) := by rw [e228, hu_n ndf, hu_n nde]; exact u4d
                                  have n276 : nq mA fA := vnt u4m u4f (p := (1, 2)) (q := (1, 64)) rfl rfl (by decide)
                                  have n277 : nq mA eA := vnt u4m u4e (p := (1, 2)) (q := (1, 64)) rfl rfl (by decide)
                                  have f275 : h226 mA = some (eJ D 2 m4) := by rw [e228, hu_n n276, hu_n n277]; exact u4m
                                  exact ihIL (i + 1) 1 (mkL e4 ((cd bb9))) (mkH f4 ((cd bb9))) m4 1 h226 f267 f270 f273 f274 f230 f229 f275 (by omega) (by omega) (Or.inl ⟨rfl, hmk⟩) (hI4.step (by omega) (by omega) (by omega) hmk hbb (by first | exact mk_yes hcl (by omega) | exact mk_no (by omega)) (by first | exact ms_yes t1 (by omega) | exact ms_no (by omega)) (by omega) (by first | exact Cl_mk hcl | exact id)) (by omega) (fun b9 y1 y2 y3 => by first | exact hfr b9 y1 y2 y3 | (rw [e228]; simp only [hu_n y1, hu_n y2, hu_n y3]; exact hfr b9 y1 y2 y3))
                        · skip
                          refine x_iload C dL_spreads_115 14 rfl ?_
                          refine x_sipush C dL_spreads_117 128 (by decide) ?_
                          refine x_irem C dL_spreads_120 (by omega) (by omega) (by omega) (by omega) ?_
                          refine x_topv (show x218 % 128 = ((bb9.1.toNat : Nat) : Int) from by omega) ?_
                          refine x_istore C (ls' := [(0, vI ((al : Nat) : Int)), (1, vI o), (2, .ref qA), (3, .ref gA), (4, .ref cA), (5, .ref dA), (6, .ref eA), (7, .ref fA), (8, .ref mA), (9, vI w4), (10, vI ((k : Nat) : Int)), (11, vI ((now : Nat) : Int)), (12, .long x), (14, vI ((i : Nat) : Int)), (15, vI x218), (16, vI ((bb9.1.toNat : Nat) : Int))]) dL_spreads_121 (by decide) rfl ?_
                          refine x_aload C dL_spreads_123 8 rfl ?_
                          refine x_iload C dL_spreads_125 15 rfl ?_
                          refine x_bipush C dL_spreads_127 48 (by decide) ?_
                          refine x_idiv C dL_spreads_129 (by omega) (by omega) (by omega) (by omega) ?_
                          refine x_topv (show (((bb9.1.toNat : Nat) : Int)) / 48 = ((bb9.1.toNat / 48 : Nat) : Int) from by omega) ?_
                          refine x_dup2 C dL_spreads_130 rfl rfl ?_
                          refine x_lald C u4m ⟨by omega, by omega⟩ (by decide) dL_spreads_131 ?_
                          refine x_lconst C (v := 1) dL_spreads_132 rfl ?_
                          refine x_iload C dL_spreads_133 15 rfl ?_
                          refine x_bipush C dL_spreads_135 48 (by decide) ?_
                          refine x_irem C dL_spreads_137 (by omega) (by omega) (by omega) (by omega) ?_
                          refine x_topv (show (((bb9.1.toNat : Nat) : Int)) % 48 = ((bb9.1.toNat % 48 : Nat) : Int) from by omega) ?_
                          refine x_lshl C dL_spreads_138 ?_
                          refine x_lor C dL_spreads_139 ?_
                          refine x_last C u4m ⟨by omega, by omega⟩ (by decide) dL_spreads_140 (x_hn (fun h278 e279 => ?_))
                          have f280 : h278 mA = some (eJ D 2 (vp_updL m4 (Int.toNat (((bb9.1.toNat / 48 : Nat) : Int))) ((m4 (Int.toNat (((bb9.1.toNat / 48 : Nat) : Int)))) ||| (lsl 1 (((bb9.1.toNat % 48 : Nat) : Int)))))) := by rw [e279]; exact hu_s
                          refine x_iload C dL_spreads_141 14 rfl ?_
                          refine x_sipush C dL_spreads_143 16384 (by decide) ?_
                          refine x_icmp_ge (tgt := 158) C dL_spreads_146 (by decide) (by omega) (by omega) (fun c281 => ?_) (fun c281 => ?_)
                          · skip
                            refine x_iload C dL_spreads_158 9 rfl ?_
                            refine x_if_ne (tgt := 178) C dL_spreads_160 (by decide) (by omega) (fun c282 => ?_) (fun c282 => ?_)
                            · skip
                              refine x_iconst C dL_spreads_178 1 (by decide) ?_
                              refine x_goto (tgt := 183) C dL_spreads_179 (by decide) ?_
                              refine x_istore C (ls' := [(0, vI ((al : Nat) : Int)), (1, vI o), (2, .ref qA), (3, .ref gA), (4, .ref cA), (5, .ref dA), (6, .ref eA), (7, .ref fA), (8, .ref mA), (9, vI 1), (10, vI ((k : Nat) : Int)), (11, vI ((now : Nat) : Int)), (12, .long x), (14, vI ((i : Nat) : Int)), (15, vI x218), (16, vI ((bb9.1.toNat : Nat) : Int))]) dL_spreads_183 (by decide) rfl ?_
                              refine x_iinc C (x := ((i : Nat) : Int)) (ls' := [(0, vI ((al : Nat) : Int)), (1, vI o), (2, .ref qA), (3, .ref gA), (4, .ref cA), (5, .ref dA), (6, .ref eA), (7, .ref fA), (8, .ref mA), (9, vI 1), (10, vI ((k : Nat) : Int)), (11, vI ((now : Nat) : Int)), (12, .long x), (14, vI ((((i : Nat) : Int)) + 1)), (15, vI x218), (16, vI ((bb9.1.toNat : Nat) : Int))]) dL_spreads_185 13 rfl (by decide) rfl ?_
                              refine x_goto (tgt := 61) C dL_spreads_188 (by decide) ?_
                              refine x_sub [0, 1, 2, 3, 4, 5, 6, 7, 8, 9, 10, 11, 12, 13] (ls' := [(0, vI ((al : Nat) : Int)), (1, vI o), (2, .ref qA), (3, .ref gA), (4, .ref cA), (5, .ref dA), (6, .ref eA), (7, .ref fA), (8, .ref mA), (9, vI 1), (10, vI ((k : Nat) : Int)), (11, vI ((now : Nat) : Int)), (12, .long x), (14, vI ((((i : Nat) : Int)) + 1))]) rfl ?_
                              have n284 : nq gA mA := vnt u4g u4m (p := (1, 60)) (q := (1, 2)) rfl rfl (by decide)
                              have f283 : h278 gA = some (eJ D 60 g) := by rw [e279, hu_n n284]; exact u4g
                              have n286 : nq qA mA := vnt u4q u4m (p := (0, 5)) (q := (1, 2)) rfl rfl (by decide)
                              have f285 : h278 qA = some (eI D 5 q) := by rw [e279, hu_n n286]; exact u4q
                              have n288 : nq cA mA := vnt u4c u4m (p := (1, 64)) (q := (1, 2)) rfl rfl (by decide)
                              have f287 : h278 cA = some (eJ D 64 c) := by rw [e279, hu_n n288]; exact u4c
                              have n290 : nq dA mA := vnt u4d u4m (p := (1, 64)) (q := (1, 2)) rfl rfl (by decide)
                              have f289 : h278 dA = some (eJ D 64 d) := by rw [e279, hu_n n290]; exact u4d
                              have n292 : nq eA mA := vnt u4e u4m (p := (1, 64)) (q := (1, 2)) rfl rfl (by decide)
                              have f291 : h278 eA = some (eJ D 64 e4) := by rw [e279, hu_n n292]; exact u4e
                              have n294 : nq fA mA := vnt u4f u4m (p := (1, 64)) (q := (1, 2)) rfl rfl (by decide)
                              have f293 : h278 fA = some (eJ D 64 f4) := by rw [e279, hu_n n294]; exact u4f
                              exact ihIL (i + 1) 1 e4 f4 (vp_updL m4 (Int.toNat (((bb9.1.toNat / 48 : Nat) : Int))) ((m4 (Int.toNat (((bb9.1.toNat / 48 : Nat) : Int)))) ||| (lsl 1 (((bb9.1.toNat % 48 : Nat) : Int))))) 1 h278 f283 f285 f287 f289 f291 f293 f280 (by omega) (by omega) (Or.inl ⟨rfl, hmk⟩) (hI4.step (by omega) (by omega) (by omega) hmk hbb (by first | exact mk_yes hcl (by omega) | exact mk_no (by omega)) (by first | exact ms_yes t1 (by omega) | exact ms_no (by omega)) (by omega) (by first | exact Cl_mk hcl | exact id)) (by omega) (fun b9 y1 y2 y3 => by first | exact hfr b9 y1 y2 y3 | (rw [e279]; simp only [hu_n y1, hu_n y2, hu_n y3]; exact hfr b9 y1 y2 y3))
                            · skip
                              refine x_iload C dL_spreads_163 14 rfl ?_
                              refine x_sipush C dL_spreads_165 16384 (by decide) ?_
                              refine x_icmp_lt (tgt := 182) C dL_spreads_168 (by decide) (by omega) (by omega) (fun c295 => ?_) (fun c295 => ?_)
                              · skip
                                refine x_iconst C dL_spreads_182 0 (by decide) ?_
                                refine x_istore C (ls' := [(0, vI ((al : Nat) : Int)), (1, vI o), (2, .ref qA), (3, .ref gA), (4, .ref cA), (5, .ref dA), (6, .ref eA), (7, .ref fA), (8, .ref mA), (9, vI 0), (10, vI ((k : Nat) : Int)), (11, vI ((now : Nat) : Int)), (12, .long x), (14, vI ((i : Nat) : Int)), (15, vI x218), (16, vI ((bb9.1.toNat : Nat) : Int))]) dL_spreads_183 (by decide) rfl ?_
                                refine x_iinc C (x := ((i : Nat) : Int)) (ls' := [(0, vI ((al : Nat) : Int)), (1, vI o), (2, .ref qA), (3, .ref gA), (4, .ref cA), (5, .ref dA), (6, .ref eA), (7, .ref fA), (8, .ref mA), (9, vI 0), (10, vI ((k : Nat) : Int)), (11, vI ((now : Nat) : Int)), (12, .long x), (14, vI ((((i : Nat) : Int)) + 1)), (15, vI x218), (16, vI ((bb9.1.toNat : Nat) : Int))]) dL_spreads_185 13 rfl (by decide) rfl ?_
                                refine x_goto (tgt := 61) C dL_spreads_188 (by decide) ?_
                                refine x_sub [0, 1, 2, 3, 4, 5, 6, 7, 8, 9, 10, 11, 12, 13] (ls' := [(0, vI ((al : Nat) : Int)), (1, vI o), (2, .ref qA), (3, .ref gA), (4, .ref cA), (5, .ref dA), (6, .ref eA), (7, .ref fA), (8, .ref mA), (9, vI 0), (10, vI ((k : Nat) : Int)), (11, vI ((now : Nat) : Int)), (12, .long x), (14, vI ((((i : Nat) : Int)) + 1))]) rfl ?_
                                have n297 : nq gA mA := vnt u4g u4m (p := (1, 60)) (q := (1, 2)) rfl rfl (by decide)
                                have f296 : h278 gA = some (eJ D 60 g) := by rw [e279, hu_n n297]; exact u4g
                                have n299 : nq qA mA := vnt u4q u4m (p := (0, 5)) (q := (1, 2)) rfl rfl (by decide)
                                have f298 : h278 qA = some (eI D 5 q) := by rw [e279, hu_n n299]; exact u4q
                                have n301 : nq cA mA := vnt u4c u4m (p := (1, 64)) (q := (1, 2)) rfl rfl (by decide)
                                have f300 : h278 cA = some (eJ D 64 c) := by rw [e279, hu_n n301]; exact u4c
                                have n303 : nq dA mA := vnt u4d u4m (p := (1, 64)) (q := (1, 2)) rfl rfl (by decide)
                                have f302 : h278 dA = some (eJ D 64 d) := by rw [e279, hu_n n303]; exact u4d
                                have n305 : nq eA mA := vnt u4e u4m (p := (1, 64)) (q := (1, 2)) rfl rfl (by decide)
                                have f304 : h278 eA = some (eJ D 64 e4) := by rw [e279, hu_n n305]; exact u4e
                                have n307 : nq fA mA := vnt u4f u4m (p := (1, 64)) (q := (1, 2)) rfl rfl (by decide)
                                have f306 : h278 fA = some (eJ D 64 f4) := by rw [e279, hu_n n307]; exact u4f
                                exact ihIL (i + 1) 1 e4 f4 (vp_updL m4 (Int.toNat (((bb9.1.toNat / 48 : Nat) : Int))) ((m4 (Int.toNat (((bb9.1.toNat / 48 : Nat) : Int)))) ||| (lsl 1 (((bb9.1.toNat % 48 : Nat) : Int))))) 0 h278 f296 f298 f300 f302 f304 f306 f280 (by omega) (by omega) (Or.inl ⟨rfl, hmk⟩) (hI4.step (by omega) (by omega) (by omega) hmk hbb (by first | exact mk_yes hcl (by omega) | exact mk_no (by omega)) (by first | exact ms_yes t1 (by omega) | exact ms_no (by omega)) (by omega) (by first | exact Cl_mk hcl | exact id)) (by omega) (fun b9 y1 y2 y3 => by first | exact hfr b9 y1 y2 y3 | (rw [e279]; simp only [hu_n y1, hu_n y2, hu_n y3]; exact hfr b9 y1 y2 y3))
                              · skip
                                refine x_iload C dL_spreads_171 14 rfl ?_
                                refine x_ldcI C (z := 32768) (by decide) kL_spreads_0 dL_spreads_173 ?_
                                refine x_icmp_ge (tgt := 182) C dL_spreads_175 (by decide) (by omega) (by omega) (fun c308 => ?_) (fun c308 => ?_)
                                · skip
                                  refine x_iconst C dL_spreads_182 0 (by decide) ?_
                                  refine x_istore C (ls' := [(0, vI ((al : Nat) : Int)), (1, vI o), (2, .ref qA), (3, .ref gA), (4, .ref cA), (5, .ref dA), (6, .ref eA), (7, .ref fA), (8, .ref mA), (9, vI 0), (10, vI ((k : Nat) : Int)), (11, vI ((now : Nat) : Int)), (12, .long x), (14, vI ((i : Nat) : Int)), (15, vI x218), (16, vI ((bb9.1.toNat : Nat) : Int))]) dL_spreads_183 (by decide) rfl ?_
                                  refine x_iinc C (x := ((i : Nat) : Int)) (ls' := [(0, vI ((al : Nat) : Int)), (1, vI o), (2, .ref qA), (3, .ref gA), (4, .ref cA), (5, .ref dA), (6, .ref eA), (7, .ref fA), (8, .ref mA), (9, vI 0), (10, vI ((k : Nat) : Int)), (11, vI ((now : Nat) : Int)), (12, .long x), (14, vI ((((i : Nat) : Int)) + 1)), (15, vI x218), (16, vI ((bb9.1.toNat : Nat) : Int))]) dL_spreads_185 13 rfl (by decide) rfl ?_
                                  refine x_goto (tgt := 61) C dL_spreads_188 (by decide) ?_
                                  refine x_sub [0, 1, 2, 3, 4, 5, 6, 7, 8, 9, 10, 11, 12, 13] (ls' := [(0, vI ((al : Nat) : Int)), (1, vI o), (2, .ref qA), (3, .ref gA), (4, .ref cA), (5, .ref dA), (6, .ref eA), (7, .ref fA), (8, .ref mA), (9, vI 0), (10, vI ((k : Nat) : Int)), (11, vI ((now : Nat) : Int)), (12, .long x), (14, vI ((((i : Nat) : Int)) + 1))]) rfl ?_
                                  have n310 : nq gA mA := vnt u4g u4m (p := (1, 60)) (q := (1, 2)) rfl rfl (by decide)
                                  have f309 : h278 gA = some (eJ D 60 g) := by rw [e279, hu_n n310]; exact u4g
                                  have n312 : nq qA mA := vnt u4q u4m (p := (0, 5)) (q := (1, 2)) rfl rfl (by decide)
                                  have f311 : h278 qA = some (eI D 5 q) := by rw [e279, hu_n n312]; exact u4q
                                  have n314 : nq cA mA := vnt u4c u4m (p := (1, 64)) (q := (1, 2)) rfl rfl (by decide)
                                  have f313 : h278 cA = some (eJ D 64 c) := by rw [e279, hu_n n314]; exact u4c
                                  have n316 : nq dA mA := vnt u4d u4m (p := (1, 64)) (q := (1, 2)) rfl rfl (by decide)
                                  have f315 : h278 dA = some (eJ D 64 d) := by rw [e279, hu_n n316]; exact u4d
                                  have n318 : nq eA mA := vnt u4e u4m (p := (1, 64)) (q := (1, 2)) rfl rfl (by decide)
                                  have f317 : h278 eA = some (eJ D 64 e4) := by rw [e279, hu_n n318]; exact u4e
                                  have n320 : nq fA mA := vnt u4f u4m (p := (1, 64)) (q := (1, 2)) rfl rfl (by decide)
                                  have f319 : h278 fA = some (eJ D 64 f4) := by rw [e279, hu_n n320]; exact u4f
                                  exact ihIL (i + 1) 1 e4 f4 (vp_updL m4 (Int.toNat (((bb9.1.toNat / 48 : Nat) : Int))) ((m4 (Int.toNat (((bb9.1.toNat / 48 : Nat) : Int)))) ||| (lsl 1 (((bb9.1.toNat % 48 : Nat) : Int))))) 0 h278 f309 f311 f313 f315 f317 f319 f280 (by omega) (by omega) (Or.inl ⟨rfl, hmk⟩) (hI4.step (by omega) (by omega) (by omega) hmk hbb (by first | exact mk_yes hcl (by omega) | exact mk_no (by omega)) (by first | exact ms_yes t1 (by omega) | exact ms_no (by omega)) (by omega) (by first | exact Cl_mk hcl | exact id)) (by omega) (fun b9 y1 y2 y3 => by first | exact hfr b9 y1 y2 y3 | (rw [e279]; simp only [hu_n y1, hu_n y2, hu_n y3]; exact hfr b9 y1 y2 y3))
                                · skip
                                  refine x_iconst C dL_spreads_178 1 (by decide) ?_
                                  refine x_goto (tgt := 183) C dL_spreads_179 (by decide) ?_
                                  refine x_istore C (ls' := [(0, vI ((al : Nat) : Int)), (1, vI o), (2, .ref qA), (3, .ref gA), (4, .ref cA), (5, .ref dA), (6, .ref eA), (7, .ref fA), (8, .ref mA), (9, vI 1), (10, vI ((k : Nat) : Int)), (11, vI ((now : Nat) : Int)), (12, .long x), (14, vI ((i : Nat) : Int)), (15, vI x218), (16, vI ((bb9.1.toNat : Nat) : Int))]) dL_spreads_183 (by decide) rfl ?_
                                  refine x_iinc C (x := ((i : Nat) : Int)) (ls' := [(0, vI ((al : Nat) : Int)), (1, vI o), (2, .ref qA), (3, .ref gA), (4, .ref cA), (5, .ref dA), (6, .ref eA), (7, .ref fA), (8, .ref mA), (9, vI 1), (10, vI ((k : Nat) : Int)), (11, vI ((now : Nat) : Int)), (12, .long x), (14, vI ((((i : Nat) : Int)) + 1)), (15, vI x218), (16, vI ((bb9.1.toNat : Nat) : Int))]) dL_spreads_185 13 rfl (by decide) rfl ?_
                                  refine x_goto (tgt := 61) C dL_spreads_188 (by decide) ?_
                                  refine x_sub [0, 1, 2, 3, 4, 5, 6, 7, 8, 9, 10, 11, 12, 13] (ls' := [(0, vI ((al : Nat) : Int)), (1, vI o), (2, .ref qA), (3, .ref gA), (4, .ref cA), (5, .ref dA), (6, .ref eA), (7, .ref fA), (8, .ref mA), (9, vI 1), (10, vI ((k : Nat) : Int)), (11, vI ((now : Nat) : Int)), (12, .long x), (14, vI ((((i : Nat) : Int)) + 1))]) rfl ?_
                                  have n322 : nq gA mA := vnt u4g u4m (p := (1, 60)) (q := (1, 2)) rfl rfl (by decide)
                                  have f321 : h278 gA = some (eJ D 60 g) := by rw [e279, hu_n n322]; exact u4g
                                  have n324 : nq qA mA := vnt u4q u4m (p := (0, 5)) (q := (1, 2)) rfl rfl (by decide)
                                  have f323 : h278 qA = some (eI D 5 q) := by rw [e279, hu_n n324]; exact u4q
                                  have n326 : nq cA mA := vnt u4c u4m (p := (1, 64)) (q := (1, 2)) rfl rfl (by decide)
                                  have f325 : h278 cA = some (eJ D 64 c) := by rw [e279, hu_n n326]; exact u4c
                                  have n328 : nq dA mA := vnt u4d u4m (p := (1, 64)) (q := (1, 2)) rfl rfl (by decide)
                                  have f327 : h278 dA = some (eJ D 64 d) := by rw [e279, hu_n n328]; exact u4d
                                  have n330 : nq eA mA := vnt u4e u4m (p := (1, 64)) (q := (1, 2)) rfl rfl (by decide)
                                  have f329 : h278 eA = some (eJ D 64 e4) := by rw [e279, hu_n n330]; exact u4e
                                  have n332 : nq fA mA := vnt u4f u4m (p := (1, 64)) (q := (1, 2)) rfl rfl (by decide)
                                  have f331 : h278 fA = some (eJ D 64 f4) := by rw [e279, hu_n n332]; exact u4f
                                  exact ihIL (i + 1) 1 e4 f4 (vp_updL m4 (Int.toNat (((bb9.1.toNat / 48 : Nat) : Int))) ((m4 (Int.toNat (((bb9.1.toNat / 48 : Nat) : Int)))) ||| (lsl 1 (((bb9.1.toNat % 48 : Nat) : Int))))) 1 h278 f321 f323 f325 f327 f329 f331 f280 (by omega) (by omega) (Or.inl ⟨rfl, hmk⟩) (hI4.step (by omega) (by omega) (by omega) hmk hbb (by first | exact mk_yes hcl (by omega) | exact mk_no (by omega)) (by first | exact ms_yes t1 (by omega) | exact ms_no (by omega)) (by omega) (by first | exact Cl_mk hcl | exact id)) (by omega) (fun b9 y1 y2 y3 => by first | exact hfr b9 y1 y2 y3 | (rw [e279]; simp only [hu_n y1, hu_n y2, hu_n y3]; exact hfr b9 y1 y2 y3))
                          · skip
                            refine x_iload C dL_spreads_149 14 rfl ?_
                            refine x_aload C dL_spreads_151 6 rfl ?_
                            refine x_aload C dL_spreads_153 7 rfl ?_
                            have n334 : nq eA mA := vnt u4e u4m (p := (1, 64)) (q := (1, 2)) rfl rfl (by decide)
                            have f333 : h278 eA = some (eJ D 64 e4) := by rw [e279, hu_n n334]; exact u4e
                            have n336 : nq fA mA := vnt u4f u4m (p := (1, 64)) (q := (1, 2)) rfl rfl (by decide)
                            have f335 : h278 fA = some (eJ D 64 f4) := by rw [e279, hu_n n336]; exact u4f
                            refine x_callS C (n := 3) (As := [vI x218, .ref eA, .ref fA]) (rest := []) (c_L_marks (n := (cd bb9)) f333 f335 (by omega) (by omega) (by assumption)) gL_spreads_L_marks (by decide +kernel) rfl rfl rfl (Nat.le_of_ble_eq_true rfl) ⟨by decide, by decide⟩ ⟨(by decide), (by decide)⟩ dL_spreads_155 (fun rv337 h338 hp339 => ?_)
                            obtain ⟨rfl, e340⟩ := hp339
                            have f341 : h338 fA = some (eJ D 64 (mkH f4 ((cd bb9)))) := by rw [e340]; exact hu_s
                            have f342 : h338 eA = some (eJ D 64 (mkL e4 ((cd bb9)))) := by rw [e340, hu_n nef]; exact hu_s
                            refine x_iload C dL_spreads_158 9 rfl ?_
                            refine x_if_ne (tgt := 178) C dL_spreads_160 (by decide) (by omega) (fun c343 => ?_) (fun c343 => ?_)
                            · skip
                              refine x_iconst C dL_spreads_178 1 (by decide) ?_
                              refine x_goto (tgt := 183) C dL_spreads_179 (by decide) ?_
                              refine x_istore C (ls' := [(0, vI ((al : Nat) : Int)), (1, vI o), (2, .ref qA), (3, .ref gA), (4, .ref cA), (5, .ref dA), (6, .ref eA), (7, .ref fA), (8, .ref mA), (9, vI 1), (10, vI ((k : Nat) : Int)), (11, vI ((now : Nat) : Int)), (12, .long x), (14, vI ((i : Nat) : Int)), (15, vI x218), (16, vI ((bb9.1.toNat : Nat) : Int))]) dL_spreads_183 (by decide) rfl ?_
                              refine x_iinc C (x := ((i : Nat) : Int)) (ls' := [(0, vI ((al : Nat) : Int)), (1, vI o), (2, .ref qA), (3, .ref gA), (4, .ref cA), (5, .ref dA), (6, .ref eA), (7, .ref fA), (8, .ref mA), (9, vI 1), (10, vI ((k : Nat) : Int)), (11, vI ((now : Nat) : Int)), (12, .long x), (14, vI ((((i : Nat) : Int)) + 1)), (15, vI x218), (16, vI ((bb9.1.toNat : Nat) : Int))]) dL_spreads_185 13 rfl (by decide) rfl ?_
                              refine x_goto (tgt := 61) C dL_spreads_188 (by decide) ?_
                              refine x_sub [0, 1, 2, 3, 4, 5, 6, 7, 8, 9, 10, 11, 12, 13] (ls' := [(0, vI ((al : Nat) : Int)), (1, vI o), (2, .ref qA), (3, .ref gA), (4, .ref cA), (5, .ref dA), (6, .ref eA), (7, .ref fA), (8, .ref mA), (9, vI 1), (10, vI ((k : Nat) : Int)), (11, vI ((now : Nat) : Int)), (12, .long x), (14, vI ((((i : Nat) : Int)) + 1))]) rfl ?_
                              have n345 : nq gA mA := vnt u4g u4m (p := (1, 60)) (q := (1, 2)) rfl rfl (by decide)
                              have f344 : h278 gA = some (eJ D 60 g) := by rw [e279, hu_n n345]; exact u4g
                              have n347 : nq gA fA := vnt f344 f335 (p := (1, 60)) (q := (1, 64)) rfl rfl (by decide)
                              have n348 : nq gA eA := vnt f344 f333 (p := (1, 60)) (q := (1, 64)) rfl rfl (by decide)
                              have f346 : h338 gA = some (eJ D 60 g) := by rw [e340, hu_n n347, hu_n n348]; exact f344
                              have n350 : nq qA mA := vnt u4q u4m (p := (0, 5)) (q := (1, 2)) rfl rfl (by decide)
                              have f349 : h278 qA = some (eI D 5 q) := by rw [e279, hu_n n350]; exact u4q
                              have n352 : nq qA fA := vnt f349 f335 (p := (0, 5)) (q := (1, 64)) rfl rfl (by decide)
                              have n353 : nq qA eA := vnt f349 f333 (p := (0, 5)) (q := (1, 64)) rfl rfl (by decide)
                              have f351 : h338 qA = some (eI D 5 q) := by rw [e340, hu_n n352, hu_n n353]; exact f349
                              have n355 : nq cA mA := vnt u4c u4m (p := (1, 64)) (q := (1, 2)) rfl rfl (by decide)
                              have f354 : h278 cA = some (eJ D 64 c) := by rw [e279, hu_n n355]; exact u4c
                              have f356 : h338 cA = some (eJ D 64 c) := by rw [e340, hu_n ncf, hu_n nce]; exact f354
                              have n358 : nq dA mA := vnt u4d u4m (p := (1, 64)) (q := (1, 2)) rfl rfl (by decide)
                              have f357 : h278 dA = some (eJ D 64 d) := by rw [e279, hu_n n358]; exact u4d
                              have f359 : h338 dA = some (eJ D 64 d) := by rw [e340, hu_n ndf, hu_n nde]; exact f357
                              have f360 : h338 mA = some (eJ D 2 (vp_updL m4 (Int.toNat (((bb9.1.toNat / 48 : Nat) : Int))) ((m4 (Int.toNat (((bb9.1.toNat / 48 : Nat) : Int)))) ||| (lsl 1 (((bb9.1.toNat % 48 : Nat) : Int)))))) := by rw [e340, hu_n (Ne.symm n336), hu_n (Ne.symm n334)]; exact f280
                              exact ihIL (i + 1) 1 (mkL e4 ((cd bb9))) (mkH f4 ((cd bb9))) (vp_updL m4 (Int.toNat (((bb9.1.toNat / 48 : Nat) : Int))) ((m4 (Int.toNat (((bb9.1.toNat / 48 : Nat) : Int)))) ||| (lsl 1 (((bb9.1.toNat % 48 : Nat) : Int))))) 1 h338 f346 f351 f356 f359 f342 f341 f360 (by omega) (by omega) (Or.inl ⟨rfl, hmk⟩) (hI4.step (by omega) (by omega) (by omega) hmk hbb (by first | exact mk_yes hcl (by omega) | exact mk_no (by omega)) (by first | exact ms_yes t1 (by omega) | exact ms_no (by omega)) (by omega) (by first | exact Cl_mk hcl | exact id)) (by omega) (fun b9 y1 y2 y3 => by first | exact hfr b9 y1 y2 y3 | (rw [e340, e279]; simp only [hu_n y1, hu_n y2, hu_n y3]; exact hfr b9 y1 y2 y3))
                            · skip
                              refine x_iload C dL_spreads_163 14 rfl ?_
                              refine x_sipush C dL_spreads_165 16384 (by decide) ?_
                              refine x_icmp_lt (tgt := 182) C dL_spreads_168 (by decide) (by omega) (by omega) (fun c361 => ?_) (fun c361 => ?_)
                              · skip
                                refine x_iconst C dL_spreads_182 0 (by decide) ?_
                                refine x_istore C (ls' := [(0, vI ((al : Nat) : Int)), (1, vI o), (2, .ref qA), (3, .ref gA), (4, .ref cA), (5, .ref dA), (6, .ref eA), (7, .ref fA), (8, .ref mA), (9, vI 0), (10, vI ((k : Nat) : Int)), (11, vI ((now : Nat) : Int)), (12, .long x), (14, vI ((i : Nat) : Int)), (15, vI x218), (16, vI ((bb9.1.toNat : Nat) : Int))]) dL_spreads_183 (by decide) rfl ?_
                                refine x_iinc C (x := ((i : Nat) : Int)) (ls' := [(0, vI ((al : Nat) : Int)), (1, vI o), (2, .ref qA), (3, .ref gA), (4, .ref cA), (5, .ref dA), (6, .ref eA), (7, .ref fA), (8, .ref mA), (9, vI 0), (10, vI ((k : Nat) : Int)), (11, vI ((now : Nat) : Int)), (12, .long x), (14, vI ((((i : Nat) : Int)) + 1)), (15, vI x218), (16, vI ((bb9.1.toNat : Nat) : Int))]) dL_spreads_185 13 rfl (by decide) rfl ?_
                                refine x_goto (tgt := 61) C dL_spreads_188 (by decide) ?_
                                refine x_sub [0, 1, 2, 3, 4, 5, 6, 7, 8, 9, 10, 11, 12, 13] (ls' := [(0, vI ((al : Nat) : Int)), (1, vI o), (2, .ref qA), (3, .ref gA), (4, .ref cA), (5, .ref dA), (6, .ref eA), (7, .ref fA), (8, .ref mA), (9, vI 0), (10, vI ((k : Nat) : Int)), (11, vI ((now : Nat) : Int)), (12, .long x), (14, vI ((((i : Nat) : Int)) + 1))]) rfl ?_
                                have n363 : nq gA mA := vnt u4g u4m (p := (1, 60)) (q := (1, 2)) rfl rfl (by decide)
                                have f362 : h278 gA = some (eJ D 60 g) := by rw [e279, hu_n n363]; exact u4g
                                have n365 : nq gA fA := vnt f362 f335 (p := (1, 60)) (q := (1, 64)) rfl rfl (by decide)
                                have n366 : nq gA eA := vnt f362 f333 (p := (1, 60)) (q := (1, 64)) rfl rfl (by decide)
                                have f364 : h338 gA = some (eJ D 60 g) := by rw [e340, hu_n n365, hu_n n366]; exact f362
                                have n368 : nq qA mA := vnt u4q u4m (p := (0, 5)) (q := (1, 2)) rfl rfl (by decide)
                                have f367 : h278 qA = some (eI D 5 q) := by rw [e279, hu_n n368]; exact u4q
                                have n370 : nq qA fA := vnt f367 f335 (p := (0, 5)) (q := (1, 64)) rfl rfl (by decide)
                                have n371 : nq qA eA := vnt f367 f333 (p := (0, 5)) (q := (1, 64)) rfl rfl (by decide)
                                have f369 : h338 qA = some (eI D 5 q) := by rw [e340, hu_n n370, hu_n n371]; exact f367
                                have n373 : nq cA mA := vnt u4c u4m (p := (1, 64)) (q := (1, 2)) rfl rfl (by decide)
                                have f372 : h278 cA = some (eJ D 64 c) := by rw [e279, hu_n n373]; exact u4c
                                have f374 : h338 cA = some (eJ D 64 c) := by rw [e340, hu_n ncf, hu_n nce]; exact f372
                                have n376 : nq dA mA := vnt u4d u4m (p := (1, 64)) (q := (1, 2)) rfl rfl (by decide)
                                have f375 : h278 dA = some (eJ D 64 d) := by rw [e279, hu_n n376]; exact u4d
                                have f377 : h338 dA = some (eJ D 64 d) := by rw [e340, hu_n ndf, hu_n nde]; exact f375
                                have f378 : h338 mA = some (eJ D 2 (vp_updL m4 (Int.toNat (((bb9.1.toNat / 48 : Nat) : Int))) ((m4 (Int.toNat (((bb9.1.toNat / 48 : Nat) : Int)))) ||| (lsl 1 (((bb9.1.toNat % 48 : Nat) : Int)))))) := by rw [e340, hu_n (Ne.symm n336), hu_n (Ne.symm n334)]; exact f280
                                exact ihIL (i + 1) 1 (mkL e4 ((cd bb9))) (mkH f4 ((cd bb9))) (vp_updL m4 (Int.toNat (((bb9.1.toNat / 48 : Nat) : Int))) ((m4 (Int.toNat (((bb9.1.toNat / 48 : Nat) : Int)))) ||| (lsl 1 (((bb9.1.toNat % 48 : Nat) : Int))))) 0 h338 f364 f369 f374 f377 f342 f341 f378 (by omega) (by omega) (Or.inl ⟨rfl, hmk⟩) (hI4.step (by omega) (by omega) (by omega) hmk hbb (by first | exact mk_yes hcl (by omega) | exact mk_no (by omega)) (by first | exact ms_yes t1 (by omega) | exact ms_no (by omega)) (by omega) (by first | exact Cl_mk hcl | exact id)) (by omega) (fun b9 y1 y2 y3 => by first | exact hfr b9 y1 y2 y3 | (rw [e340, e279]; simp only [hu_n y1, hu_n y2, hu_n y3]; exact hfr b9 y1 y2 y3))
                              · skip
                                refine x_iload C dL_spreads_171 14 rfl ?_
                                refine x_ldcI C (z := 32768) (by decide) kL_spreads_0 dL_spreads_173 ?_
                                refine x_icmp_ge (tgt := 182) C dL_spreads_175 (by decide) (by omega) (by omega) (fun c379 => ?_) (fun c379 => ?_)
                                · skip
                                  refine x_iconst C dL_spreads_182 0 (by decide) ?_
                                  refine x_istore C (ls' := [(0, vI ((al : Nat) : Int)), (1, vI o), (2, .ref qA), (3, .ref gA), (4, .ref cA), (5, .ref dA), (6, .ref eA), (7, .ref fA), (8, .ref mA), (9, vI 0), (10, vI ((k : Nat) : Int)), (11, vI ((now : Nat) : Int)), (12, .long x), (14, vI ((i : Nat) : Int)), (15, vI x218), (16, vI ((bb9.1.toNat : Nat) : Int))]) dL_spreads_183 (by decide) rfl ?_
                                  refine x_iinc C (x := ((i : Nat) : Int)) (ls' := [(0, vI ((al : Nat) : Int)), (1, vI o), (2, .ref qA), (3, .ref gA), (4, .ref cA), (5, .ref dA), (6, .ref eA), (7, .ref fA), (8, .ref mA), (9, vI 0), (10, vI ((k : Nat) : Int)), (11, vI ((now : Nat) : Int)), (12, .long x), (14, vI ((((i : Nat) : Int)) + 1)), (15, vI x218), (16, vI ((bb9.1.toNat : Nat) : Int))]) dL_spreads_185 13 rfl (by decide) rfl ?_
                                  refine x_goto (tgt := 61) C dL_spreads_188 (by decide) ?_
                                  refine x_sub [0, 1, 2, 3, 4, 5, 6, 7, 8, 9, 10, 11, 12, 13] (ls' := [(0, vI ((al : Nat) : Int)), (1, vI o), (2, .ref qA), (3, .ref gA), (4, .ref cA), (5, .ref dA), (6, .ref eA), (7, .ref fA), (8, .ref mA), (9, vI 0), (10, vI ((k : Nat) : Int)), (11, vI ((now : Nat) : Int)), (12, .long x), (14, vI ((((i : Nat) : Int)) + 1))]) rfl ?_
                                  have n381 : nq gA mA := vnt u4g u4m (p := (1, 60)) (q := (1, 2)) rfl rfl (by decide)
                                  have f380 : h278 gA = some (eJ D 60 g) := by rw [e279, hu_n n381]; exact u4g
                                  have n383 : nq gA fA := vnt f380 f335 (p := (1, 60)) (q := (1, 64)) rfl rfl (by decide)
                                  have n384 : nq gA eA := vnt f380 f333 (p := (1, 60)) (q := (1, 64)) rfl rfl (by decide)
                                  have f382 : h338 gA = some (eJ D 60 g) := by rw [e340, hu_n n383, hu_n n384]; exact f380
                                  have n386 : nq qA mA := vnt u4q u4m (p := (0, 5)) (q := (1, 2)) rfl rfl (by decide)
                                  have f385 : h278 qA = some (eI D 5 q) := by rw [e279, hu_n n386]; exact u4q
                                  have n388 : nq qA fA := vnt f385 f335 (p := (0, 5)) (q := (1, 64)) rfl rfl (by decide)
                                  have n389 : nq qA eA := vnt f385 f333 (p := (0, 5)) (q := (1, 64)) rfl rfl (by decide)
                                  have f387 : h338 qA = some (eI D 5 q) := by rw [e340, hu_n n388, hu_n n389]; exact f385
                                  have n391 : nq cA mA := vnt u4c u4m (p := (1, 64)) (q := (1, 2)) rfl rfl (by decide)
                                  have f390 : h278 cA = some (eJ D 64 c) := by rw [e279, hu_n n391]; exact u4c
                                  have f392 : h338 cA = some (eJ D 64 c) := by rw [e340, hu_n ncf, hu_n nce]; exact f390
                                  have n394 : nq dA mA := vnt u4d u4m (p := (1, 64)) (q := (1, 2)) rfl rfl (by decide)
                                  have f393 : h278 dA = some (eJ D 64 d) := by rw [e279, hu_n n394]; exact u4d
                                  have f395 : h338 dA = some (eJ D 64 d) := by rw [e340, hu_n ndf, hu_n nde]; exact f393
                                  have f396 : h338 mA = some (eJ D 2 (vp_updL m4 (Int.toNat (((bb9.1.toNat / 48 : Nat) : Int))) ((m4 (Int.toNat (((bb9.1.toNat / 48 : Nat) : Int)))) ||| (lsl 1 (((bb9.1.toNat % 48 : Nat) : Int)))))) := by rw [e340, hu_n (Ne.symm n336), hu_n (Ne.symm n334)]; exact f280
                                  exact ihIL (i + 1) 1 (mkL e4 ((cd bb9))) (mkH f4 ((cd bb9))) (vp_updL m4 (Int.toNat (((bb9.1.toNat / 48 : Nat) : Int))) ((m4 (Int.toNat (((bb9.1.toNat / 48 : Nat) : Int)))) ||| (lsl 1 (((bb9.1.toNat % 48 : Nat) : Int))))) 0 h338 f382 f387 f392 f395 f342 f341 f396 (by omega) (by omega) (Or.inl ⟨rfl, hmk⟩) (hI4.step (by omega) (by omega) (by omega) hmk hbb (by first | exact mk_yes hcl (by omega) | exact mk_no (by omega)) (by first | exact ms_yes t1 (by omega) | exact ms_no (by omega)) (by omega) (by first | exact Cl_mk hcl | exact id)) (by omega) (fun b9 y1 y2 y3 => by first | exact hfr b9 y1 y2 y3 | (rw [e340, e279]; simp only [hu_n y1, hu_n y2, hu_n y3]; exact hfr b9 y1 y2 y3))
                                · skip
                                  refine x_iconst C dL_spreads_178 1 (by decide) ?_
                                  refine x_goto (tgt := 183) C dL_spreads_179 (by decide) ?_
                                  refine x_istore C (ls' := [(0, vI ((al : Nat) : Int)), (1, vI o), (2, .ref qA), (3, .ref gA), (4, .ref cA), (5, .ref dA), (6, .ref eA), (7, .ref fA), (8, .ref mA), (9, vI 1), (10, vI ((k : Nat) : Int)), (11, vI ((now : Nat) : Int)), (12, .long x), (14, vI ((i : Nat) : Int)), (15, vI x218), (16, vI ((bb9.1.toNat : Nat) : Int))]) dL_spreads_183 (by decide) rfl ?_
                                  refine x_iinc C (x := ((i : Nat) : Int)) (ls' := [(0, vI ((al : Nat) : Int)), (1, vI o), (2, .ref qA), (3, .ref gA), (4, .ref cA), (5, .ref dA), (6, .ref eA), (7, .ref fA), (8, .ref mA), (9, vI 1), (10, vI ((k : Nat) : Int)), (11, vI ((now : Nat) : Int)), (12, .long x), (14, vI ((((i : Nat) : Int)) + 1)), (15, vI x218), (16, vI ((bb9.1.toNat : Nat) : Int))]) dL_spreads_185 13 rfl (by decide) rfl ?_
                                  refine x_goto (tgt := 61) C dL_spreads_188 (by decide) ?_
                                  refine x_sub [0, 1, 2, 3, 4, 5, 6, 7, 8, 9, 10, 11, 12, 13] (ls' := [(0, vI ((al : Nat) : Int)), (1, vI o), (2, .ref qA), (3, .ref gA), (4, .ref cA), (5, .ref dA), (6, .ref eA), (7, .ref fA), (8, .ref mA), (9, vI 1), (10, vI ((k : Nat) : Int)), (11, vI ((now : Nat) : Int)), (12, .long x), (14, vI ((((i : Nat) : Int)) + 1))]) rfl ?_
                                  have n398 : nq gA mA := vnt u4g u4m (p := (1, 60)) (q := (1, 2)) rfl rfl (by decide)
                                  have f397 : h278 gA = some (eJ D 60 g) := by rw [e279, hu_n n398]; exact u4g
                                  have n400 : nq gA fA := vnt f397 f335 (p := (1, 60)) (q := (1, 64)) rfl rfl (by decide)
                                  have n401 : nq gA eA := vnt f397 f333 (p := (1, 60)) (q := (1, 64)) rfl rfl (by decide)
                                  have f399 : h338 gA = some (eJ D 60 g) := by rw [e340, hu_n n400, hu_n n401]; exact f397
                                  have n403 : nq qA mA := vnt u4q u4m (p := (0, 5)) (q := (1, 2)) rfl rfl (by decide)
                                  have f402 : h278 qA = some (eI D 5 q) := by rw [e279, hu_n n403]; exact u4q
                                  have n405 : nq qA fA := vnt f402 f335 (p := (0, 5)) (q := (1, 64)) rfl rfl (by decide)
                                  have n406 : nq qA eA := vnt f402 f333 (p := (0, 5)) (q := (1, 64)) rfl rfl (by decide)
                                  have f404 : h338 qA = some (eI D 5 q) := by rw [e340, hu_n n405, hu_n n406]; exact f402
                                  have n408 : nq cA mA := vnt u4c u4m (p := (1, 64)) (q := (1, 2)) rfl rfl (by decide)
                                  have f407 : h278 cA = some (eJ D 64 c) := by rw [e279, hu_n n408]; exact u4c
                                  have f409 : h338 cA = some (eJ D 64 c) := by rw [e340, hu_n ncf, hu_n nce]; exact f407
                                  have n411 : nq dA mA := vnt u4d u4m (p := (1, 64)) (q := (1, 2)) rfl rfl (by decide)
                                  have f410 : h278 dA = some (eJ D 64 d) := by rw [e279, hu_n n411]; exact u4d
                                  have f412 : h338 dA = some (eJ D 64 d) := by rw [e340, hu_n ndf, hu_n nde]; exact f410
                                  have f413 : h338 mA = some (eJ D 2 (vp_updL m4 (Int.toNat (((bb9.1.toNat / 48 : Nat) : Int))) ((m4 (Int.toNat (((bb9.1.toNat / 48 : Nat) : Int)))) ||| (lsl 1 (((bb9.1.toNat % 48 : Nat) : Int)))))) := by rw [e340, hu_n (Ne.symm n336), hu_n (Ne.symm n334)]; exact f280
                                  exact ihIL (i + 1) 1 (mkL e4 ((cd bb9))) (mkH f4 ((cd bb9))) (vp_updL m4 (Int.toNat (((bb9.1.toNat / 48 : Nat) : Int))) ((m4 (Int.toNat (((bb9.1.toNat / 48 : Nat) : Int)))) ||| (lsl 1 (((bb9.1.toNat % 48 : Nat) : Int))))) 1 h338 f399 f404 f409 f412 f342 f341 f413 (by omega) (by omega) (Or.inl ⟨rfl, hmk⟩) (hI4.step (by omega) (by omega) (by omega) hmk hbb (by first | exact mk_yes hcl (by omega) | exact mk_no (by omega)) (by first | exact ms_yes t1 (by omega) | exact ms_no (by omega)) (by omega) (by first | exact Cl_mk hcl | exact id)) (by omega) (fun b9 y1 y2 y3 => by first | exact hfr b9 y1 y2 y3 | (rw [e340, e279]; simp only [hu_n y1, hu_n y2, hu_n y3]; exact hfr b9 y1 y2 y3))
                refine x_sub [1, 2, 3, 4, 5, 6, 7, 8, 9, 10, 11, 12, 0, 13] (ls' := [(0, vI ((al : Nat) : Int)), (1, vI o), (2, .ref qA), (3, .ref gA), (4, .ref cA), (5, .ref dA), (6, .ref eA), (7, .ref fA), (8, .ref mA), (9, vI w3), (10, vI ((k : Nat) : Int)), (11, vI ((now : Nat) : Int)), (12, .long x209), (14, vI 0)]) rfl ?_
                exact IL (7) 0 x209 e3 f3 m3 w3 h3 u3g u3q u3c u3d u3e u3f u3m (by omega) (by omega) (hx39.imp id (fun z9 => ⟨z9.1, z9.2, rfl⟩)) (hI3) (hw3) (hfr)
        exact NL (97) 0 e2 f2 m2 w2 h1 u2g u2q u2c u2d u2e u2f u2m (by omega) (by omega) (hI2) (hw2) (hfr)
  exact KL (65) 0 e f m 0 h hg hq hc hd he hf hm (by omega) (by omega) (SPI.z) (Or.inl rfl) (fun _ _ _ _ => rfl)


set_option maxRecDepth 100000 in
set_option maxHeartbeats 1000000 in
theorem c_L_marks {l : Launch} {D : va_G} {A : Nat → Prop} {h : vh} {b : Int} {loA hiA n : Nat} {lo hi : Nat → Int64} (hlo : h loA = some (eJ D 64 lo)) (hhi : h hiA = some (eJ D 64 hi)) (hn : n < 6144) (hb : b = ((n / 64 : Nat) : Int) + 128 * ((n % 64 / 8 : Nat) : Int) + 1024 * ((n % 8 : Nat) : Int)) (hne : nq loA hiA) : MX l D A yL_marks wsL_marks { frames := 0, cells := 0, slots := 0, locals := 0 } [vI b, .ref loA, .ref hiA] h (fun rv h' => rv = none ∧ h' = hu (hu h loA (eJ D 64 (mkL lo n))) hiA (eJ D 64 (mkH hi n))) := by
  refine MX.of (cc := cL_marks) (maxL := 5) (ret := none) [(0, vI b), (1, .ref loA), (2, .ref hiA)] (by decide +kernel) rfl rfl (Nat.le_of_ble_eq_true rfl) ?_
  intro κ C hkl G
  subst hkl
  have C : CX κ "LedgeLevelsLaw" "marks" cL_marks wsL_marks { frames := 0, cells := 0, slots := 0, locals := 0 } D A 5 := C
  have hiz : nq (D.1 20) (D.1 21) := cx_iz C
  have hb9 : b / 128 = ((n % 64 / 8 : Nat) : Int) + 8 * ((n % 8 : Nat) : Int) := by omega
  have hy9 : n % 64 % 8 = n % 8 := by omega
  have hr9 : n % 64 < 64 := by omega
  refine x_iload_n C dL_marks_0 0 rfl ?_
  refine x_sipush C dL_marks_1 128 (by decide) ?_
  refine x_irem C dL_marks_4 (by omega) (by omega) (by omega) (by omega) ?_
  refine x_topv (show b % 128 = ((n / 64 : Nat) : Int) from by omega) ?_
  refine x_istore_n C (ls' := [(0, vI b), (1, .ref loA), (2, .ref hiA), (3, vI ((n / 64 : Nat) : Int))]) dL_marks_5 (by decide) rfl ?_
  refine x_iload_n C dL_marks_6 0 rfl ?_
  refine x_sipush C dL_marks_7 128 (by decide) ?_
  refine x_idiv C dL_marks_10 (by omega) (by omega) (by omega) (by omega) ?_
  refine x_bipush C dL_marks_11 64 (by decide) ?_
  refine x_irem C dL_marks_13 (by omega) (by omega) (by omega) (by omega) ?_
  refine x_topv (show (b / 128) % 64 = ((n % 64 / 8 + 8 * (n % 8) : Nat) : Int) from by rw [hb9]; omega) ?_
  refine x_istore C (ls' := [(0, vI b), (1, .ref loA), (2, .ref hiA), (3, vI ((n / 64 : Nat) : Int)), (4, vI ((n % 64 / 8 + 8 * (n % 8) : Nat) : Int))]) dL_marks_14 (by decide) rfl ?_
  refine x_iload C dL_marks_16 4 rfl ?_
  refine x_bipush C dL_marks_18 8 (by decide) ?_
  refine x_irem C dL_marks_20 (by omega) (by omega) (by omega) (by omega) ?_
  refine x_bipush C dL_marks_21 8 (by decide) ?_
  refine x_imul C dL_marks_23 ?_
  refine x_iload C dL_marks_24 4 rfl ?_
  refine x_bipush C dL_marks_26 8 (by decide) ?_
  refine x_idiv C dL_marks_28 (by omega) (by omega) (by omega) (by omega) ?_
  refine x_iadd C dL_marks_29 ?_
  refine x_topv (show (((((n % 64 / 8 + 8 * (n % 8) : Nat) : Int)) % 8) * 8) + ((((n % 64 / 8 + 8 * (n % 8) : Nat) : Int)) / 8) = ((n % 64 : Nat) : Int) from by omega) ?_
  refine x_istore C (ls' := [(0, vI b), (1, .ref loA), (2, .ref hiA), (3, vI ((n / 64 : Nat) : Int)), (4, vI ((n % 64 : Nat) : Int))]) dL_marks_30 (by decide) rfl ?_
  refine x_aload_n C dL_marks_32 1 rfl ?_
  refine x_iload C dL_marks_33 4 rfl ?_
  refine x_dup2 C dL_marks_35 rfl rfl ?_
  refine x_lald C hlo ⟨by omega, by omega⟩ (by decide) dL_marks_36 ?_
  refine x_iload_n C dL_marks_37 3 rfl ?_
  refine x_bipush C dL_marks_38 48 (by decide) ?_
  refine x_icmp_ge (tgt := 49) C dL_marks_40 (by decide) (by omega) (by omega) (fun c1 => ?_) (fun c1 => ?_)
  · skip
    refine x_lconst C (v := 0) dL_marks_49 rfl ?_
    refine x_lor C dL_marks_50 ?_
    refine x_last C hlo ⟨by omega, by omega⟩ (by decide) dL_marks_51 (x_hn (fun h2 e3 => ?_))
    have f4 : h2 loA = some (eJ D 64 (vp_updL lo (Int.toNat (((n % 64 : Nat) : Int))) ((lo (Int.toNat (((n % 64 : Nat) : Int)))) ||| 0))) := by rw [e3]; exact hu_s
    refine x_aload_n C dL_marks_52 2 rfl ?_
    refine x_iload C dL_marks_53 4 rfl ?_
    refine x_dup2 C dL_marks_55 rfl rfl ?_
    have f5 : h2 hiA = some (eJ D 64 hi) := by rw [e3, hu_n (Ne.symm hne)]; exact hhi
    refine x_lald C f5 ⟨by omega, by omega⟩ (by decide) dL_marks_56 ?_
    refine x_iload_n C dL_marks_57 3 rfl ?_
    refine x_bipush C dL_marks_58 48 (by decide) ?_
    refine x_icmp_ge (tgt := 67) C dL_marks_60 (by decide) (by omega) (by omega) (fun c6 => ?_) (fun c6 => ?_)
    · skip
      refine x_lconst C (v := 1) dL_marks_67 rfl ?_
      refine x_iload_n C dL_marks_68 3 rfl ?_
      refine x_bipush C dL_marks_69 48 (by decide) ?_
      refine x_isub C dL_marks_71 ?_
      refine x_topv (show (((n / 64 : Nat) : Int)) - 48 = ((n / 64 - 48 : Nat) : Int) from by omega) ?_
      refine x_lshl C dL_marks_72 ?_
      refine x_lor C dL_marks_73 ?_
      refine x_last C f5 ⟨by omega, by omega⟩ (by decide) dL_marks_74 (x_hn (fun h7 e8 => ?_))
      have f9 : h7 hiA = some (eJ D 64 (vp_updL hi (Int.toNat (((n % 64 : Nat) : Int))) ((hi (Int.toNat (((n % 64 : Nat) : Int)))) ||| (lsl 1 (((n / 64 - 48 : Nat) : Int)))))) := by rw [e8]; exact hu_s
      refine x_vret C G dL_marks_75 ?_ (by decide) (by decide)
      first
        | (exfalso; omega)
        | exact ⟨rfl, by rw [e8, e3]; unfold mkL mkH; rw [if_pos (show n / 64 < 48 by omega), if_pos (show n / 64 < 48 by omega)]; rfl⟩
        | exact ⟨rfl, by rw [e8, e3]; unfold mkL mkH; rw [if_neg (show ¬ n / 64 < 48 by omega), if_neg (show ¬ n / 64 < 48 by omega)]; rfl⟩
    · skip
      refine x_lconst C (v := 0) dL_marks_63 rfl ?_
      refine x_goto (tgt := 73) C dL_marks_64 (by decide) ?_
      refine x_lor C dL_marks_73 ?_
      refine x_last C f5 ⟨by omega, by omega⟩ (by decide) dL_marks_74 (x_hn (fun h10 e11 => ?_))
      have f12 : h10 hiA = some (eJ D 64 (vp_updL hi (Int.toNat (((n % 64 : Nat) : Int))) ((hi (Int.toNat (((n % 64 : Nat) : Int)))) ||| 0))) := by rw [e11]; exact hu_s
      refine x_vret C G dL_marks_75 ?_ (by decide) (by decide)
      first
        | (exfalso; omega)
        | exact ⟨rfl, by rw [e11, e3]; unfold mkL mkH; rw [if_pos (show n / 64 < 48 by omega), if_pos (show n / 64 < 48 by omega)]; rfl⟩
        | exact ⟨rfl, by rw [e11, e3]; unfold mkL mkH; rw [if_neg (show ¬ n / 64 < 48 by omega), if_neg (show ¬ n / 64 < 48 by omega)]; rfl⟩
  · skip
    refine x_lconst C (v := 1) dL_marks_43 rfl ?_
    refine x_iload_n C dL_marks_44 3 rfl ?_
    refine x_lshl C dL_marks_45 ?_
    refine x_goto (tgt := 50) C dL_marks_46 (by decide) ?_
    refine x_lor C dL_marks_50 ?_
    refine x_last C hlo ⟨by omega, by omega⟩ (by decide) dL_marks_51 (x_hn (fun h13 e14 => ?_))
    have f15 : h13 loA = some (eJ D 64 (vp_updL lo (Int.toNat (((n % 64 : Nat) : Int))) ((lo (Int.toNat (((n % 64 : Nat) : Int)))) ||| (lsl 1 (((n / 64 : Nat) : Int)))))) := by rw [e14]; exact hu_s
    refine x_aload_n C dL_marks_52 2 rfl ?_
    refine x_iload C dL_marks_53 4 rfl ?_
    refine x_dup2 C dL_marks_55 rfl rfl ?_
    have f16 : h13 hiA = some (eJ D 64 hi) := by rw [e14, hu_n (Ne.symm hne)]; exact hhi
    refine x_lald C f16 ⟨by omega, by omega⟩ (by decide) dL_marks_56 ?_
    refine x_iload_n C dL_marks_57 3 rfl ?_
    refine x_bipush C dL_marks_58 48 (by decide) ?_
    refine x_icmp_ge (tgt := 67) C dL_marks_60 (by decide) (by omega) (by omega) (fun c17 => ?_) (fun c17 => ?_)
    · skip
      refine x_lconst C (v := 1) dL_marks_67 rfl ?_
      refine x_iload_n C dL_marks_68 3 rfl ?_
      refine x_bipush C dL_marks_69 48 (by decide) ?_
      refine x_isub C dL_marks_71 ?_
      refine x_topv (show (((n / 64 : Nat) : Int)) - 48 = ((n / 64 - 48 : Nat) : Int) from by omega) ?_
      refine x_lshl C dL_marks_72 ?_
      refine x_lor C dL_marks_73 ?_
      refine x_last C f16 ⟨by omega, by omega⟩ (by decide) dL_marks_74 (x_hn (fun h18 e19 => ?_))
      have f20 : h18 hiA = some (eJ D 64 (vp_updL hi (Int.toNat (((n % 64 : Nat) : Int))) ((hi (Int.toNat (((n % 64 : Nat) : Int)))) ||| (lsl 1 (((n / 64 - 48 : Nat) : Int)))))) := by rw [e19]; exact hu_s
      refine x_vret C G dL_marks_75 ?_ (by decide) (by decide)
      first
        | (exfalso; omega)
        | exact ⟨rfl, by rw [e19, e14]; unfold mkL mkH; rw [if_pos (show n / 64 < 48 by omega), if_pos (show n / 64 < 48 by omega)]; rfl⟩
        | exact ⟨rfl, by rw [e19, e14]; unfold mkL mkH; rw [if_neg (show ¬ n / 64 < 48 by omega), if_neg (show ¬ n / 64 < 48 by omega)]; rfl⟩
    · skip
      refine x_lconst C (v := 0) dL_marks_63 rfl ?_
      refine x_goto (tgt := 73) C dL_marks_64 (by decide) ?_
      refine x_lor C dL_marks_73 ?_
      refine x_last C f16 ⟨by omega, by omega⟩ (by decide) dL_marks_74 (x_hn (fun h21 e22 => ?_))
      have f23 : h21 hiA = some (eJ D 64 (vp_updL hi (Int.toNat (((n % 64 : Nat) : Int))) ((hi (Int.toNat (((n % 64 : Nat) : Int)))) ||| 0))) := by rw [e22]; exact hu_s
      refine x_vret C G dL_marks_75 ?_ (by decide) (by decide)
      first
        | (exfalso; omega)
        | exact ⟨rfl, by rw [e22, e14]; unfold mkL mkH; rw [if_pos (show n / 64 < 48 by omega), if_pos (show n / 64 < 48 by omega)]; rfl⟩
        | exact ⟨rfl, by rw [e22, e14]; unfold mkL mkH; rw [if_neg (show ¬ n / 64 < 48 by omega), if_neg (show ¬ n / 64 < 48 by omega)]; rfl⟩

theorem TT_e {f : Nat → Int} {B : Int → Nat} {al : Nat} {S : Nat → Int} {now k i : Nat} (hk : k < 64) : TTr f B al S (64 * now + k) i = mv f B al S ((i : Nat) : Int) ((now : Nat) : Int) (((k / 8 : Nat) : Int) - 4) (k % 8) := by
  unfold TTr
  rw [show (64 * now + k) / 64 = now by omega, show (64 * now + k) / 8 % 8 = k / 8 by omega, show (64 * now + k) % 8 = k % 8 by omega]
/-- a body has taken the key of its own cell -/
def GB (f : Nat → Int) (n : Nat) : Prop := n % 8 ||| kbr f (fun _ => 0) ((n / 64 : Nat) : Int) = n % 8

theorem kL_spreads_0 : Cond.constant "LedgeLevelsLaw" 54 (32768) ∈ wsL_spreads := by decide +kernel
set_option maxRecDepth 100000 in
set_option maxHeartbeats 20000000 in
theorem c_L_spreads {l : Launch} {D : va_G} {A : Nat → Prop} {h : vh} {gA qA cA dA eA fA mA : Nat} {g c d e f m : Nat → Int64} {q S : Nat → Int} {o : Int} {al : Nat} (hg : h gA = some (eJ D 60 g)) (hq : h qA = some (eI D 5 q)) (hc : h cA = some (eJ D 64 c)) (hd : h dA = some (eJ D 64 d)) (he : h eA = some (eJ D 64 e)) (hf : h fA = some (eJ D 64 f)) (hm : h mA = some (eJ D 2 m)) (ha : al = (lyA (gk g o.toNat) 96)) (ho : 0 ≤ o ∧ o ≤ 54) (hS : ∀ j : Nat, j < 3 → S j = q (j + 2)) (rS : ∀ j, 0 ≤ S j ∧ S j ≤ 4) (hA : (lyA (gk g o.toNat) 96) ≤ 7) (hf8 : ∀ z, 0 ≤ gk g o.toNat z ∧ gk g o.toNat z ≤ 8) (nce : nq cA eA) (ncf : nq cA fA) (nde : nq dA eA) (ndf : nq dA fA) (nef : nq eA fA) (hgd : ∀ n, n < 6144 → Mk c d n → GB (gk g o.toNat) n) : MX l D A yL_spreads wsL_spreads { frames := 4, cells := 0, slots := 0, locals := 108 } [vI ((al : Nat) : Int), vI o, .ref qA, .ref gA, .ref cA, .ref dA, .ref eA, .ref fA, .ref mA] h (fun rv h' => ∃ (e1 f1 m1 : Nat → Int64) (w1 : Int), rv = some (vI w1) ∧ h' = hu (hu (hu h eA (eJ D 64 e1)) fA (eJ D 64 f1)) mA (eJ D 2 m1) ∧ (SPI (TTr (gk g o.toNat) (kbr (gk g o.toNat) (fun _ => 0)) al S) c d e f m 64 0 0 e1 f1 m1 w1)) := by
  refine MX.of (cc := cL_spreads) (maxL := 17) (ret := (some .boolean)) [(0, vI ((al : Nat) : Int)), (1, vI o), (2, .ref qA), (3, .ref gA), (4, .ref cA), (5, .ref dA), (6, .ref eA), (7, .ref fA), (8, .ref mA)] (by decide +kernel) rfl rfl (Nat.le_of_ble_eq_true rfl) ?_
  intro κ C hkl G
  subst hkl
  have C : CX κ "LedgeLevelsLaw" "spreads" cL_spreads wsL_spreads { frames := 4, cells := 0, slots := 0, locals := 108 } D A 17 := C
  have hiz : nq (D.1 20) (D.1 21) := cx_iz C
  refine x_iconst C dL_spreads_0 0 (by decide) ?_
  refine x_istore C (ls' := [(0, vI ((al : Nat) : Int)), (1, vI o), (2, .ref qA), (3, .ref gA), (4, .ref cA), (5, .ref dA), (6, .ref eA), (7, .ref fA), (8, .ref mA), (9, vI 0)]) dL_spreads_1 (by decide) rfl ?_
  refine x_iconst C dL_spreads_3 0 (by decide) ?_
  refine x_istore C (ls' := [(0, vI ((al : Nat) : Int)), (1, vI o), (2, .ref qA), (3, .ref gA), (4, .ref cA), (5, .ref dA), (6, .ref eA), (7, .ref fA), (8, .ref mA), (9, vI 0), (10, vI 0)]) dL_spreads_4 (by decide) rfl ?_
  have KL : ∀ (N : Nat) (k : Nat) (e2 f2 m2 : Nat → Int64) (w2 : Int) (h1 : vh)  (u2g : h1 gA = some (eJ D 60 g)) (u2q : h1 qA = some (eI D 5 q)) (u2c : h1 cA = some (eJ D 64 c)) (u2d : h1 dA = some (eJ D 64 d)) (u2e : h1 eA = some (eJ D 64 e2)) (u2f : h1 fA = some (eJ D 64 f2)) (u2m : h1 mA = some (eJ D 2 m2)) (hk : k ≤ 64) (hN : 64 - k < N) (hI2 : SPI (TTr (gk g o.toNat) (kbr (gk g o.toNat) (fun _ => 0)) al S) c d e f m k 0 0 e2 f2 m2 w2) (hw2 : w2 = 0 ∨ w2 = 1) (hfr : ∀ b9, b9 ≠ eA → b9 ≠ fA → b9 ≠ mA → h1 b9 = h b9), X κ 0 0 h1 [(0, vI ((al : Nat) : Int)), (1, vI o), (2, .ref qA), (3, .ref gA), (4, .ref cA), (5, .ref dA), (6, .ref eA), (7, .ref fA), (8, .ref mA), (9, vI w2), (10, vI ((k : Nat) : Int))] 6 [] := by
    intro N
    induction N with
    | zero => intro k e2 f2 m2 w2 h1 u2g u2q u2c u2d u2e u2f u2m hk hN hI2 hw2 hfr; exfalso; omega
    | succ N ihKL =>
      intro k e2 f2 m2 w2 h1 u2g u2q u2c u2d u2e u2f u2m hk hN hI2 hw2 hfr
      refine x_iload C dL_spreads_6 10 rfl ?_
      refine x_bipush C dL_spreads_8 64 (by decide) ?_
      refine x_icmp_ge (tgt := 203) C dL_spreads_10 (by decide) (by omega) (by omega) (fun c2 => ?_) (fun c2 => ?_)
      · skip
        refine x_iload C dL_spreads_203 9 rfl ?_
        refine x_zret C G dL_spreads_205 (by rcases hw2 with q9 | q9 <;> rw [q9] <;> simp) ?_ (by decide) (by decide)
        obtain rfl : k = 64 := by omega
        exact ⟨e2, f2, m2, w2, rfl, hu3_of u2e u2f u2m hfr, hI2⟩
      · skip
        refine x_iconst C dL_spreads_13 0 (by decide) ?_
        refine x_istore C (ls' := [(0, vI ((al : Nat) : Int)), (1, vI o), (2, .ref qA), (3, .ref gA), (4, .ref cA), (5, .ref dA), (6, .ref eA), (7, .ref fA), (8, .ref mA), (9, vI w2), (10, vI ((k : Nat) : Int)), (11, vI 0)]) dL_spreads_14 (by decide) rfl ?_
        have NL : ∀ (N3 : Nat) (now : Nat) (e3 f3 m3 : Nat → Int64) (w3 : Int) (h3 : vh)  (u3g : h3 gA = some (eJ D 60 g)) (u3q : h3 qA = some (eI D 5 q)) (u3c : h3 cA = some (eJ D 64 c)) (u3d : h3 dA = some (eJ D 64 d)) (u3e : h3 eA = some (eJ D 64 e3)) (u3f : h3 fA = some (eJ D 64 f3)) (u3m : h3 mA = some (eJ D 2 m3)) (hnow : now ≤ 96) (hN3 : 96 - now < N3) (hI3 : SPI (TTr (gk g o.toNat) (kbr (gk g o.toNat) (fun _ => 0)) al S) c d e f m k now 0 e3 f3 m3 w3) (hw3 : w3 = 0 ∨ w3 = 1) (hfr : ∀ b9, b9 ≠ eA → b9 ≠ fA → b9 ≠ mA → h3 b9 = h b9), X κ 0 0 h3 [(0, vI ((al : Nat) : Int)), (1, vI o), (2, .ref qA), (3, .ref gA), (4, .ref cA), (5, .ref dA), (6, .ref eA), (7, .ref fA), (8, .ref mA), (9, vI w3), (10, vI ((k : Nat) : Int)), (11, vI ((now : Nat) : Int))] 16 [] := by
          intro N3
          induction N3 with
          | zero => intro now e3 f3 m3 w3 h3 u3g u3q u3c u3d u3e u3f u3m hnow hN3 hI3 hw3 hfr; exfalso; omega
          | succ N3 ihNL =>
            intro now e3 f3 m3 w3 h3 u3g u3q u3c u3d u3e u3f u3m hnow hN3 hI3 hw3 hfr
            refine x_iload C dL_spreads_16 11 rfl ?_
            refine x_bipush C dL_spreads_18 96 (by decide) ?_
            refine x_icmp_ge (tgt := 197) C dL_spreads_20 (by decide) (by omega) (by omega) (fun c4 => ?_) (fun c4 => ?_)
            · skip
              refine x_iinc C (x := ((k : Nat) : Int)) (ls' := [(0, vI ((al : Nat) : Int)), (1, vI o), (2, .ref qA), (3, .ref gA), (4, .ref cA), (5, .ref dA), (6, .ref eA), (7, .ref fA), (8, .ref mA), (9, vI w3), (10, vI ((((k : Nat) : Int)) + 1)), (11, vI ((now : Nat) : Int))]) dL_spreads_197 10 rfl (by decide) rfl ?_
              refine x_goto (tgt := 6) C dL_spreads_200 (by decide) ?_
              refine x_sub [0, 1, 2, 3, 4, 5, 6, 7, 8, 9, 10] (ls' := [(0, vI ((al : Nat) : Int)), (1, vI o), (2, .ref qA), (3, .ref gA), (4, .ref cA), (5, .ref dA), (6, .ref eA), (7, .ref fA), (8, .ref mA), (9, vI w3), (10, vI ((((k : Nat) : Int)) + 1))]) rfl ?_
              exact ihKL (k + 1) e3 f3 m3 w3 h3 u3g u3q u3c u3d u3e u3f u3m (by omega) (by omega) (by have q9 : now = 96 := (by omega); subst q9; exact hI3.col) (hw3) (hfr)
            · skip
              have IL : ∀ (N4 : Nat) (i : Nat) (x : Int64) (e4 f4 m4 : Nat → Int64) (w4 : Int) (h5 : vh)  (u4g : h5 gA = some (eJ D 60 g)) (u4q : h5 qA = some (eI D 5 q)) (u4c : h5 cA = some (eJ D 64 c)) (u4d : h5 dA = some (eJ D 64 d)) (u4e : h5 eA = some (eJ D 64 e4)) (u4f : h5 fA = some (eJ D 64 f4)) (u4m : h5 mA = some (eJ D 2 m4)) (hi : i ≤ 6) (hN4 : 6 - i < N4) (hx : (x = 1 ∧ Mk c d (64 * now + k)) ∨ (x = 0 ∧ ¬ Mk c d (64 * now + k) ∧ i = 0)) (hI4 : SPI (TTr (gk g o.toNat) (kbr (gk g o.toNat) (fun _ => 0)) al S) c d e f m k now i e4 f4 m4 w4) (hw4 : w4 = 0 ∨ w4 = 1) (hfr : ∀ b9, b9 ≠ eA → b9 ≠ fA → b9 ≠ mA → h5 b9 = h b9), X κ 0 0 h5 [(0, vI ((al : Nat) : Int)), (1, vI o), (2, .ref qA), (3, .ref gA), (4, .ref cA), (5, .ref dA), (6, .ref eA), (7, .ref fA), (8, .ref mA), (9, vI w4), (10, vI ((k : Nat) : Int)), (11, vI ((now : Nat) : Int)), (12, .long x), (14, vI ((i : Nat) : Int))] 61 [] := by
                intro N4
                induction N4 with
                | zero => intro i x e4 f4 m4 w4 h5 u4g u4q u4c u4d u4e u4f u4m hi hN4 hx hI4 hw4 hfr; exfalso; omega
                | succ N4 ihIL =>
                  intro i x e4 f4 m4 w4 h5 u4g u4q u4c u4d u4e u4f u4m hi hN4 hx hI4 hw4 hfr
                  refine x_iload C dL_spreads_61 13 rfl ?_
                  refine x_bipush C dL_spreads_63 6 (by decide) ?_
                  refine x_icmp_ge (tgt := 191) C dL_spreads_65 (by decide) (by omega) (by omega) (fun c6 => ?_) (fun c6 => ?_)
                  · skip
                    refine x_iinc C (x := ((now : Nat) : Int)) (ls' := [(0, vI ((al : Nat) : Int)), (1, vI o), (2, .ref qA), (3, .ref gA), (4, .ref cA), (5, .ref dA), (6, .ref eA), (7, .ref fA), (8, .ref mA), (9, vI w4), (10, vI ((k : Nat) : Int)), (11, vI ((((now : Nat) : Int)) + 1)), (12, .long x), (14, vI ((i : Nat) : Int))]) dL_spreads_191 11 rfl (by decide) rfl ?_
                    refine x_goto (tgt := 16) C dL_spreads_194 (by decide) ?_
                    refine x_sub [0, 1, 2, 3, 4, 5, 6, 7, 8, 9, 10, 11] (ls' := [(0, vI ((al : Nat) : Int)), (1, vI o), (2, .ref qA), (3, .ref gA), (4, .ref cA), (5, .ref dA), (6, .ref eA), (7, .ref fA), (8, .ref mA), (9, vI w4), (10, vI ((k : Nat) : Int)), (11, vI ((((now : Nat) : Int)) + 1))]) rfl ?_
                    exact ihNL (now + 1) e4 f4 m4 w4 h5 u4g u4q u4c u4d u4e u4f u4m (by omega) (by omega) (by first | (have q9 : i = 6 := (by omega); subst q9; exact hI4.row) | (have q9 := hxb.2; subst q9; exact hI4.skip (by omega) hxb.1)) (hw4) (hfr)
                  · skip
                    refine x_lload C dL_spreads_68 12 rfl ?_
                    refine x_lconst C (v := 1) dL_spreads_70 rfl ?_
                    refine x_lcmp_ne (tgt := 191) C dL_spreads_71 dL_spreads_72 (by decide) (fun c7 => ?_) (fun c7 => ?_)
                    · skip
                      have hxb : ¬ Mk c d (64 * now + k) ∧ i = 0 := hx.elim (fun q9 => absurd q9.1 c7) (fun q9 => q9.2)
                      refine x_iinc C (x := ((now : Nat) : Int)) (ls' := [(0, vI ((al : Nat) : Int)), (1, vI o), (2, .ref qA), (3, .ref gA), (4, .ref cA), (5, .ref dA), (6, .ref eA), (7, .ref fA), (8, .ref mA), (9, vI w4), (10, vI ((k : Nat) : Int)), (11, vI ((((now : Nat) : Int)) + 1)), (12, .long x), (14, vI ((i : Nat) : Int))]) dL_spreads_191 11 rfl (by decide) rfl ?_
                      refine x_goto (tgt := 16) C dL_spreads_194 (by decide) ?_
                      refine x_sub [0, 1, 2, 3, 4, 5, 6, 7, 8, 9, 10, 11] (ls' := [(0, vI ((al : Nat) : Int)), (1, vI o), (2, .ref qA), (3, .ref gA), (4, .ref cA), (5, .ref dA), (6, .ref eA), (7, .ref fA), (8, .ref mA), (9, vI w4), (10, vI ((k : Nat) : Int)), (11, vI ((((now : Nat) : Int)) + 1))]) rfl ?_
                      exact ihNL (now + 1) e4 f4 m4 w4 h5 u4g u4q u4c u4d u4e u4f u4m (by omega) (by omega) (by first | (have q9 : i = 6 := (by omega); subst q9; exact hI4.row) | (have q9 := hxb.2; subst q9; exact hI4.skip (by omega) hxb.1)) (hw4) (hfr)
                    · skip
                      have hmk : Mk c d (64 * now + k) := hx.elim (fun q9 => q9.2) (fun q9 => by have q8 := q9.1; rw [c7] at q8; exact absurd q8 (by decide))
                      have hx1e : x = 1 := c7
                      refine x_iload C dL_spreads_75 11 rfl ?_
                      refine x_sipush C dL_spreads_77 128 (by decide) ?_
                      refine x_iload C dL_spreads_80 10 rfl ?_
                      refine x_bipush C dL_spreads_82 8 (by decide) ?_
                      refine x_idiv C dL_spreads_84 (by omega) (by omega) (by omega) (by omega) ?_
                      refine x_imul C dL_spreads_85 ?_
                      refine x_iadd C dL_spreads_86 ?_
                      refine x_sipush C dL_spreads_87 1024 (by decide) ?_
                      refine x_iload C dL_spreads_90 10 rfl ?_
                      refine x_bipush C dL_spreads_92 8 (by decide) ?_
                      refine x_irem C dL_spreads_94 (by omega) (by omega) (by omega) (by omega) ?_
                      refine x_imul C dL_spreads_95 ?_
                      refine x_iadd C dL_spreads_96 ?_
                      refine x_iload C dL_spreads_97 13 rfl ?_
                      refine x_iload_n C dL_spreads_99 0 rfl ?_
                      refine x_iload_n C dL_spreads_100 1 rfl ?_
                      refine x_aload_n C dL_spreads_101 2 rfl ?_
                      refine x_aload_n C dL_spreads_102 3 rfl ?_
                      refine x_callSJ C (n := 6) (As := [vI (((((now : Nat) : Int)) + (128 * ((((k : Nat) : Int)) / 8))) + (1024 * ((((k : Nat) : Int)) % 8))), vI ((i : Nat) : Int), vI ((al : Nat) : Int), vI o, .ref qA, .ref gA]) (rest := []) (c_L_step (c := ((now : Nat) : Int)) (v := (((k / 8 : Nat) : Int) - 4)) (t := (k % 8)) (S := S) u4g u4q (by omega) (by omega) (by omega) (by omega) (by omega) (by omega) (by omega) (by have q9 := hgd _ (by omega) hmk; unfold GB at q9; rw [show (64 * now + k) % 8 = k % 8 by omega, show (64 * now + k) / 64 = now by omega] at q9; exact q9) (by omega) (by omega) (by omega) (by omega)) gL_spreads_L_step (by decide +kernel) rfl rfl rfl (Nat.le_of_ble_eq_true rfl) ⟨by decide, by decide⟩ ⟨(by decide), (by decide)⟩ dL_spreads_103 (fun rv8 h9 hp10 => ?_)
                      obtain ⟨rfl, e11⟩ := hp10
                      obtain rfl := e11.symm
                      refine x_topi (fun x12 ex13 => ?_)
                      have hx1 : x12 = encB ((TTr (gk g o.toNat) (kbr (gk g o.toNat) (fun _ => 0)) al S) (64 * now + k) i) := by rw [ex13, TT_e (by omega)]
                      obtain ⟨⟨t1, t2, t3, t4, t5, t6, t7⟩, hb3⟩ := TTr_ok (f := (gk g o.toNat)) (B := (kbr (gk g o.toNat) (fun _ => 0))) (al := al) (S := S) (kbr_8 hA) rS (64 * now + k) (by omega) i (by omega)
                      obtain ⟨bb9, hbb⟩ : ∃ bb9 : B4, bb9 = (TTr (gk g o.toNat) (kbr (gk g o.toNat) (fun _ => 0)) al S) (64 * now + k) i := ⟨_, rfl⟩
                      rw [← hbb] at hx1 t1 t2 t3 t4 t5 t6 t7 hb3
                      have hx2 : x12 = bb9.1 + 128 * (bb9.2.1 + 4) + 1024 * ((bb9.2.2.1 : Nat) : Int) + stK bb9.2.2.2 := hx1
                      have hk3 : (bb9.2.2.2 = 1 ∧ stK bb9.2.2.2 = 0) ∨ (bb9.2.2.2 = 2 ∧ stK bb9.2.2.2 = 16384) ∨ (bb9.2.2.2 = 3 ∧ stK bb9.2.2.2 = 32768) := by
                        rcases hb3 with q9 | q9 | q9 <;> rw [q9] <;> simp [stK]
                      have hcd : cd bb9 = 64 * bb9.1.toNat + 8 * (bb9.2.1 + 4).toNat + bb9.2.2.1 := rfl
                      have hcl : cd bb9 < 6144 := by omega
                      refine x_istore C (ls' := [(0, vI ((al : Nat) : Int)), (1, vI o), (2, .ref qA), (3, .ref gA), (4, .ref cA), (5, .ref dA), (6, .ref eA), (7, .ref fA), (8, .ref mA), (9, vI w4), (10, vI ((k : Nat) : Int)), (11, vI ((now : Nat) : Int)), (12, .long x), (14, vI ((i : Nat) : Int)), (15, vI x12)]) dL_spreads_106 (by decide) rfl ?_
                      refine x_iload C dL_spreads_108 14 rfl ?_
                      refine x_ldcI C (z := 32768) (by decide) kL_spreads_0 dL_spreads_110 ?_
                      refine x_icmp_ge (tgt := 141) C dL_spreads_112 (by decide) (by omega) (by omega) (fun c14 => ?_) (fun c14 => ?_)
                      · skip
                        refine x_iload C dL_spreads_141 14 rfl ?_
                        refine x_sipush C dL_spreads_143 16384 (by decide) ?_
                        refine x_icmp_ge (tgt := 158) C dL_spreads_146 (by decide) (by omega) (by omega) (fun c15 => ?_) (fun c15 => ?_)
                        · skip
                          refine x_iload C dL_spreads_158 9 rfl ?_
                          refine x_if_ne (tgt := 178) C dL_spreads_160 (by decide) (by omega) (fun c16 => ?_) (fun c16 => ?_)
                          · skip
                            refine x_iconst C dL_spreads_178 1 (by decide) ?_
                            refine x_goto (tgt := 183) C dL_spreads_179 (by decide) ?_
                            refine x_istore C (ls' := [(0, vI ((al : Nat) : Int)), (1, vI o), (2, .ref qA), (3, .ref gA), (4, .ref cA), (5, .ref dA), (6, .ref eA), (7, .ref fA), (8, .ref mA), (9, vI 1), (10, vI ((k : Nat) : Int)), (11, vI ((now : Nat) : Int)), (12, .long x), (14, vI ((i : Nat) : Int)), (15, vI x12)]) dL_spreads_183 (by decide) rfl ?_
                            refine x_iinc C (x := ((i : Nat) : Int)) (ls' := [(0, vI ((al : Nat) : Int)), (1, vI o), (2, .ref qA), (3, .ref gA), (4, .ref cA), (5, .ref dA), (6, .ref eA), (7, .ref fA), (8, .ref mA), (9, vI 1), (10, vI ((k : Nat) : Int)), (11, vI ((now : Nat) : Int)), (12, .long x), (14, vI ((((i : Nat) : Int)) + 1)), (15, vI x12)]) dL_spreads_185 13 rfl (by decide) rfl ?_
                            refine x_goto (tgt := 61) C dL_spreads_188 (by decide) ?_
                            refine x_sub [0, 1, 2, 3, 4, 5, 6, 7, 8, 9, 10, 11, 12, 13] (ls' := [(0, vI ((al : Nat) : Int)), (1, vI o), (2, .ref qA), (3, .ref gA), (4, .ref cA), (5, .ref dA), (6, .ref eA), (7, .ref fA), (8, .ref mA), (9, vI 1), (10, vI ((k : Nat) : Int)), (11, vI ((now : Nat) : Int)), (12, .long x), (14, vI ((((i : Nat) : Int)) + 1))]) rfl ?_
                            exact ihIL (i + 1) x e4 f4 m4 1 h5 u4g u4q u4c u4d u4e u4f u4m (by omega) (by omega) (Or.inl ⟨hx1e, hmk⟩) (hI4.step (by omega) (by omega) (by omega) hmk hbb (by first | exact mk_yes hcl (by omega) | exact mk_no (by omega)) (by first | exact ms_yes t1 (by omega) | exact ms_no (by omega)) (by omega) (by first | exact Cl_mk hcl | exact id)) (by omega) (fun b9 y1 y2 y3 => by first | exact hfr b9 y1 y2 y3 | (rw []; simp only [hu_n y1, hu_n y2, hu_n y3]; exact hfr b9 y1 y2 y3))
                          · skip
                            refine x_iload C dL_spreads_163 14 rfl ?_
                            refine x_sipush C dL_spreads_165 16384 (by decide) ?_
                            refine x_icmp_lt (tgt := 182) C dL_spreads_168 (by decide) (by omega) (by omega) (fun c17 => ?_) (fun c17 => ?_)
                            · skip
                              refine x_iconst C dL_spreads_182 0 (by decide) ?_
                              refine x_istore C (ls' := [(0, vI ((al : Nat) : Int)), (1, vI o), (2, .ref qA), (3, .ref gA), (4, .ref cA), (5, .ref dA), (6, .ref eA), (7, .ref fA), (8, .ref mA), (9, vI 0), (10, vI ((k : Nat) : Int)), (11, vI ((now : Nat) : Int)), (12, .long x), (14, vI ((i : Nat) : Int)), (15, vI x12)]) dL_spreads_183 (by decide) rfl ?_
                              refine x_iinc C (x := ((i : Nat) : Int)) (ls' := [(0, vI ((al : Nat) : Int)), (1, vI o), (2, .ref qA), (3, .ref gA), (4, .ref cA), (5, .ref dA), (6, .ref eA), (7, .ref fA), (8, .ref mA), (9, vI 0), (10, vI ((k : Nat) : Int)), (11, vI ((now : Nat) : Int)), (12, .long x), (14, vI ((((i : Nat) : Int)) + 1)), (15, vI x12)]) dL_spreads_185 13 rfl (by decide) rfl ?_
                              refine x_goto (tgt := 61) C dL_spreads_188 (by decide) ?_
                              refine x_sub [0, 1, 2, 3, 4, 5, 6, 7, 8, 9, 10, 11, 12, 13] (ls' := [(0, vI ((al : Nat) : Int)), (1, vI o), (2, .ref qA), (3, .ref gA), (4, .ref cA), (5, .ref dA), (6, .ref eA), (7, .ref fA), (8, .ref mA), (9, vI 0), (10, vI ((k : Nat) : Int)), (11, vI ((now : Nat) : Int)), (12, .long x), (14, vI ((((i : Nat) : Int)) + 1))]) rfl ?_
                              exact ihIL (i + 1) x e4 f4 m4 0 h5 u4g u4q u4c u4d u4e u4f u4m (by omega) (by omega) (Or.inl ⟨hx1e, hmk⟩) (hI4.step (by omega) (by omega) (by omega) hmk hbb (by first | exact mk_yes hcl (by omega) | exact mk_no (by omega)) (by first | exact ms_yes t1 (by omega) | exact ms_no (by omega)) (by omega) (by first | exact Cl_mk hcl | exact id)) (by omega) (fun b9 y1 y2 y3 => by first | exact hfr b9 y1 y2 y3 | (rw []; simp only [hu_n y1, hu_n y2, hu_n y3]; exact hfr b9 y1 y2 y3))
                            · skip
                              refine x_iload C dL_spreads_171 14 rfl ?_
                              refine x_ldcI C (z := 32768) (by decide) kL_spreads_0 dL_spreads_173 ?_
                              refine x_icmp_ge (tgt := 182) C dL_spreads_175 (by decide) (by omega) (by omega) (fun c18 => ?_) (fun c18 => ?_)
                              · skip
                                refine x_iconst C dL_spreads_182 0 (by decide) ?_
                                refine x_istore C (ls' := [(0, vI ((al : Nat) : Int)), (1, vI o), (2, .ref qA), (3, .ref gA), (4, .ref cA), (5, .ref dA), (6, .ref eA), (7, .ref fA), (8, .ref mA), (9, vI 0), (10, vI ((k : Nat) : Int)), (11, vI ((now : Nat) : Int)), (12, .long x), (14, vI ((i : Nat) : Int)), (15, vI x12)]) dL_spreads_183 (by decide) rfl ?_
                                refine x_iinc C (x := ((i : Nat) : Int)) (ls' := [(0, vI ((al : Nat) : Int)), (1, vI o), (2, .ref qA), (3, .ref gA), (4, .ref cA), (5, .ref dA), (6, .ref eA), (7, .ref fA), (8, .ref mA), (9, vI 0), (10, vI ((k : Nat) : Int)), (11, vI ((now : Nat) : Int)), (12, .long x), (14, vI ((((i : Nat) : Int)) + 1)), (15, vI x12)]) dL_spreads_185 13 rfl (by decide) rfl ?_
                                refine x_goto (tgt := 61) C dL_spreads_188 (by decide) ?_
                                refine x_sub [0, 1, 2, 3, 4, 5, 6, 7, 8, 9, 10, 11, 12, 13] (ls' := [(0, vI ((al : Nat) : Int)), (1, vI o), (2, .ref qA), (3, .ref gA), (4, .ref cA), (5, .ref dA), (6, .ref eA), (7, .ref fA), (8, .ref mA), (9, vI 0), (10, vI ((k : Nat) : Int)), (11, vI ((now : Nat) : Int)), (12, .long x), (14, vI ((((i : Nat) : Int)) + 1))]) rfl ?_
                                exact ihIL (i + 1) x e4 f4 m4 0 h5 u4g u4q u4c u4d u4e u4f u4m (by omega) (by omega) (Or.inl ⟨hx1e, hmk⟩) (hI4.step (by omega) (by omega) (by omega) hmk hbb (by first | exact mk_yes hcl (by omega) | exact mk_no (by omega)) (by first | exact ms_yes t1 (by omega) | exact ms_no (by omega)) (by omega) (by first | exact Cl_mk hcl | exact id)) (by omega) (fun b9 y1 y2 y3 => by first | exact hfr b9 y1 y2 y3 | (rw []; simp only [hu_n y1, hu_n y2, hu_n y3]; exact hfr b9 y1 y2 y3))
                              · skip
                                refine x_iconst C dL_spreads_178 1 (by decide) ?_
                                refine x_goto (tgt := 183) C dL_spreads_179 (by decide) ?_
                                refine x_istore C (ls' := [(0, vI ((al : Nat) : Int)), (1, vI o), (2, .ref qA), (3, .ref gA), (4, .ref cA), (5, .ref dA), (6, .ref eA), (7, .ref fA), (8, .ref mA), (9, vI 1), (10, vI ((k : Nat) : Int)), (11, vI ((now : Nat) : Int)), (12, .long x), (14, vI ((i : Nat) : Int)), (15, vI x12)]) dL_spreads_183 (by decide) rfl ?_
                                refine x_iinc C (x := ((i : Nat) : Int)) (ls' := [(0, vI ((al : Nat) : Int)), (1, vI o), (2, .ref qA), (3, .ref gA), (4, .ref cA), (5, .ref dA), (6, .ref eA), (7, .ref fA), (8, .ref mA), (9, vI 1), (10, vI ((k : Nat) : Int)), (11, vI ((now : Nat) : Int)), (12, .long x), (14, vI ((((i : Nat) : Int)) + 1)), (15, vI x12)]) dL_spreads_185 13 rfl (by decide) rfl ?_
                                refine x_goto (tgt := 61) C dL_spreads_188 (by decide) ?_
                                refine x_sub [0, 1, 2, 3, 4, 5, 6, 7, 8, 9, 10, 11, 12, 13] (ls' := [(0, vI ((al : Nat) : Int)), (1, vI o), (2, .ref qA), (3, .ref gA), (4, .ref cA), (5, .ref dA), (6, .ref eA), (7, .ref fA), (8, .ref mA), (9, vI 1), (10, vI ((k : Nat) : Int)), (11, vI ((now : Nat) : Int)), (12, .long x), (14, vI ((((i : Nat) : Int)) + 1))]) rfl ?_
                                exact ihIL (i + 1) x e4 f4 m4 1 h5 u4g u4q u4c u4d u4e u4f u4m (by omega) (by omega) (Or.inl ⟨hx1e, hmk⟩) (hI4.step (by omega) (by omega) (by omega) hmk hbb (by first | exact mk_yes hcl (by omega) | exact mk_no (by omega)) (by first | exact ms_yes t1 (by omega) | exact ms_no (by omega)) (by omega) (by first | exact Cl_mk hcl | exact id)) (by omega) (fun b9 y1 y2 y3 => by first | exact hfr b9 y1 y2 y3 | (rw []; simp only [hu_n y1, hu_n y2, hu_n y3]; exact hfr b9 y1 y2 y3))
                        · skip
                          refine x_iload C dL_spreads_149 14 rfl ?_
                          refine x_aload C dL_spreads_151 6 rfl ?_
                          refine x_aload C dL_spreads_153 7 rfl ?_
                          refine x_callSJ C (n := 3) (As := [vI x12, .ref eA, .ref fA]) (rest := []) (c_L_marks (n := (cd bb9)) u4e u4f (by omega) (by omega) (by assumption)) gL_spreads_L_marks (by decide +kernel) rfl rfl rfl (Nat.le_of_ble_eq_true rfl) ⟨by decide, by decide⟩ ⟨(by decide), (by decide)⟩ dL_spreads_155 (fun rv19 h20 hp21 => ?_)
                          obtain ⟨rfl, e22⟩ := hp21
                          have f23 : h20 fA = some (eJ D 64 (mkH f4 ((cd bb9)))) := by rw [e22]; exact hu_s
                          have f24 : h20 eA = some (eJ D 64 (mkL e4 ((cd bb9)))) := by rw [e22, hu_n nef]; exact hu_s
                          refine x_iload C dL_spreads_158 9 rfl ?_
                          refine x_if_ne (tgt := 178) C dL_spreads_160 (by decide) (by omega) (fun c25 => ?_) (fun c25 => ?_)
                          · skip
                            refine x_iconst C dL_spreads_178 1 (by decide) ?_
                            refine x_goto (tgt := 183) C dL_spreads_179 (by decide) ?_
                            refine x_istore C (ls' := [(0, vI ((al : Nat) : Int)), (1, vI o), (2, .ref qA), (3, .ref gA), (4, .ref cA), (5, .ref dA), (6, .ref eA), (7, .ref fA), (8, .ref mA), (9, vI 1), (10, vI ((k : Nat) : Int)), (11, vI ((now : Nat) : Int)), (12, .long x), (14, vI ((i : Nat) : Int)), (15, vI x12)]) dL_spreads_183 (by decide) rfl ?_
                            refine x_iinc C (x := ((i : Nat) : Int)) (ls' := [(0, vI ((al : Nat) : Int)), (1, vI o), (2, .ref qA), (3, .ref gA), (4, .ref cA), (5, .ref dA), (6, .ref eA), (7, .ref fA), (8, .ref mA), (9, vI 1), (10, vI ((k : Nat) : Int)), (11, vI ((now : Nat) : Int)), (12, .long x), (14, vI ((((i : Nat) : Int)) + 1)), (15, vI x12)]) dL_spreads_185 13 rfl (by decide) rfl ?_
                            refine x_goto (tgt := 61) C dL_spreads_188 (by decide) ?_
                            refine x_sub [0, 1, 2, 3, 4, 5, 6, 7, 8, 9, 10, 11, 12, 13] (ls' := [(0, vI ((al : Nat) : Int)), (1, vI o), (2, .ref qA), (3, .ref gA), (4, .ref cA), (5, .ref dA), (6, .ref eA), (7, .ref fA), (8, .ref mA), (9, vI 1), (10, vI ((k : Nat) : Int)), (11, vI ((now : Nat) : Int)), (12, .long x), (14, vI ((((i : Nat) : Int)) + 1))]) rfl ?_
                            have n27 : nq gA fA := vnt u4g u4f (p := (1, 60)) (q := (1, 64)) rfl rfl (by decide)
                            have n28 : nq gA eA := vnt u4g u4e (p := (1, 60)) (q := (1, 64)) rfl rfl (by decide)
                            have f26 : h20 gA = some (eJ D 60 g) := by rw [e22, hu_n n27, hu_n n28]; exact u4g
                            have n30 : nq qA fA := vnt u4q u4f (p := (0, 5)) (q := (1, 64)) rfl rfl (by decide)
                            have n31 : nq qA eA := vnt u4q u4e (p := (0, 5)) (q := (1, 64)) rfl rfl (by decide)
                            have f29 : h20 qA = some (eI D 5 q) := by rw [e22, hu_n n30, hu_n n31]; exact u4q
                            have f32 : h20 cA = some (eJ D 64 c) := by rw [e22, hu_n ncf, hu_n nce]; exact u4c
                            have f33 : h20 dA = some (eJ D 64 d) := by rw [e22, hu_n ndf, hu_n nde]; exact u4d
                            have n35 : nq mA fA := vnt u4m u4f (p := (1, 2)) (q := (1, 64)) rfl rfl (by decide)
                            have n36 : nq mA eA := vnt u4m u4e (p := (1, 2)) (q := (1, 64)) rfl rfl (by decide)
                            have f34 : h20 mA = some (eJ D 2 m4) := by rw [e22, hu_n n35, hu_n n36]; exact u4m
                            exact ihIL (i + 1) x (mkL e4 ((cd bb9))) (mkH f4 ((cd bb9))) m4 1 h20 f26 f29 f32 f33 f24 f23 f34 (by omega) (by omega) (Or.inl ⟨hx1e, hmk⟩) (hI4.step (by omega) (by omega) (by omega) hmk hbb (by first | exact mk_yes hcl (by omega) | exact mk_no (by omega)) (by first | exact ms_yes t1 (by omega) | exact ms_no (by omega)) (by omega) (by first | exact Cl_mk hcl | exact id)) (by omega) (fun b9 y1 y2 y3 => by first | exact hfr b9 y1 y2 y3 | (rw [e22]; simp only [hu_n y1, hu_n y2, hu_n y3]; exact hfr b9 y1 y2 y3))
                          · skip
                            refine x_iload C dL_spreads_163 14 rfl ?_
                            refine x_sipush C dL_spreads_165 16384 (by decide) ?_
                            refine x_icmp_lt (tgt := 182) C dL_spreads_168 (by decide) (by omega) (by omega) (fun c37 => ?_) (fun c37 => ?_)
                            · skip
                              refine x_iconst C dL_spreads_182 0 (by decide) ?_
                              refine x_istore C (ls' := [(0, vI ((al : Nat) : Int)), (1, vI o), (2, .ref qA), (3, .ref gA), (4, .ref cA), (5, .ref dA), (6, .ref eA), (7, .ref fA), (8, .ref mA), (9, vI 0), (10, vI ((k : Nat) : Int)), (11, vI ((now : Nat) : Int)), (12, .long x), (14, vI ((i : Nat) : Int)), (15, vI x12)]) dL_spreads_183 (by decide) rfl ?_
                              refine x_iinc C (x := ((i : Nat) : Int)) (ls' := [(0, vI ((al : Nat) : Int)), (1, vI o), (2, .ref qA), (3, .ref gA), (4, .ref cA), (5, .ref dA), (6, .ref eA), (7, .ref fA), (8, .ref mA), (9, vI 0), (10, vI ((k : Nat) : Int)), (11, vI ((now : Nat) : Int)), (12, .long x), (14, vI ((((i : Nat) : Int)) + 1)), (15, vI x12)]) dL_spreads_185 13 rfl (by decide) rfl ?_
                              refine x_goto (tgt := 61) C dL_spreads_188 (by decide) ?_
                              refine x_sub [0, 1, 2, 3, 4, 5, 6, 7, 8, 9, 10, 11, 12, 13] (ls' := [(0, vI ((al : Nat) : Int)), (1, vI o), (2, .ref qA), (3, .ref gA), (4, .ref cA), (5, .ref dA), (6, .ref eA), (7, .ref fA), (8, .ref mA), (9, vI 0), (10, vI ((k : Nat) : Int)), (11, vI ((now : Nat) : Int)), (12, .long x), (14, vI ((((i : Nat) : Int)) + 1))]) rfl ?_
                              have n39 : nq gA fA := vnt u4g u4f (p := (1, 60)) (q := (1, 64)) rfl rfl (by decide)
                              have n40 : nq gA eA := vnt u4g u4e (p := (1, 60)) (q := (1, 64)) rfl rfl (by decide)
                              have f38 : h20 gA = some (eJ D 60 g) := by rw [e22, hu_n n39, hu_n n40]; exact u4g
                              have n42 : nq qA fA := vnt u4q u4f (p := (0, 5)) (q := (1, 64)) rfl rfl (by decide)
                              have n43 : nq qA eA := vnt u4q u4e (p := (0, 5)) (q := (1, 64)) rfl rfl (by decide)
                              have f41 : h20 qA = some (eI D 5 q) := by rw [e22, hu_n n42, hu_n n43]; exact u4q
                              have f44 : h20 cA = some (eJ D 64 c) := by rw [e22, hu_n ncf, hu_n nce]; exact u4c
                              have f45 : h20 dA = some (eJ D 64 d) := by rw [e22, hu_n ndf, hu_n nde]; exact u4d
                              have n47 : nq mA fA := vnt u4m u4f (p := (1, 2)) (q := (1, 64)) rfl rfl (by decide)
                              have n48 : nq mA eA := vnt u4m u4e (p := (1, 2)) (q := (1, 64)) rfl rfl (by decide)
                              have f46 : h20 mA = some (eJ D 2 m4) := by rw [e22, hu_n n47, hu_n n48]; exact u4m
                              exact ihIL (i + 1) x (mkL e4 ((cd bb9))) (mkH f4 ((cd bb9))) m4 0 h20 f38 f41 f44 f45 f24 f23 f46 (by omega) (by omega) (Or.inl ⟨hx1e, hmk⟩) (hI4.step (by omega) (by omega) (by omega) hmk hbb (by first | exact mk_yes hcl (by omega) | exact mk_no (by omega)) (by first | exact ms_yes t1 (by omega) | exact ms_no (by omega)) (by omega) (by first | exact Cl_mk hcl | exact id)) (by omega) (fun b9 y1 y2 y3 => by first | exact hfr b9 y1 y2 y3 | (rw [e22]; simp only [hu_n y1, hu_n y2, hu_n y3]; exact hfr b9 y1 y2 y3))
                            · skip
                              refine x_iload C dL_spreads_171 14 rfl ?_
                              refine x_ldcI C (z := 32768) (by decide) kL_spreads_0 dL_spreads_173 ?_
                              refine x_icmp_ge (tgt := 182) C dL_spreads_175 (by decide) (by omega) (by omega) (fun c49 => ?_) (fun c49 => ?_)
                              · skip
                                refine x_iconst C dL_spreads_182 0 (by decide) ?_
                                refine x_istore C (ls' := [(0, vI ((al : Nat) : Int)), (1, vI o), (2, .ref qA), (3, .ref gA), (4, .ref cA), (5, .ref dA), (6, .ref eA), (7, .ref fA), (8, .ref mA), (9, vI 0), (10, vI ((k : Nat) : Int)), (11, vI ((now : Nat) : Int)), (12, .long x), (14, vI ((i : Nat) : Int)), (15, vI x12)]) dL_spreads_183 (by decide) rfl ?_
                                refine x_iinc C (x := ((i : Nat) : Int)) (ls' := [(0, vI ((al : Nat) : Int)), (1, vI o), (2, .ref qA), (3, .ref gA), (4, .ref cA), (5, .ref dA), (6, .ref eA), (7, .ref fA), (8, .ref mA), (9, vI 0), (10, vI ((k : Nat) : Int)), (11, vI ((now : Nat) : Int)), (12, .long x), (14, vI ((((i : Nat) : Int)) + 1)), (15, vI x12)]) dL_spreads_185 13 rfl (by decide) rfl ?_
                                refine x_goto (tgt := 61) C dL_spreads_188 (by decide) ?_
                                refine x_sub [0, 1, 2, 3, 4, 5, 6, 7, 8, 9, 10, 11, 12, 13] (ls' := [(0, vI ((al : Nat) : Int)), (1, vI o), (2, .ref qA), (3, .ref gA), (4, .ref cA), (5, .ref dA), (6, .ref eA), (7, .ref fA), (8, .ref mA), (9, vI 0), (10, vI ((k : Nat) : Int)), (11, vI ((now : Nat) : Int)), (12, .long x), (14, vI ((((i : Nat) : Int)) + 1))]) rfl ?_
                                have n51 : nq gA fA := vnt u4g u4f (p := (1, 60)) (q := (1, 64)) rfl rfl (by decide)
                                have n52 : nq gA eA := vnt u4g u4e (p := (1, 60)) (q := (1, 64)) rfl rfl (by decide)
                                have f50 : h20 gA = some (eJ D 60 g) := by rw [e22, hu_n n51, hu_n n52]; exact u4g
                                have n54 : nq qA fA := vnt u4q u4f (p := (0, 5)) (q := (1, 64)) rfl rfl (by decide)
                                have n55 : nq qA eA := vnt u4q u4e (p := (0, 5)) (q := (1, 64)) rfl rfl (by decide)
                                have f53 : h20 qA = some (eI D 5 q) := by rw [e22, hu_n n54, hu_n n55]; exact u4q
                                have f56 : h20 cA = some (eJ D 64 c) := by rw [e22, hu_n ncf, hu_n nce]; exact u4c
                                have f57 : h20 dA = some (eJ D 64 d) := by rw [e22, hu_n ndf, hu_n nde]; exact u4d
                                have n59 : nq mA fA := vnt u4m u4f (p := (1, 2)) (q := (1, 64)) rfl rfl (by decide)
                                have n60 : nq mA eA := vnt u4m u4e (p := (1, 2)) (q := (1, 64)) rfl rfl (by decide)
                                have f58 : h20 mA = some (eJ D 2 m4) := by rw [e22, hu_n n59, hu_n n60]; exact u4m
                                exact ihIL (i + 1) x (mkL e4 ((cd bb9))) (mkH f4 ((cd bb9))) m4 0 h20 f50 f53 f56 f57 f24 f23 f58 (by omega) (by omega) (Or.inl ⟨hx1e, hmk⟩) (hI4.step (by omega) (by omega) (by omega) hmk hbb (by first | exact mk_yes hcl (by omega) | exact mk_no (by omega)) (by first | exact ms_yes t1 (by omega) | exact ms_no (by omega)) (by omega) (by first | exact Cl_mk hcl | exact id)) (by omega) (fun b9 y1 y2 y3 => by first | exact hfr b9 y1 y2 y3 | (rw [e22]; simp only [hu_n y1, hu_n y2, hu_n y3]; exact hfr b9 y1 y2 y3))
                              · skip
                                refine x_iconst C dL_spreads_178 1 (by decide) ?_
                                refine x_goto (tgt := 183) C dL_spreads_179 (by decide) ?_
                                refine x_istore C (ls' := [(0, vI ((al : Nat) : Int)), (1, vI o), (2, .ref qA), (3, .ref gA), (4, .ref cA), (5, .ref dA), (6, .ref eA), (7, .ref fA), (8, .ref mA), (9, vI 1), (10, vI ((k : Nat) : Int)), (11, vI ((now : Nat) : Int)), (12, .long x), (14, vI ((i : Nat) : Int)), (15, vI x12)]) dL_spreads_183 (by decide) rfl ?_
                                refine x_iinc C (x := ((i : Nat) : Int)) (ls' := [(0, vI ((al : Nat) : Int)), (1, vI o), (2, .ref qA), (3, .ref gA), (4, .ref cA), (5, .ref dA), (6, .ref eA), (7, .ref fA), (8, .ref mA), (9, vI 1), (10, vI ((k : Nat) : Int)), (11, vI ((now : Nat) : Int)), (12, .long x), (14, vI ((((i : Nat) : Int)) + 1)), (15, vI x12)]) dL_spreads_185 13 rfl (by decide) rfl ?_
                                refine x_goto (tgt := 61) C dL_spreads_188 (by decide) ?_
                                refine x_sub [0, 1, 2, 3, 4, 5, 6, 7, 8, 9, 10, 11, 12, 13] (ls' := [(0, vI ((al : Nat) : Int)), (1, vI o), (2, .ref qA), (3, .ref gA), (4, .ref cA), (5, .ref dA), (6, .ref eA), (7, .ref fA), (8, .ref mA), (9, vI 1), (10, vI ((k : Nat) : Int)), (11, vI ((now : Nat) : Int)), (12, .long x), (14, vI ((((i : Nat) : Int)) + 1))]) rfl ?_
                                have n62 : nq gA fA := vnt u4g u4f (p := (1, 60)) (q := (1, 64)) rfl rfl (by decide)
                                have n63 : nq gA eA := vnt u4g u4e (p := (1, 60)) (q := (1, 64)) rfl rfl (by decide)
                                have f61 : h20 gA = some (eJ D 60 g) := by rw [e22, hu_n n62, hu_n n63]; exact u4g
                                have n65 : nq qA fA := vnt u4q u4f (p := (0, 5)) (q := (1, 64)) rfl rfl (by decide)
                                have n66 : nq qA eA := vnt u4q u4e (p := (0, 5)) (q := (1, 64)) rfl rfl (by decide)
                                have f64 : h20 qA = some (eI D 5 q) := by rw [e22, hu_n n65, hu_n n66]; exact u4q
                                have f67 : h20 cA = some (eJ D 64 c) := by rw [e22, hu_n ncf, hu_n nce]; exact u4c
                                have f68 : h20 dA = some (eJ D 64 d) := by rw [e22, hu_n ndf, hu_n nde]; exact u4d
                                have n70 : nq mA fA := vnt u4m u4f (p := (1, 2)) (q := (1, 64)) rfl rfl (by decide)
                                have n71 : nq mA eA := vnt u4m u4e (p := (1, 2)) (q := (1, 64)) rfl rfl (by decide)
                                have f69 : h20 mA = some (eJ D 2 m4) := by rw [e22, hu_n n70, hu_n n71]; exact u4m
                                exact ihIL (i + 1) x (mkL e4 ((cd bb9))) (mkH f4 ((cd bb9))) m4 1 h20 f61 f64 f67 f68 f24 f23 f69 (by omega) (by omega) (Or.inl ⟨hx1e, hmk⟩) (hI4.step (by omega) (by omega) (by omega) hmk hbb (by first | exact mk_yes hcl (by omega) | exact mk_no (by omega)) (by first | exact ms_yes t1 (by omega) | exact ms_no (by omega)) (by omega) (by first | exact Cl_mk hcl | exact id)) (by omega) (fun b9 y1 y2 y3 => by first | exact hfr b9 y1 y2 y3 | (rw [e22]; simp only [hu_n y1, hu_n y2, hu_n y3]; exact hfr b9 y1 y2 y3))
                      · skip
                        refine x_iload C dL_spreads_115 14 rfl ?_
                        refine x_sipush C dL_spreads_117 128 (by decide) ?_
                        refine x_irem C dL_spreads_120 (by omega) (by omega) (by omega) (by omega) ?_
                        refine x_topv (show x12 % 128 = ((bb9.1.toNat : Nat) : Int) from by omega) ?_
                        refine x_istore C (ls' := [(0, vI ((al : Nat) : Int)), (1, vI o), (2, .ref qA), (3, .ref gA), (4, .ref cA), (5, .ref dA), (6, .ref eA), (7, .ref fA), (8, .ref mA), (9, vI w4), (10, vI ((k : Nat) : Int)), (11, vI ((now : Nat) : Int)), (12, .long x), (14, vI ((i : Nat) : Int)), (15, vI x12), (16, vI ((bb9.1.toNat : Nat) : Int))]) dL_spreads_121 (by decide) rfl ?_
                        refine x_aload C dL_spreads_123 8 rfl ?_
                        refine x_iload C dL_spreads_125 15 rfl ?_
                        refine x_bipush C dL_spreads_127 48 (by decide) ?_
                        refine x_idiv C dL_spreads_129 (by omega) (by omega) (by omega) (by omega) ?_
                        refine x_topv (show (((bb9.1.toNat : Nat) : Int)) / 48 = ((bb9.1.toNat / 48 : Nat) : Int) from by omega) ?_
                        refine x_dup2 C dL_spreads_130 rfl rfl ?_
                        refine x_lald C u4m ⟨by omega, by omega⟩ (by decide) dL_spreads_131 ?_
                        refine x_lconst C (v := 1) dL_spreads_132 rfl ?_
                        refine x_iload C dL_spreads_133 15 rfl ?_
                        refine x_bipush C dL_spreads_135 48 (by decide) ?_
                        refine x_irem C dL_spreads_137 (by omega) (by omega) (by omega) (by omega) ?_
                        refine x_topv (show (((bb9.1.toNat : Nat) : Int)) % 48 = ((bb9.1.toNat % 48 : Nat) : Int) from by omega) ?_
                        refine x_lshl C dL_spreads_138 ?_
                        refine x_lor C dL_spreads_139 ?_
                        refine x_last C u4m ⟨by omega, by omega⟩ (by decide) dL_spreads_140 (x_hn (fun h72 e73 => ?_))
                        have f74 : h72 mA = some (eJ D 2 (vp_updL m4 (Int.toNat (((bb9.1.toNat / 48 : Nat) : Int))) ((m4 (Int.toNat (((bb9.1.toNat / 48 : Nat) : Int)))) ||| (lsl 1 (((bb9.1.toNat % 48 : Nat) : Int)))))) := by rw [e73]; exact hu_s
                        refine x_iload C dL_spreads_141 14 rfl ?_
                        refine x_sipush C dL_spreads_143 16384 (by decide) ?_
                        refine x_icmp_ge (tgt := 158) C dL_spreads_146 (by decide) (by omega) (by omega) (fun c75 => ?_) (fun c75 => ?_)
                        · skip
                          refine x_iload C dL_spreads_158 9 rfl ?_
                          refine x_if_ne (tgt := 178) C dL_spreads_160 (by decide) (by omega) (fun c76 => ?_) (fun c76 => ?_)
                          · skip
                            refine x_iconst C dL_spreads_178 1 (by decide) ?_
                            refine x_goto (tgt := 183) C dL_spreads_179 (by decide) ?_
                            refine x_istore C (ls' := [(0, vI ((al : Nat) : Int)), (1, vI o), (2, .ref qA), (3, .ref gA), (4, .ref cA), (5, .ref dA), (6, .ref eA), (7, .ref fA), (8, .ref mA), (9, vI 1), (10, vI ((k : Nat) : Int)), (11, vI ((now : Nat) : Int)), (12, .long x), (14, vI ((i : Nat) : Int)), (15, vI x12), (16, vI ((bb9.1.toNat : Nat) : Int))]) dL_spreads_183 (by decide) rfl ?_
                            refine x_iinc C (x := ((i : Nat) : Int)) (ls' := [(0, vI ((al : Nat) : Int)), (1, vI o), (2, .ref qA), (3, .ref gA), (4, .ref cA), (5, .ref dA), (6, .ref eA), (7, .ref fA), (8, .ref mA), (9, vI 1), (10, vI ((k : Nat) : Int)), (11, vI ((now : Nat) : Int)), (12, .long x), (14, vI ((((i : Nat) : Int)) + 1)), (15, vI x12), (16, vI ((bb9.1.toNat : Nat) : Int))]) dL_spreads_185 13 rfl (by decide) rfl ?_
                            refine x_goto (tgt := 61) C dL_spreads_188 (by decide) ?_
                            refine x_sub [0, 1, 2, 3, 4, 5, 6, 7, 8, 9, 10, 11, 12, 13] (ls' := [(0, vI ((al : Nat) : Int)), (1, vI o), (2, .ref qA), (3, .ref gA), (4, .ref cA), (5, .ref dA), (6, .ref eA), (7, .ref fA), (8, .ref mA), (9, vI 1), (10, vI ((k : Nat) : Int)), (11, vI ((now : Nat) : Int)), (12, .long x), (14, vI ((((i : Nat) : Int)) + 1))]) rfl ?_
                            have n78 : nq gA mA := vnt u4g u4m (p := (1, 60)) (q := (1, 2)) rfl rfl (by decide)
                            have f77 : h72 gA = some (eJ D 60 g) := by rw [e73, hu_n n78]; exact u4g
                            have n80 : nq qA mA := vnt u4q u4m (p := (0, 5)) (q := (1, 2)) rfl rfl (by decide)
                            have f79 : h72 qA = some (eI D 5 q) := by rw [e73, hu_n n80]; exact u4q
                            have n82 : nq cA mA := vnt u4c u4m (p := (1, 64)) (q := (1, 2)) rfl rfl (by decide)
                            have f81 : h72 cA = some (eJ D 64 c) := by rw [e73, hu_n n82]; exact u4c
                            have n84 : nq dA mA := vnt u4d u4m (p := (1, 64)) (q := (1, 2)) rfl rfl (by decide)
                            have f83 : h72 dA = some (eJ D 64 d) := by rw [e73, hu_n n84]; exact u4d
                            have n86 : nq eA mA := vnt u4e u4m (p := (1, 64)) (q := (1, 2)) rfl rfl (by decide)
                            have f85 : h72 eA = some (eJ D 64 e4) := by rw [e73, hu_n n86]; exact u4e
                            have n88 : nq fA mA := vnt u4f u4m (p := (1, 64)) (q := (1, 2)) rfl rfl (by decide)
                            have f87 : h72 fA = some (eJ D 64 f4) := by rw [e73, hu_n n88]; exact u4f
                            exact ihIL (i + 1) x e4 f4 (vp_updL m4 (Int.toNat (((bb9.1.toNat / 48 : Nat) : Int))) ((m4 (Int.toNat (((bb9.1.toNat / 48 : Nat) : Int)))) ||| (lsl 1 (((bb9.1.toNat % 48 : Nat) : Int))))) 1 h72 f77 f79 f81 f83 f85 f87 f74 (by omega) (by omega) (Or.inl ⟨hx1e, hmk⟩) (hI4.step (by omega) (by omega) (by omega) hmk hbb (by first | exact mk_yes hcl (by omega) | exact mk_no (by omega)) (by first | exact ms_yes t1 (by omega) | exact ms_no (by omega)) (by omega) (by first | exact Cl_mk hcl | exact id)) (by omega) (fun b9 y1 y2 y3 => by first | exact hfr b9 y1 y2 y3 | (rw [e73]; simp only [hu_n y1, hu_n y2, hu_n y3]; exact hfr b9 y1 y2 y3))
                          · skip
                            refine x_iload C dL_spreads_163 14 rfl ?_
                            refine x_sipush C dL_spreads_165 16384 (by decide) ?_
                            refine x_icmp_lt (tgt := 182) C dL_spreads_168 (by decide) (by omega) (by omega) (fun c89 => ?_) (fun c89 => ?_)
                            · skip
                              refine x_iconst C dL_spreads_182 0 (by decide) ?_
                              refine x_istore C (ls' := [(0, vI ((al : Nat) : Int)), (1, vI o), (2, .ref qA), (3, .ref gA), (4, .ref cA), (5, .ref dA), (6, .ref eA), (7, .ref fA), (8, .ref mA), (9, vI 0), (10, vI ((k : Nat) : Int)), (11, vI ((now : Nat) : Int)), (12, .long x), (14, vI ((i : Nat) : Int)), (15, vI x12), (16, vI ((bb9.1.toNat : Nat) : Int))]) dL_spreads_183 (by decide) rfl ?_
                              refine x_iinc C (x := ((i : Nat) : Int)) (ls' := [(0, vI ((al : Nat) : Int)), (1, vI o), (2, .ref qA), (3, .ref gA), (4, .ref cA), (5, .ref dA), (6, .ref eA), (7, .ref fA), (8, .ref mA), (9, vI 0), (10, vI ((k : Nat) : Int)), (11, vI ((now : Nat) : Int)), (12, .long x), (14, vI ((((i : Nat) : Int)) + 1)), (15, vI x12), (16, vI ((bb9.1.toNat : Nat) : Int))]) dL_spreads_185 13 rfl (by decide) rfl ?_
                              refine x_goto (tgt := 61) C dL_spreads_188 (by decide) ?_
                              refine x_sub [0, 1, 2, 3, 4, 5, 6, 7, 8, 9, 10, 11, 12, 13] (ls' := [(0, vI ((al : Nat) : Int)), (1, vI o), (2, .ref qA), (3, .ref gA), (4, .ref cA), (5, .ref dA), (6, .ref eA), (7, .ref fA), (8, .ref mA), (9, vI 0), (10, vI ((k : Nat) : Int)), (11, vI ((now : Nat) : Int)), (12, .long x), (14, vI ((((i : Nat) : Int)) + 1))]) rfl ?_
                              have n91 : nq gA mA := vnt u4g u4m (p := (1, 60)) (q := (1, 2)) rfl rfl (by decide)
                              have f90 : h72 gA = some (eJ D 60 g) := by rw [e73, hu_n n91]; exact u4g
                              have n93 : nq qA mA := vnt u4q u4m (p := (0, 5)) (q := (1, 2)) rfl rfl (by decide)
                              have f92 : h72 qA = some (eI D 5 q) := by rw [e73, hu_n n93]; exact u4q
                              have n95 : nq cA mA := vnt u4c u4m (p := (1, 64)) (q := (1, 2)) rfl rfl (by decide)
                              have f94 : h72 cA = some (eJ D 64 c) := by rw [e73, hu_n n95]; exact u4c
                              have n97 : nq dA mA := vnt u4d u4m (p := (1, 64)) (q := (1, 2)) rfl rfl (by decide)
                              have f96 : h72 dA = some (eJ D 64 d) := by rw [e73, hu_n n97]; exact u4d
                              have n99 : nq eA mA := vnt u4e u4m (p := (1, 64)) (q := (1, 2)) rfl rfl (by decide)
                              have f98 : h72 eA = some (eJ D 64 e4) := by rw [e73, hu_n n99]; exact u4e
                              have n101 : nq fA mA := vnt u4f u4m (p := (1, 64)) (q := (1, 2)) rfl rfl (by decide)
                              have f100 : h72 fA = some (eJ D 64 f4) := by rw [e73, hu_n n101]; exact u4f
                              exact ihIL (i + 1) x e4 f4 (vp_updL m4 (Int.toNat (((bb9.1.toNat / 48 : Nat) : Int))) ((m4 (Int.toNat (((bb9.1.toNat / 48 : Nat) : Int)))) ||| (lsl 1 (((bb9.1.toNat % 48 : Nat) : Int))))) 0 h72 f90 f92 f94 f96 f98 f100 f74 (by omega) (by omega) (Or.inl ⟨hx1e, hmk⟩) (hI4.step (by omega) (by omega) (by omega) hmk hbb (by first | exact mk_yes hcl (by omega) | exact mk_no (by omega)) (by first | exact ms_yes t1 (by omega) | exact ms_no (by omega)) (by omega) (by first | exact Cl_mk hcl | exact id)) (by omega) (fun b9 y1 y2 y3 => by first | exact hfr b9 y1 y2 y3 | (rw [e73]; simp only [hu_n y1, hu_n y2, hu_n y3]; exact hfr b9 y1 y2 y3))
                            · skip
                              refine x_iload C dL_spreads_171 14 rfl ?_
                              refine x_ldcI C (z := 32768) (by decide) kL_spreads_0 dL_spreads_173 ?_
                              refine x_icmp_ge (tgt := 182) C dL_spreads_175 (by decide) (by omega) (by omega) (fun c102 => ?_) (fun c102 => ?_)
                              · skip
                                refine x_iconst C dL_spreads_182 0 (by decide) ?_
                                refine x_istore C (ls' := [(0, vI ((al : Nat) : Int)), (1, vI o), (2, .ref qA), (3, .ref gA), (4, .ref cA), (5, .ref dA), (6, .ref eA), (7, .ref fA), (8, .ref mA), (9, vI 0), (10, vI ((k : Nat) : Int)), (11, vI ((now : Nat) : Int)), (12, .long x), (14, vI ((i : Nat) : Int)), (15, vI x12), (16, vI ((bb9.1.toNat : Nat) : Int))]) dL_spreads_183 (by decide) rfl ?_
                                refine x_iinc C (x := ((i : Nat) : Int)) (ls' := [(0, vI ((al : Nat) : Int)), (1, vI o), (2, .ref qA), (3, .ref gA), (4, .ref cA), (5, .ref dA), (6, .ref eA), (7, .ref fA), (8, .ref mA), (9, vI 0), (10, vI ((k : Nat) : Int)), (11, vI ((now : Nat) : Int)), (12, .long x), (14, vI ((((i : Nat) : Int)) + 1)), (15, vI x12), (16, vI ((bb9.1.toNat : Nat) : Int))]) dL_spreads_185 13 rfl (by decide) rfl ?_
                                refine x_goto (tgt := 61) C dL_spreads_188 (by decide) ?_
                                refine x_sub [0, 1, 2, 3, 4, 5, 6, 7, 8, 9, 10, 11, 12, 13] (ls' := [(0, vI ((al : Nat) : Int)), (1, vI o), (2, .ref qA), (3, .ref gA), (4, .ref cA), (5, .ref dA), (6, .ref eA), (7, .ref fA), (8, .ref mA), (9, vI 0), (10, vI ((k : Nat) : Int)), (11, vI ((now : Nat) : Int)), (12, .long x), (14, vI ((((i : Nat) : Int)) + 1))]) rfl ?_
                                have n104 : nq gA mA := vnt u4g u4m (p := (1, 60)) (q := (1, 2)) rfl rfl (by decide)
                                have f103 : h72 gA = some (eJ D 60 g) := by rw [e73, hu_n n104]; exact u4g
                                have n106 : nq qA mA := vnt u4q u4m (p := (0, 5)) (q := (1, 2)) rfl rfl (by decide)
                                have f105 : h72 qA = some (eI D 5 q) := by rw [e73, hu_n n106]; exact u4q
                                have n108 : nq cA mA := vnt u4c u4m (p := (1, 64)) (q := (1, 2)) rfl rfl (by decide)
                                have f107 : h72 cA = some (eJ D 64 c) := by rw [e73, hu_n n108]; exact u4c
                                have n110 : nq dA mA := vnt u4d u4m (p := (1, 64)) (q := (1, 2)) rfl rfl (by decide)
                                have f109 : h72 dA = some (eJ D 64 d) := by rw [e73, hu_n n110]; exact u4d
                                have n112 : nq eA mA := vnt u4e u4m (p := (1, 64)) (q := (1, 2)) rfl rfl (by decide)
                                have f111 : h72 eA = some (eJ D 64 e4) := by rw [e73, hu_n n112]; exact u4e
                                have n114 : nq fA mA := vnt u4f u4m (p := (1, 64)) (q := (1, 2)) rfl rfl (by decide)
                                have f113 : h72 fA = some (eJ D 64 f4) := by rw [e73, hu_n n114]; exact u4f
                                exact ihIL (i + 1) x e4 f4 (vp_updL m4 (Int.toNat (((bb9.1.toNat / 48 : Nat) : Int))) ((m4 (Int.toNat (((bb9.1.toNat / 48 : Nat) : Int)))) ||| (lsl 1 (((bb9.1.toNat % 48 : Nat) : Int))))) 0 h72 f103 f105 f107 f109 f111 f113 f74 (by omega) (by omega) (Or.inl ⟨hx1e, hmk⟩) (hI4.step (by omega) (by omega) (by omega) hmk hbb (by first | exact mk_yes hcl (by omega) | exact mk_no (by omega)) (by first | exact ms_yes t1 (by omega) | exact ms_no (by omega)) (by omega) (by first | exact Cl_mk hcl | exact id)) (by omega) (fun b9 y1 y2 y3 => by first | exact hfr b9 y1 y2 y3 | (rw [e73]; simp only [hu_n y1, hu_n y2, hu_n y3]; exact hfr b9 y1 y2 y3))
                              · skip
                                refine x_iconst C dL_spreads_178 1 (by decide) ?_
                                refine x_goto (tgt := 183) C dL_spreads_179 (by decide) ?_
                                refine x_istore C (ls' := [(0, vI ((al : Nat) : Int)), (1, vI o), (2, .ref qA), (3, .ref gA), (4, .ref cA), (5, .ref dA), (6, .ref eA), (7, .ref fA), (8, .ref mA), (9, vI 1), (10, vI ((k : Nat) : Int)), (11, vI ((now : Nat) : Int)), (12, .long x), (14, vI ((i : Nat) : Int)), (15, vI x12), (16, vI ((bb9.1.toNat : Nat) : Int))]) dL_spreads_183 (by decide) rfl ?_
                                refine x_iinc C (x := ((i : Nat) : Int)) (ls' := [(0, vI ((al : Nat) : Int)), (1, vI o), (2, .ref qA), (3, .ref gA), (4, .ref cA), (5, .ref dA), (6, .ref eA), (7, .ref fA), (8, .ref mA), (9, vI 1), (10, vI ((k : Nat) : Int)), (11, vI ((now : Nat) : Int)), (12, .long x), (14, vI ((((i : Nat) : Int)) + 1)), (15, vI x12), (16, vI ((bb9.1.toNat : Nat) : Int))]) dL_spreads_185 13 rfl (by decide) rfl ?_
                                refine x_goto (tgt := 61) C dL_spreads_188 (by decide) ?_
                                refine x_sub [0, 1, 2, 3, 4, 5, 6, 7, 8, 9, 10, 11, 12, 13] (ls' := [(0, vI ((al : Nat) : Int)), (1, vI o), (2, .ref qA), (3, .ref gA), (4, .ref cA), (5, .ref dA), (6, .ref eA), (7, .ref fA), (8, .ref mA), (9, vI 1), (10, vI ((k : Nat) : Int)), (11, vI ((now : Nat) : Int)), (12, .long x), (14, vI ((((i : Nat) : Int)) + 1))]) rfl ?_
                                have n116 : nq gA mA := vnt u4g u4m (p := (1, 60)) (q := (1, 2)) rfl rfl (by decide)
                                have f115 : h72 gA = some (eJ D 60 g) := by rw [e73, hu_n n116]; exact u4g
                                have n118 : nq qA mA := vnt u4q u4m (p := (0, 5)) (q := (1, 2)) rfl rfl (by decide)
                                have f117 : h72 qA = some (eI D 5 q) := by rw [e73, hu_n n118]; exact u4q
                                have n120 : nq cA mA := vnt u4c u4m (p := (1, 64)) (q := (1, 2)) rfl rfl (by decide)
                                have f119 : h72 cA = some (eJ D 64 c) := by rw [e73, hu_n n120]; exact u4c
                                have n122 : nq dA mA := vnt u4d u4m (p := (1, 64)) (q := (1, 2)) rfl rfl (by decide)
                                have f121 : h72 dA = some (eJ D 64 d) := by rw [e73, hu_n n122]; exact u4d
                                have n124 : nq eA mA := vnt u4e u4m (p := (1, 64)) (q := (1, 2)) rfl rfl (by decide)
                                have f123 : h72 eA = some (eJ D 64 e4) := by rw [e73, hu_n n124]; exact u4e
                                have n126 : nq fA mA := vnt u4f u4m (p := (1, 64)) (q := (1, 2)) rfl rfl (by decide)
                                have f125 : h72 fA = some (eJ D 64 f4) := by rw [e73, hu_n n126]; exact u4f
                                exact ihIL (i + 1) x e4 f4 (vp_updL m4 (Int.toNat (((bb9.1.toNat / 48 : Nat) : Int))) ((m4 (Int.toNat (((bb9.1.toNat / 48 : Nat) : Int)))) ||| (lsl 1 (((bb9.1.toNat % 48 : Nat) : Int))))) 1 h72 f115 f117 f119 f121 f123 f125 f74 (by omega) (by omega) (Or.inl ⟨hx1e, hmk⟩) (hI4.step (by omega) (by omega) (by omega) hmk hbb (by first | exact mk_yes hcl (by omega) | exact mk_no (by omega)) (by first | exact ms_yes t1 (by omega) | exact ms_no (by omega)) (by omega) (by first | exact Cl_mk hcl | exact id)) (by omega) (fun b9 y1 y2 y3 => by first | exact hfr b9 y1 y2 y3 | (rw [e73]; simp only [hu_n y1, hu_n y2, hu_n y3]; exact hfr b9 y1 y2 y3))
                        · skip
                          refine x_iload C dL_spreads_149 14 rfl ?_
                          refine x_aload C dL_spreads_151 6 rfl ?_
                          refine x_aload C dL_spreads_153 7 rfl ?_
                          have n128 : nq eA mA := vnt u4e u4m (p := (1, 64)) (q := (1, 2)) rfl rfl (by decide)
                          have f127 : h72 eA = some (eJ D 64 e4) := by rw [e73, hu_n n128]; exact u4e
                          have n130 : nq fA mA := vnt u4f u4m (p := (1, 64)) (q := (1, 2)) rfl rfl (by decide)
                          have f129 : h72 fA = some (eJ D 64 f4) := by rw [e73, hu_n n130]; exact u4f
                          refine x_callSJ C (n := 3) (As := [vI x12, .ref eA, .ref fA]) (rest := []) (c_L_marks (n := (cd bb9)) f127 f129 (by omega) (by omega) (by assumption)) gL_spreads_L_marks (by decide +kernel) rfl rfl rfl (Nat.le_of_ble_eq_true rfl) ⟨by decide, by decide⟩ ⟨(by decide), (by decide)⟩ dL_spreads_155 (fun rv131 h132 hp133 => ?_)
                          obtain ⟨rfl, e134⟩ := hp133
                          have f135 : h132 fA = some (eJ D 64 (mkH f4 ((cd bb9)))) := by rw [e134]; exact hu_s
                          have f136 : h132 eA = some (eJ D 64 (mkL e4 ((cd bb9)))) := by rw [e134, hu_n nef]; exact hu_s
                          refine x_iload C dL_spreads_158 9 rfl ?_
                          refine x_if_ne (tgt := 178) C dL_spreads_160 (by decide) (by omega) (fun c137 => ?_) (fun c137 => ?_)
                          · skip
                            refine x_iconst C dL_spreads_178 1 (by decide) ?_
                            refine x_goto (tgt := 183) C dL_spreads_179 (by decide) ?_
                            refine x_istore C (ls' := [(0, vI ((al : Nat) : Int)), (1, vI o), (2, .ref qA), (3, .ref gA), (4, .ref cA), (5, .ref dA), (6, .ref eA), (7, .ref fA), (8, .ref mA), (9, vI 1), (10, vI ((k : Nat) : Int)), (11, vI ((now : Nat) : Int)), (12, .long x), (14, vI ((i : Nat) : Int)), (15, vI x12), (16, vI ((bb9.1.toNat : Nat) : Int))]) dL_spreads_183 (by decide) rfl ?_
                            refine x_iinc C (x := ((i : Nat) : Int)) (ls' := [(0, vI ((al : Nat) : Int)), (1, vI o), (2, .ref qA), (3, .ref gA), (4, .ref cA), (5, .ref dA), (6, .ref eA), (7, .ref fA), (8, .ref mA), (9, vI 1), (10, vI ((k : Nat) : Int)), (11, vI ((now : Nat) : Int)), (12, .long x), (14, vI ((((i : Nat) : Int)) + 1)), (15, vI x12), (16, vI ((bb9.1.toNat : Nat) : Int))]) dL_spreads_185 13 rfl (by decide) rfl ?_
                            refine x_goto (tgt := 61) C dL_spreads_188 (by decide) ?_
                            refine x_sub [0, 1, 2, 3, 4, 5, 6, 7, 8, 9, 10, 11, 12, 13] (ls' := [(0, vI ((al : Nat) : Int)), (1, vI o), (2, .ref qA), (3, .ref gA), (4, .ref cA), (5, .ref dA), (6, .ref eA), (7, .ref fA), (8, .ref mA), (9, vI 1), (10, vI ((k : Nat) : Int)), (11, vI ((now : Nat) : Int)), (12, .long x), (14, vI ((((i : Nat) : Int)) + 1))]) rfl ?_
                            have n139 : nq gA mA := vnt u4g u4m (p := (1, 60)) (q := (1, 2)) rfl rfl (by decide)
                            have f138 : h72 gA = some (eJ D 60 g) := by rw [e73, hu_n n139]; exact u4g
                            have n141 : nq gA fA := vnt f138 f129 (p := (1, 60)) (q := (1, 64)) rfl rfl (by decide)
                            have n142 : nq gA eA := vnt f138 f127 (p := (1, 60)) (q := (1, 64)) rfl rfl (by decide)
                            have f140 : h132 gA = some (eJ D 60 g) := by rw [e134, hu_n n141, hu_n n142]; exact f138
                            have n144 : nq qA mA := vnt u4q u4m (p := (0, 5)) (q := (1, 2)) rfl rfl (by decide)
                            have f143 : h72 qA = some (eI D 5 q) := by rw [e73, hu_n n144]; exact u4q
                            have n146 : nq qA fA := vnt f143 f129 (p := (0, 5)) (q := (1, 64)) rfl rfl (by decide)
                            have n147 : nq qA eA := vnt f143 f127 (p := (0, 5)) (q := (1, 64)) rfl rfl (by decide)
                            have f145 : h132 qA = some (eI D 5 q) := by rw [e134, hu_n n146, hu_n n147]; exact f143
                            have n149 : nq cA mA := vnt u4c u4m (p := (1, 64)) (q := (1, 2)) rfl rfl (by decide)
                            have f148 : h72 cA = some (eJ D 64 c) := by rw [e73, hu_n n149]; exact u4c
                            have f150 : h132 cA = some (eJ D 64 c) := by rw [e134, hu_n ncf, hu_n nce]; exact f148
                            have n152 : nq dA mA := vnt u4d u4m (p := (1, 64)) (q := (1, 2)) rfl rfl (by decide)
                            have f151 : h72 dA = some (eJ D 64 d) := by rw [e73, hu_n n152]; exact u4d
                            have f153 : h132 dA = some (eJ D 64 d) := by rw [e134, hu_n ndf, hu_n nde]; exact f151
                            have f154 : h132 mA = some (eJ D 2 (vp_updL m4 (Int.toNat (((bb9.1.toNat / 48 : Nat) : Int))) ((m4 (Int.toNat (((bb9.1.toNat / 48 : Nat) : Int)))) ||| (lsl 1 (((bb9.1.toNat % 48 : Nat) : Int)))))) := by rw [e134, hu_n (Ne.symm n130), hu_n (Ne.symm n128)]; exact f74
                            exact ihIL (i + 1) x (mkL e4 ((cd bb9))) (mkH f4 ((cd bb9))) (vp_updL m4 (Int.toNat (((bb9.1.toNat / 48 : Nat) : Int))) ((m4 (Int.toNat (((bb9.1.toNat / 48 : Nat) : Int)))) ||| (lsl 1 (((bb9.1.toNat % 48 : Nat) : Int))))) 1 h132 f140 f145 f150 f153 f136 f135 f154 (by omega) (by omega) (Or.inl ⟨hx1e, hmk⟩) (hI4.step (by omega) (by omega) (by omega) hmk hbb (by first | exact mk_yes hcl (by omega) | exact mk_no (by omega)) (by first | exact ms_yes t1 (by omega) | exact ms_no (by omega)) (by omega) (by first | exact Cl_mk hcl | exact id)) (by omega) (fun b9 y1 y2 y3 => by first | exact hfr b9 y1 y2 y3 | (rw [e134, e73]; simp only [hu_n y1, hu_n y2, hu_n y3]; exact hfr b9 y1 y2 y3))
                          · skip
                            refine x_iload C dL_spreads_163 14 rfl ?_
                            refine x_sipush C dL_spreads_165 16384 (by decide) ?_
                            refine x_icmp_lt (tgt := 182) C dL_spreads_168 (by decide) (by omega) (by omega) (fun c155 => ?_) (fun c155 => ?_)
                            · skip
                              refine x_iconst C dL_spreads_182 0 (by decide) ?_
                              refine x_istore C (ls' := [(0, vI ((al : Nat) : Int)), (1, vI o), (2, .ref qA), (3, .ref gA), (4, .ref cA), (5, .ref dA), (6, .ref eA), (7, .ref fA), (8, .ref mA), (9, vI 0), (10, vI ((k : Nat) : Int)), (11, vI ((now : Nat) : Int)), (12, .long x), (14, vI ((i : Nat) : Int)), (15, vI x12), (16, vI ((bb9.1.toNat : Nat) : Int))]) dL_spreads_183 (by decide) rfl ?_
                              refine x_iinc C (x := ((i : Nat) : Int)) (ls' := [(0, vI ((al : Nat) : Int)), (1, vI o), (2, .ref qA), (3, .ref gA), (4, .ref cA), (5, .ref dA), (6, .ref eA), (7, .ref fA), (8, .ref mA), (9, vI 0), (10, vI ((k : Nat) : Int)), (11, vI ((now : Nat) : Int)), (12, .long x), (14, vI ((((i : Nat) : Int)) + 1)), (15, vI x12), (16, vI ((bb9.1.toNat : Nat) : Int))]) dL_spreads_185 13 rfl (by decide) rfl ?_
                              refine x_goto (tgt := 61) C dL_spreads_188 (by decide) ?_
                              refine x_sub [0, 1, 2, 3, 4, 5, 6, 7, 8, 9, 10, 11, 12, 13] (ls' := [(0, vI ((al : Nat) : Int)), (1, vI o), (2, .ref qA), (3, .ref gA), (4, .ref cA), (5, .ref dA), (6, .ref eA), (7, .ref fA), (8, .ref mA), (9, vI 0), (10, vI ((k : Nat) : Int)), (11, vI ((now : Nat) : Int)), (12, .long x), (14, vI ((((i : Nat) : Int)) + 1))]) rfl ?_
                              have n157 : nq gA mA := vnt u4g u4m (p := (1, 60)) (q := (1, 2)) rfl rfl (by decide)
                              have f156 : h72 gA = some (eJ D 60 g) := by rw [e73, hu_n n157]; exact u4g
                              have n159 : nq gA fA := vnt f156 f129 (p := (1, 60)) (q := (1, 64)) rfl rfl (by decide)
                              have n160 : nq gA eA := vnt f156 f127 (p := (1, 60)) (q := (1, 64)) rfl rfl (by decide)
                              have f158 : h132 gA = some (eJ D 60 g) := by rw [e134, hu_n n159, hu_n n160]; exact f156
                              have n162 : nq qA mA := vnt u4q u4m (p := (0, 5)) (q := (1, 2)) rfl rfl (by decide)
                              have f161 : h72 qA = some (eI D 5 q) := by rw [e73, hu_n n162]; exact u4q
                              have n164 : nq qA fA := vnt f161 f129 (p := (0, 5)) (q := (1, 64)) rfl rfl (by decide)
                              have n165 : nq qA eA := vnt f161 f127 (p := (0, 5)) (q := (1, 64)) rfl rfl (by decide)
                              have f163 : h132 qA = some (eI D 5 q) := by rw [e134, hu_n n164, hu_n n165]; exact f161
                              have n167 : nq cA mA := vnt u4c u4m (p := (1, 64)) (q := (1, 2)) rfl rfl (by decide)
                              have f166 : h72 cA = some (eJ D 64 c) := by rw [e73, hu_n n167]; exact u4c
                              have f168 : h132 cA = some (eJ D 64 c) := by rw [e134, hu_n ncf, hu_n nce]; exact f166
                              have n170 : nq dA mA := vnt u4d u4m (p := (1, 64)) (q := (1, 2)) rfl rfl (by decide)
                              have f169 : h72 dA = some (eJ D 64 d) := by rw [e73, hu_n n170]; exact u4d
                              have f171 : h132 dA = some (eJ D 64 d) := by rw [e134, hu_n ndf, hu_n nde]; exact f169
                              have f172 : h132 mA = some (eJ D 2 (vp_updL m4 (Int.toNat (((bb9.1.toNat / 48 : Nat) : Int))) ((m4 (Int.toNat (((bb9.1.toNat / 48 : Nat) : Int)))) ||| (lsl 1 (((bb9.1.toNat % 48 : Nat) : Int)))))) := by rw [e134, hu_n (Ne.symm n130), hu_n (Ne.symm n128)]; exact f74
                              exact ihIL (i + 1) x (mkL e4 ((cd bb9))) (mkH f4 ((cd bb9))) (vp_updL m4 (Int.toNat (((bb9.1.toNat / 48 : Nat) : Int))) ((m4 (Int.toNat (((bb9.1.toNat / 48 : Nat) : Int)))) ||| (lsl 1 (((bb9.1.toNat % 48 : Nat) : Int))))) 0 h132 f158 f163 f168 f171 f136 f135 f172 (by omega) (by omega) (Or.inl ⟨hx1e, hmk⟩) (hI4.step (by omega) (by omega) (by omega) hmk hbb (by first | exact mk_yes hcl (by omega) | exact mk_no (by omega)) (by first | exact ms_yes t1 (by omega) | exact ms_no (by omega)) (by omega) (by first | exact Cl_mk hcl | exact id)) (by omega) (fun b9 y1 y2 y3 => by first | exact hfr b9 y1 y2 y3 | (rw [e134, e73]; simp only [hu_n y1, hu_n y2, hu_n y3]; exact hfr b9 y1 y2 y3))
                            · skip
                              refine x_iload C dL_spreads_171 14 rfl ?_
                              refine x_ldcI C (z := 32768) (by decide) kL_spreads_0 dL_spreads_173 ?_
                              refine x_icmp_ge (tgt := 182) C dL_spreads_175 (by decide) (by omega) (by omega) (fun c173 => ?_) (fun c173 => ?_)
                              · skip
                                refine x_iconst C dL_spreads_182 0 (by decide) ?_
                                refine x_istore C (ls' := [(0, vI ((al : Nat) : Int)), (1, vI o), (2, .ref qA), (3, .ref gA), (4, .ref cA), (5, .ref dA), (6, .ref eA), (7, .ref fA), (8, .ref mA), (9, vI 0), (10, vI ((k : Nat) : Int)), (11, vI ((now : Nat) : Int)), (12, .long x), (14, vI ((i : Nat) : Int)), (15, vI x12), (16, vI ((bb9.1.toNat : Nat) : Int))]) dL_spreads_183 (by decide) rfl ?_
                                refine x_iinc C (x := ((i : Nat) : Int)) (ls' := [(0, vI ((al : Nat) : Int)), (1, vI o), (2, .ref qA), (3, .ref gA), (4, .ref cA), (5, .ref dA), (6, .ref eA), (7, .ref fA), (8, .ref mA), (9, vI 0), (10, vI ((k : Nat) : Int)), (11, vI ((now : Nat) : Int)), (12, .long x), (14, vI ((((i : Nat) : Int)) + 1)), (15, vI x12), (16, vI ((bb9.1.toNat : Nat) : Int))]) dL_spreads_185 13 rfl (by decide) rfl ?_
                                refine x_goto (tgt := 61) C dL_spreads_188 (by decide) ?_
                                refine x_sub [0, 1, 2, 3, 4, 5, 6, 7, 8, 9, 10, 11, 12, 13] (ls' := [(0, vI ((al : Nat) : Int)), (1, vI o), (2, .ref qA), (3, .ref gA), (4, .ref cA), (5, .ref dA), (6, .ref eA), (7, .ref fA), (8, .ref mA), (9, vI 0), (10, vI ((k : Nat) : Int)), (11, vI ((now : Nat) : Int)), (12, .long x), (14, vI ((((i : Nat) : Int)) + 1))]) rfl ?_
                                have n175 : nq gA mA := vnt u4g u4m (p := (1, 60)) (q := (1, 2)) rfl rfl (by decide)
                                have f174 : h72 gA = some (eJ D 60 g) := by rw [e73, hu_n n175]; exact u4g
                                have n177 : nq gA fA := vnt f174 f129 (p := (1, 60)) (q := (1, 64)) rfl rfl (by decide)
                                have n178 : nq gA eA := vnt f174 f127 (p := (1, 60)) (q := (1, 64)) rfl rfl (by decide)
                                have f176 : h132 gA = some (eJ D 60 g) := by rw [e134, hu_n n177, hu_n n178]; exact f174
                                have n180 : nq qA mA := vnt u4q u4m (p := (0, 5)) (q := (1, 2)) rfl rfl (by decide)
                                have f179 : h72 qA = some (eI D 5 q) := by rw [e73, hu_n n180]; exact u4q
                                have n182 : nq qA fA := vnt f179 f129 (p := (0, 5)) (q := (1, 64)) rfl rfl (by decide)
                                have n183 : nq qA eA := vnt f179 f127 (p := (0, 5)) (q := (1, 64)) rfl rfl (by decide)
                                have f181 : h132 qA = some (eI D 5 q) := by rw [e134, hu_n n182, hu_n n183]; exact f179
                                have n185 : nq cA mA := vnt u4c u4m (p := (1, 64)) (q := (1, 2)) rfl rfl (by decide)
                                have f184 : h72 cA = some (eJ D 64 c) := by rw [e73, hu_n n185]; exact u4c
                                have f186 : h132 cA = some (eJ D 64 c) := by rw [e134, hu_n ncf, hu_n nce]; exact f184
                                have n188 : nq dA mA := vnt u4d u4m (p := (1, 64)) (q := (1, 2)) rfl rfl (by decide)
                                have f187 : h72 dA = some (eJ D 64 d) := by rw [e73, hu_n n188]; exact u4d
                                have f189 : h132 dA = some (eJ D 64 d) := by rw [e134, hu_n ndf, hu_n nde]; exact f187
                                have f190 : h132 mA = some (eJ D 2 (vp_updL m4 (Int.toNat (((bb9.1.toNat / 48 : Nat) : Int))) ((m4 (Int.toNat (((bb9.1.toNat / 48 : Nat) : Int)))) ||| (lsl 1 (((bb9.1.toNat % 48 : Nat) : Int)))))) := by rw [e134, hu_n (Ne.symm n130), hu_n (Ne.symm n128)]; exact f74
                                exact ihIL (i + 1) x (mkL e4 ((cd bb9))) (mkH f4 ((cd bb9))) (vp_updL m4 (Int.toNat (((bb9.1.toNat / 48 : Nat) : Int))) ((m4 (Int.toNat (((bb9.1.toNat / 48 : Nat) : Int)))) ||| (lsl 1 (((bb9.1.toNat % 48 : Nat) : Int))))) 0 h132 f176 f181 f186 f189 f136 f135 f190 (by omega) (by omega) (Or.inl ⟨hx1e, hmk⟩) (hI4.step (by omega) (by omega) (by omega) hmk hbb (by first | exact mk_yes hcl (by omega) | exact mk_no (by omega)) (by first | exact ms_yes t1 (by omega) | exact ms_no (by omega)) (by omega) (by first | exact Cl_mk hcl | exact id)) (by omega) (fun b9 y1 y2 y3 => by first | exact hfr b9 y1 y2 y3 | (rw [e134, e73]; simp only [hu_n y1, hu_n y2, hu_n y3]; exact hfr b9 y1 y2 y3))
                              · skip
                                refine x_iconst C dL_spreads_178 1 (by decide) ?_
                                refine x_goto (tgt := 183) C dL_spreads_179 (by decide) ?_
                                refine x_istore C (ls' := [(0, vI ((al : Nat) : Int)), (1, vI o), (2, .ref qA), (3, .ref gA), (4, .ref cA), (5, .ref dA), (6, .ref eA), (7, .ref fA), (8, .ref mA), (9, vI 1), (10, vI ((k : Nat) : Int)), (11, vI ((now : Nat) : Int)), (12, .long x), (14, vI ((i : Nat) : Int)), (15, vI x12), (16, vI ((bb9.1.toNat : Nat) : Int))]) dL_spreads_183 (by decide) rfl ?_
                                refine x_iinc C (x := ((i : Nat) : Int)) (ls' := [(0, vI ((al : Nat) : Int)), (1, vI o), (2, .ref qA), (3, .ref gA), (4, .ref cA), (5, .ref dA), (6, .ref eA), (7, .ref fA), (8, .ref mA), (9, vI 1), (10, vI ((k : Nat) : Int)), (11, vI ((now : Nat) : Int)), (12, .long x), (14, vI ((((i : Nat) : Int)) + 1)), (15, vI x12), (16, vI ((bb9.1.toNat : Nat) : Int))]) dL_spreads_185 13 rfl (by decide) rfl ?_
                                refine x_goto (tgt := 61) C dL_spreads_188 (by decide) ?_
                                refine x_sub [0, 1, 2, 3, 4, 5, 6, 7, 8, 9, 10, 11, 12, 13] (ls' := [(0, vI ((al : Nat) : Int)), (1, vI o), (2, .ref qA), (3, .ref gA), (4, .ref cA), (5, .ref dA), (6, .ref eA), (7, .ref fA), (8, .ref mA), (9, vI 1), (10, vI ((k : Nat) : Int)), (11, vI ((now : Nat) : Int)), (12, .long x), (14, vI ((((i : Nat) : Int)) + 1))]) rfl ?_
                                have n192 : nq gA mA := vnt u4g u4m (p := (1, 60)) (q := (1, 2)) rfl rfl (by decide)
                                have f191 : h72 gA = some (eJ D 60 g) := by rw [e73, hu_n n192]; exact u4g
                                have n194 : nq gA fA := vnt f191 f129 (p := (1, 60)) (q := (1, 64)) rfl rfl (by decide)
                                have n195 : nq gA eA := vnt f191 f127 (p := (1, 60)) (q := (1, 64)) rfl rfl (by decide)
                                have f193 : h132 gA = some (eJ D 60 g) := by rw [e134, hu_n n194, hu_n n195]; exact f191
                                have n197 : nq qA mA := vnt u4q u4m (p := (0, 5)) (q := (1, 2)) rfl rfl (by decide)
                                have f196 : h72 qA = some (eI D 5 q) := by rw [e73, hu_n n197]; exact u4q
                                have n199 : nq qA fA := vnt f196 f129 (p := (0, 5)) (q := (1, 64)) rfl rfl (by decide)
                                have n200 : nq qA eA := vnt f196 f127 (p := (0, 5)) (q := (1, 64)) rfl rfl (by decide)
                                have f198 : h132 qA = some (eI D 5 q) := by rw [e134, hu_n n199, hu_n n200]; exact f196
                                have n202 : nq cA mA := vnt u4c u4m (p := (1, 64)) (q := (1, 2)) rfl rfl (by decide)
                                have f201 : h72 cA = some (eJ D 64 c) := by rw [e73, hu_n n202]; exact u4c
                                have f203 : h132 cA = some (eJ D 64 c) := by rw [e134, hu_n ncf, hu_n nce]; exact f201
                                have n205 : nq dA mA := vnt u4d u4m (p := (1, 64)) (q := (1, 2)) rfl rfl (by decide)
                                have f204 : h72 dA = some (eJ D 64 d) := by rw [e73, hu_n n205]; exact u4d
                                have f206 : h132 dA = some (eJ D 64 d) := by rw [e134, hu_n ndf, hu_n nde]; exact f204
                                have f207 : h132 mA = some (eJ D 2 (vp_updL m4 (Int.toNat (((bb9.1.toNat / 48 : Nat) : Int))) ((m4 (Int.toNat (((bb9.1.toNat / 48 : Nat) : Int)))) ||| (lsl 1 (((bb9.1.toNat % 48 : Nat) : Int)))))) := by rw [e134, hu_n (Ne.symm n130), hu_n (Ne.symm n128)]; exact f74
                                exact ihIL (i + 1) x (mkL e4 ((cd bb9))) (mkH f4 ((cd bb9))) (vp_updL m4 (Int.toNat (((bb9.1.toNat / 48 : Nat) : Int))) ((m4 (Int.toNat (((bb9.1.toNat / 48 : Nat) : Int)))) ||| (lsl 1 (((bb9.1.toNat % 48 : Nat) : Int))))) 1 h132 f193 f198 f203 f206 f136 f135 f207 (by omega) (by omega) (Or.inl ⟨hx1e, hmk⟩) (hI4.step (by omega) (by omega) (by omega) hmk hbb (by first | exact mk_yes hcl (by omega) | exact mk_no (by omega)) (by first | exact ms_yes t1 (by omega) | exact ms_no (by omega)) (by omega) (by first | exact Cl_mk hcl | exact id)) (by omega) (fun b9 y1 y2 y3 => by first | exact hfr b9 y1 y2 y3 | (rw [e134, e73]; simp only [hu_n y1, hu_n y2, hu_n y3]; exact hfr b9 y1 y2 y3))
              refine x_iload C dL_spreads_23 11 rfl ?_
              refine x_bipush C dL_spreads_25 48 (by decide) ?_
              refine x_icmp_ge (tgt := 43) C dL_spreads_27 (by decide) (by omega) (by omega) (fun c208 => ?_) (fun c208 => ?_)
              · skip
                refine x_aload C dL_spreads_43 5 rfl ?_
                refine x_iload C dL_spreads_45 10 rfl ?_
                refine x_lald C u3d ⟨by omega, by omega⟩ (by decide) dL_spreads_47 ?_
                refine x_iload C dL_spreads_48 11 rfl ?_
                refine x_bipush C dL_spreads_50 48 (by decide) ?_
                refine x_isub C dL_spreads_52 ?_
                refine x_topv (show (((now : Nat) : Int)) - 48 = ((now - 48 : Nat) : Int) from by omega) ?_
                refine x_lshr C dL_spreads_53 ?_
                refine x_lconst C (v := 1) dL_spreads_54 rfl ?_
                refine x_land C dL_spreads_55 ?_
                refine x_topl (fun x209 ex210 => ?_)
                have hx39 := MkH (c := c) (d := d) (k := k) (now := now) (by omega) (by omega) (by omega)
                rw [show lsr (d k) ((now - 48 : Nat) : Int) &&& 1 = x209 from ex210.symm] at hx39
                refine x_lstore C (ls' := [(12, .long x209), (0, vI ((al : Nat) : Int)), (1, vI o), (2, .ref qA), (3, .ref gA), (4, .ref cA), (5, .ref dA), (6, .ref eA), (7, .ref fA), (8, .ref mA), (9, vI w3), (10, vI ((k : Nat) : Int)), (11, vI ((now : Nat) : Int))]) dL_spreads_56 (by decide) rfl ?_
                refine x_iconst C dL_spreads_58 0 (by decide) ?_
                refine x_istore C (ls' := [(12, .long x209), (0, vI ((al : Nat) : Int)), (1, vI o), (2, .ref qA), (3, .ref gA), (4, .ref cA), (5, .ref dA), (6, .ref eA), (7, .ref fA), (8, .ref mA), (9, vI w3), (10, vI ((k : Nat) : Int)), (11, vI ((now : Nat) : Int)), (14, vI 0)]) dL_spreads_59 (by decide) rfl ?_
                refine x_sub [1, 2, 3, 4, 5, 6, 7, 8, 9, 10, 11, 12, 0, 13] (ls' := [(0, vI ((al : Nat) : Int)), (1, vI o), (2, .ref qA), (3, .ref gA), (4, .ref cA), (5, .ref dA), (6, .ref eA), (7, .ref fA), (8, .ref mA), (9, vI w3), (10, vI ((k : Nat) : Int)), (11, vI ((now : Nat) : Int)), (12, .long x209), (14, vI 0)]) rfl ?_
                exact IL (7) 0 x209 e3 f3 m3 w3 h3 u3g u3q u3c u3d u3e u3f u3m (by omega) (by omega) (hx39.imp id (fun z9 => ⟨z9.1, z9.2, rfl⟩)) (hI3) (hw3) (hfr)
              · skip
                refine x_aload C dL_spreads_30 4 rfl ?_
                refine x_iload C dL_spreads_32 10 rfl ?_
                refine x_lald C u3c ⟨by omega, by omega⟩ (by decide) dL_spreads_34 ?_
                refine x_iload C dL_spreads_35 11 rfl ?_
                refine x_lshr C dL_spreads_37 ?_
                refine x_lconst C (v := 1) dL_spreads_38 rfl ?_
                refine x_land C dL_spreads_39 ?_
                refine x_topl (fun x211 ex212 => ?_)
                have hx39 := MkL (c := c) (d := d) (k := k) (now := now) (by omega) (by omega)
                rw [show lsr (c k) ((now : Nat) : Int) &&& 1 = x211 from ex212.symm] at hx39
                refine x_goto (tgt := 56) C dL_spreads_40 (by decide) ?_
                refine x_lstore C (ls' := [(12, .long x211), (0, vI ((al : Nat) : Int)), (1, vI o), (2, .ref qA), (3, .ref gA), (4, .ref cA), (5, .ref dA), (6, .ref eA), (7, .ref fA), (8, .ref mA), (9, vI w3), (10, vI ((k : Nat) : Int)), (11, vI ((now : Nat) : Int))]) dL_spreads_56 (by decide) rfl ?_
                refine x_iconst C dL_spreads_58 0 (by decide) ?_
                refine x_istore C (ls' := [(12, .long x211), (0, vI ((al : Nat) : Int)), (1, vI o), (2, .ref qA), (3, .ref gA), (4, .ref cA), (5, .ref dA), (6, .ref eA), (7, .ref fA), (8, .ref mA), (9, vI w3), (10, vI ((k : Nat) : Int)), (11, vI ((now : Nat) : Int)), (14, vI 0)]) dL_spreads_59 (by decide) rfl ?_
                refine x_sub [1, 2, 3, 4, 5, 6, 7, 8, 9, 10, 11, 12, 0, 13] (ls' := [(0, vI ((al : Nat) : Int)), (1, vI o), (2, .ref qA), (3, .ref gA), (4, .ref cA), (5, .ref dA), (6, .ref eA), (7, .ref fA), (8, .ref mA), (9, vI w3), (10, vI ((k : Nat) : Int)), (11, vI ((now : Nat) : Int)), (12, .long x211), (14, vI 0)]) rfl ?_
                exact IL (7) 0 x211 e3 f3 m3 w3 h3 u3g u3q u3c u3d u3e u3f u3m (by omega) (by omega) (hx39.imp id (fun z9 => ⟨z9.1, z9.2, rfl⟩)) (hI3) (hw3) (hfr)
        exact NL (97) 0 e2 f2 m2 w2 h1 u2g u2q u2c u2d u2e u2f u2m (by omega) (by omega) (hI2) (hw2) (hfr)
  exact KL (65) 0 e f m 0 h hg hq hc hd he hf hm (by omega) (by omega) (SPI.z) (Or.inl rfl) (fun _ _ _ _ => rfl)


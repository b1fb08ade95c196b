/-! ===== a step in the law ===== -/
def stK (s : Int) : Int := if s = 3 then 32768 else if s = 2 then 16384 else 0
/-- a body's number in the law -/
def encB (x : B4) : Int := x.1 + 128 * (x.2.1 + 4) + 1024 * ((x.2.2.1 : Nat) : Int) + stK x.2.2.2
theorem stK_of {s k : Int} (h : (s = 1 ∧ k = 0) ∨ (s = 2 ∧ k = 16384) ∨ (s = 3 ∧ k = 32768)) : stK s = k := by
  rcases h with ⟨rfl, rfl⟩ | ⟨rfl, rfl⟩ | ⟨rfl, rfl⟩ <;> rfl
theorem stK_if {a : Int} : ((if a = 4 then (3 : Int) else if a = 5 then 2 else 1) = 1 ∧ (if a = 4 then (32768 : Int) else if a = 5 then 16384 else 0) = 0) ∨ ((if a = 4 then (3 : Int) else if a = 5 then 2 else 1) = 2 ∧ (if a = 4 then (32768 : Int) else if a = 5 then 16384 else 0) = 16384) ∨ ((if a = 4 then (3 : Int) else if a = 5 then 2 else 1) = 3 ∧ (if a = 4 then (32768 : Int) else if a = 5 then 16384 else 0) = 32768) := by
  by_cases h : a = 4
  · simp [h]
  · by_cases h2 : a = 5
    · simp [h2]
    · simp [h, h2]
theorem if45 (a : Int) : ∃ k : Int, k = (if a = 4 then 32768 else if a = 5 then 16384 else 0) ∧ (k = 0 ∨ k = 16384 ∨ k = 32768) := by
  refine ⟨_, rfl, ?_⟩
  by_cases h : a = 4
  · simp [h]
  · by_cases h2 : a = 5
    · simp [h2]
    · simp [h, h2]
theorem sv_no {f : Nat → Int} {al t : Nat} {inp c v : Int} (h : v < 0 ∨ ¬ sol f al t (c + 12)) : sv f al inp c v t = v := by
  unfold sv
  rw [if_neg (fun z => by rcases h with q | q; have := z.1; omega; exact q z.2)]
theorem sv_yes {f : Nat → Int} {al t : Nat} {inp c v : Int} (h : 0 ≤ v) (h2 : sol f al t (c + 12)) : sv f al inp c v t = if inp < 3 then 0 else -2 := by
  unfold sv
  rw [if_pos ⟨h, h2⟩]
theorem sd_no {f : Nat → Int} {B : Int → Nat} {al : Nat} {d : Int} {x : Int × Nat × Int} (h : d = 0 ∨ x.1 % 12 + d < 0 ∨ 12 ≤ x.1 % 12 + d ∨ sol f al x.2.1 (x.1 + d)) : sd f B al d x = x := by
  unfold sd
  rw [if_neg (fun z => by
    obtain ⟨z1, z2, z3, z4⟩ := z
    rcases h with q | q | q | q
    · exact z1 q
    · omega
    · omega
    · exact z4 q)]
theorem cm_in {f : Nat → Int} {B : Int → Nat} {p : Int} {x : Int × Nat × Int} (hp : 0 ≤ p ∧ p < 96) : cm f B p x = (p, x.2.1 ||| B p, if f p.toNat = 4 then 3 else if f p.toNat = 5 then 2 else x.2.2) := by
  unfold cm
  rw [if_pos hp]
theorem cm_out {f : Nat → Int} {B : Int → Nat} {p : Int} {x : Int × Nat × Int} (hp : ¬ (0 ≤ p ∧ p < 96)) : cm f B p x = (x.1, x.2.1, 3) := by
  unfold cm
  rw [if_neg hp]
theorem sd_yes {f : Nat → Int} {B : Int → Nat} {al : Nat} {d : Int} {c : Int} {t : Nat} (h0 : d ≠ 0) (h1 : 0 ≤ c % 12 + d) (h2 : c % 12 + d < 12) (hr : 0 ≤ c ∧ c ≤ 95) (h3 : ¬ sol f al t (c + d)) : sd f B al d (c, t, 1) = (c + d, t ||| B (c + d), if f (c + d).toNat = 4 then 3 else if f (c + d).toNat = 5 then 2 else 1) := by
  unfold sd
  rw [if_pos ⟨h0, h1, h2, h3⟩, cm_in ⟨sol_lo h3, by omega⟩]
theorem LVI_i {f : Nat → Int} {B : Int → Nat} {al : Nat} {S : Nat → Int} {inp c v vv w c1 s1 : Int} {t t1 : Nat} (hsd : sd f B al (inp % 3 - 1) (c, t, 1) = (c1, t1, s1)) (hsv : vv = sv f al inp c v t) (hw : (vv < 0 ∧ w = -12) ∨ (0 ≤ vv ∧ w = 12)) : LVI (mv f B al S inp c v t) f B al S w vv (vab vv) c1 t1 s1 0 := by
  unfold mv LVI
  rw [hsd, ← hsv]
  have hw2 : (if vv < 0 then (-12 : Int) else 12) = w := by split <;> omega
  rw [hw2]
  by_cases q : s1 = 1
  · subst q
    exact Or.inl ⟨rfl, rfl, if_pos rfl⟩
  · exact Or.inr (Or.inl ⟨rfl, q, if_neg q⟩)
theorem vab_p {v : Int} (h : 0 ≤ v) : vab v = v.toNat := if_neg (by omega)
theorem vab_n {v : Int} (h : v < 0) : vab v = (-v).toNat := if_pos h

theorem kbr_8 {f : Nat → Int} (hA : lyA f 96 ≤ 7) (p : Int) : kbr f (fun _ => 0) p < 8 := by
  unfold kbr lyB
  split
  · rename_i h
    split
    · rename_i h2
      have h3 := lyA_m (src := f) (show p.toNat + 1 ≤ 96 by omega)
      have h4 : lyA f (p.toNat + 1) = lyA f p.toNat + (if f p.toNat = 2 then lyA f p.toNat + 1 else 0) := rfl
      rw [if_pos h2] at h4
      omega
    · exact (by decide : (0 : Int).toNat < 8)
  · exact (by decide : (0 : Int).toNat < 8)

theorem kL_step_0 : Cond.constant "LedgeLevelsLaw" 54 (32768) ∈ wsL_step := by decide +kernel
set_option maxRecDepth 100000 in
set_option maxHeartbeats 1000000 in
theorem c_L_step {l : Launch} {D : va_G} {A : Nat → Prop} {h : vh} {gA qA : Nat} {g : Nat → Int64} {q S : Nat → Int} {b inp o c v : Int} {t al : Nat} (hg : h gA = some (eJ D 60 g)) (hq : h qA = some (eI D 5 q)) (hb : b = c + 128 * (v + 4) + 1024 * ((t : Nat) : Int)) (hi : 0 ≤ inp ∧ inp < 6) (ha : al = (lyA (gk g o.toNat) 96)) (ho : 0 ≤ o ∧ o ≤ 54) (hc : 0 ≤ c ∧ c ≤ 95) (hv : -4 ≤ v ∧ v ≤ 3) (ht : t < 8) (hgd : t ||| (kbr (gk g o.toNat) (fun _ => 0)) c = t) (hS : ∀ j : Nat, j < 3 → S j = q (j + 2)) (rS : ∀ j, 0 ≤ S j ∧ S j ≤ 4) (hA : (lyA (gk g o.toNat) 96) ≤ 7) (hf8 : ∀ z, 0 ≤ gk g o.toNat z ∧ gk g o.toNat z ≤ 8) : MX l D A yL_step wsL_step { frames := 3, cells := 0, slots := 0, locals := 72 } [vI b, vI inp, vI ((al : Nat) : Int), vI o, .ref qA, .ref gA] h (fun rv h' => rv = some (vI (encB (mv (gk g o.toNat) (kbr (gk g o.toNat) (fun _ => 0)) al S inp c v t))) ∧ h' = h) := by
  refine MX.of (cc := cL_step) (maxL := 17) (ret := (some .int)) [(0, vI b), (1, vI inp), (2, vI ((al : Nat) : Int)), (3, vI o), (4, .ref qA), (5, .ref gA)] (by decide +kernel) rfl rfl (Nat.le_of_ble_eq_true rfl) ?_
  intro κ C hkl G
  subst hkl
  have C : CX κ "LedgeLevelsLaw" "step" cL_step wsL_step { frames := 3, cells := 0, slots := 0, locals := 72 } D A 17 := C
  have hiz : nq (D.1 20) (D.1 21) := cx_iz C
  have hal8 : al < 8 := by omega
  have CD : ∀ (vv w n to c1 s1 kk nx : Int) (t1 : Nat)   (hvv : -4 ≤ vv ∧ vv ≤ 3) (hw : (vv < 0 ∧ w = -12) ∨ (0 ≤ vv ∧ w = 12)) (hnx : nx = c1 + w ∧ nx ≤ 95) (hso : sol (gk g o.toNat) al t1 (c1 + w)) (hs1 : s1 = 1) (hn0 : 0 < n) (hL : LVI (mv (gk g o.toNat) (kbr (gk g o.toNat) (fun _ => 0)) al S inp c v t) (gk g o.toNat) (kbr (gk g o.toNat) (fun _ => 0)) al S w vv n.toNat c1 t1 s1 0) (hto : to = c1 + 128 * (vv + 4) + 1024 * ((t1 : Nat) : Int) + kk) (hk3 : (s1 = 1 ∧ kk = 0) ∨ (s1 = 2 ∧ kk = 16384) ∨ (s1 = 3 ∧ kk = 32768)) (hc1 : 0 ≤ c1 ∧ c1 ≤ 95) (ht1 : t1 < 8), X κ 0 0 h [(0, vI b), (1, vI inp), (2, vI ((al : Nat) : Int)), (3, vI o), (4, .ref qA), (5, .ref gA), (7, vI vv), (9, vI to), (12, vI w), (13, vI n), (14, vI nx)] 253 [] := by
    intro vv w n to c1 s1 kk nx t1 hvv hw hnx hso hs1 hn0 hL hto hk3 hc1 ht1
    obtain rfl := hs1
    have hL1 := hL.stop rfl rfl (by omega) hso
    have hfr := hf8 nx.toNat
    have hqS := hS ((gk g o.toNat nx.toNat) - 6).toNat
    have hrS := rS ((gk g o.toNat nx.toNat) - 6).toNat
    refine x_iload C dL_step_253 10 rfl ?_
    refine x_if_lt (tgt := 263) C dL_step_255 (by decide) (by omega) (fun c2 => ?_) (fun c2 => ?_)
    · skip
      refine x_iconst C dL_step_263 0 (by decide) ?_
      refine x_goto (tgt := 275) C dL_step_264 (by decide) ?_
      refine x_istore C (ls' := [(0, vI b), (1, vI inp), (2, vI ((al : Nat) : Int)), (3, vI o), (4, .ref qA), (5, .ref gA), (7, vI vv), (9, vI to), (12, vI w), (13, vI n), (14, vI nx), (16, vI 0)]) dL_step_275 (by decide) rfl ?_
      refine x_iload C dL_step_277 7 rfl ?_
      refine x_sipush C dL_step_279 128 (by decide) ?_
      refine x_iload C dL_step_282 11 rfl ?_
      refine x_iconst C dL_step_284 5 (by decide) ?_
      refine x_icmp_le (tgt := 299) C dL_step_285 (by decide) (by omega) (by omega) (fun c3 => ?_) (fun c3 => ?_)
      · skip
        refine x_iconst C dL_step_299 0 (by decide) ?_
        refine x_iload C dL_step_300 6 rfl ?_
        refine x_isub C dL_step_302 ?_
        refine x_imul C dL_step_303 ?_
        refine x_iadd C dL_step_304 ?_
        refine x_iret C G dL_step_305 ?_ (by decide) (by decide)
        first
          | (have hF9 := hL1.up (by decide) (by omega); exact ⟨svI (by rw [hF9]; show _ = c1 + 128 * (0 + 4) + 1024 * ((t1 : Nat) : Int) + 0; omega), rfl⟩)
          | (have hF9 := hL1.flat (by decide) (by omega) hc1.1 (fun z9 => by rw [show c1 + 12 = nx by omega] at z9; omega); exact ⟨svI (by rw [hF9]; show _ = c1 + 128 * (0 + 4) + 1024 * ((t1 : Nat) : Int) + 0; omega), rfl⟩)
          | (have hF9 := hL1.spr (by decide) (by omega) hc1.1 hf8 (by rw [show c1 + 12 = nx by omega]; omega); exact ⟨svI (by rw [hF9, show c1 + 12 = nx by omega]; have hq9 := hqS (by omega); rw [show (Int.toNat (gk g o.toNat nx.toNat - 4)) = (gk g o.toNat nx.toNat - 6).toNat + 2 by omega, ← hq9]; show _ = c1 + 128 * (- S (gk g o.toNat nx.toNat - 6).toNat + 4) + 1024 * ((t1 : Nat) : Int) + 0; omega), rfl⟩)
      · exfalso; omega
    · skip
      refine x_iload C dL_step_258 8 rfl ?_
      refine x_if_ge (tgt := 267) C dL_step_260 (by decide) (by omega) (fun c4 => ?_) (fun c4 => ?_)
      · skip
        refine x_aload C dL_step_267 5 rfl ?_
        refine x_iload_n C dL_step_269 3 rfl ?_
        refine x_iload C dL_step_270 10 rfl ?_
        refine x_callS C (n := 3) (As := [.ref gA, vI o, vI nx]) (rest := []) (c_L_get hg (by omega) (by omega)) gL_step_L_get (by decide +kernel) rfl rfl rfl (Nat.le_of_ble_eq_true rfl) ⟨by decide, by decide⟩ ⟨(by decide), (by decide)⟩ dL_step_272 (fun rv5 h6 hp7 => ?_)
        obtain ⟨rfl, e8⟩ := hp7
        obtain rfl := e8.symm
        refine x_istore C (ls' := [(0, vI b), (1, vI inp), (2, vI ((al : Nat) : Int)), (3, vI o), (4, .ref qA), (5, .ref gA), (7, vI vv), (9, vI to), (12, vI w), (13, vI n), (14, vI nx), (16, vI (gk g o.toNat nx.toNat))]) dL_step_275 (by decide) rfl ?_
        refine x_iload C dL_step_277 7 rfl ?_
        refine x_sipush C dL_step_279 128 (by decide) ?_
        refine x_iload C dL_step_282 11 rfl ?_
        refine x_iconst C dL_step_284 5 (by decide) ?_
        refine x_icmp_le (tgt := 299) C dL_step_285 (by decide) (by omega) (by omega) (fun c9 => ?_) (fun c9 => ?_)
        · skip
          refine x_iconst C dL_step_299 0 (by decide) ?_
          refine x_iload C dL_step_300 6 rfl ?_
          refine x_isub C dL_step_302 ?_
          refine x_imul C dL_step_303 ?_
          refine x_iadd C dL_step_304 ?_
          refine x_iret C G dL_step_305 ?_ (by decide) (by decide)
          first
            | (have hF9 := hL1.up (by decide) (by omega); exact ⟨svI (by rw [hF9]; show _ = c1 + 128 * (0 + 4) + 1024 * ((t1 : Nat) : Int) + 0; omega), rfl⟩)
            | (have hF9 := hL1.flat (by decide) (by omega) hc1.1 (fun z9 => by rw [show c1 + 12 = nx by omega] at z9; omega); exact ⟨svI (by rw [hF9]; show _ = c1 + 128 * (0 + 4) + 1024 * ((t1 : Nat) : Int) + 0; omega), rfl⟩)
            | (have hF9 := hL1.spr (by decide) (by omega) hc1.1 hf8 (by rw [show c1 + 12 = nx by omega]; omega); exact ⟨svI (by rw [hF9, show c1 + 12 = nx by omega]; have hq9 := hqS (by omega); rw [show (Int.toNat (gk g o.toNat nx.toNat - 4)) = (gk g o.toNat nx.toNat - 6).toNat + 2 by omega, ← hq9]; show _ = c1 + 128 * (- S (gk g o.toNat nx.toNat - 6).toNat + 4) + 1024 * ((t1 : Nat) : Int) + 0; omega), rfl⟩)
        · skip
          refine x_aload C dL_step_288 4 rfl ?_
          refine x_iload C dL_step_290 11 rfl ?_
          refine x_iconst C dL_step_292 4 (by decide) ?_
          refine x_isub C dL_step_293 ?_
          refine x_iald C hq ⟨by omega, by omega⟩ (by decide) dL_step_294 ?_
          refine x_ineg C dL_step_295 ?_
          refine x_goto (tgt := 300) C dL_step_296 (by decide) ?_
          refine x_iload C dL_step_300 6 rfl ?_
          refine x_isub C dL_step_302 ?_
          refine x_imul C dL_step_303 ?_
          refine x_iadd C dL_step_304 ?_
          refine x_iret C G dL_step_305 ?_ (by decide) (by decide)
          first
            | (have hF9 := hL1.up (by decide) (by omega); exact ⟨svI (by rw [hF9]; show _ = c1 + 128 * (0 + 4) + 1024 * ((t1 : Nat) : Int) + 0; omega), rfl⟩)
            | (have hF9 := hL1.flat (by decide) (by omega) hc1.1 (fun z9 => by rw [show c1 + 12 = nx by omega] at z9; omega); exact ⟨svI (by rw [hF9]; show _ = c1 + 128 * (0 + 4) + 1024 * ((t1 : Nat) : Int) + 0; omega), rfl⟩)
            | (have hF9 := hL1.spr (by decide) (by omega) hc1.1 hf8 (by rw [show c1 + 12 = nx by omega]; omega); exact ⟨svI (by rw [hF9, show c1 + 12 = nx by omega]; have hq9 := hqS (by omega); rw [show (Int.toNat (gk g o.toNat nx.toNat - 4)) = (gk g o.toNat nx.toNat - 6).toNat + 2 by omega, ← hq9]; show _ = c1 + 128 * (- S (gk g o.toNat nx.toNat - 6).toNat + 4) + 1024 * ((t1 : Nat) : Int) + 0; omega), rfl⟩)
      · skip
        refine x_iconst C dL_step_263 0 (by decide) ?_
        refine x_goto (tgt := 275) C dL_step_264 (by decide) ?_
        refine x_istore C (ls' := [(0, vI b), (1, vI inp), (2, vI ((al : Nat) : Int)), (3, vI o), (4, .ref qA), (5, .ref gA), (7, vI vv), (9, vI to), (12, vI w), (13, vI n), (14, vI nx), (16, vI 0)]) dL_step_275 (by decide) rfl ?_
        refine x_iload C dL_step_277 7 rfl ?_
        refine x_sipush C dL_step_279 128 (by decide) ?_
        refine x_iload C dL_step_282 11 rfl ?_
        refine x_iconst C dL_step_284 5 (by decide) ?_
        refine x_icmp_le (tgt := 299) C dL_step_285 (by decide) (by omega) (by omega) (fun c10 => ?_) (fun c10 => ?_)
        · skip
          refine x_iconst C dL_step_299 0 (by decide) ?_
          refine x_iload C dL_step_300 6 rfl ?_
          refine x_isub C dL_step_302 ?_
          refine x_imul C dL_step_303 ?_
          refine x_iadd C dL_step_304 ?_
          refine x_iret C G dL_step_305 ?_ (by decide) (by decide)
          first
            | (have hF9 := hL1.up (by decide) (by omega); exact ⟨svI (by rw [hF9]; show _ = c1 + 128 * (0 + 4) + 1024 * ((t1 : Nat) : Int) + 0; omega), rfl⟩)
            | (have hF9 := hL1.flat (by decide) (by omega) hc1.1 (fun z9 => by rw [show c1 + 12 = nx by omega] at z9; omega); exact ⟨svI (by rw [hF9]; show _ = c1 + 128 * (0 + 4) + 1024 * ((t1 : Nat) : Int) + 0; omega), rfl⟩)
            | (have hF9 := hL1.spr (by decide) (by omega) hc1.1 hf8 (by rw [show c1 + 12 = nx by omega]; omega); exact ⟨svI (by rw [hF9, show c1 + 12 = nx by omega]; have hq9 := hqS (by omega); rw [show (Int.toNat (gk g o.toNat nx.toNat - 4)) = (gk g o.toNat nx.toNat - 6).toNat + 2 by omega, ← hq9]; show _ = c1 + 128 * (- S (gk g o.toNat nx.toNat - 6).toNat + 4) + 1024 * ((t1 : Nat) : Int) + 0; omega), rfl⟩)
        · exfalso; omega
  have LP : ∀ (N : Nat) (vv w n to c1 s1 kk : Int) (t1 : Nat)   (hvv : -4 ≤ vv ∧ vv ≤ 3) (hw : (vv < 0 ∧ w = -12) ∨ (0 ≤ vv ∧ w = 12)) (hn : 0 ≤ n ∧ n < N ∧ n ≤ 100) (hL : LVI (mv (gk g o.toNat) (kbr (gk g o.toNat) (fun _ => 0)) al S inp c v t) (gk g o.toNat) (kbr (gk g o.toNat) (fun _ => 0)) al S w vv n.toNat c1 t1 s1 0) (hto : to = c1 + 128 * (vv + 4) + 1024 * ((t1 : Nat) : Int) + kk) (hk3 : (s1 = 1 ∧ kk = 0) ∨ (s1 = 2 ∧ kk = 16384) ∨ (s1 = 3 ∧ kk = 32768)) (hc1 : 0 ≤ c1 ∧ c1 ≤ 95) (ht1 : t1 < 8), X κ 0 0 h [(0, vI b), (1, vI inp), (2, vI ((al : Nat) : Int)), (3, vI o), (4, .ref qA), (5, .ref gA), (7, vI vv), (9, vI to), (12, vI w), (13, vI n)] 186 [] := by
    intro N
    induction N with
    | zero => intro vv w n to c1 s1 kk t1 hvv hw hn hL hto hk3 hc1 ht1; exfalso; omega
    | succ N ihLP =>
      intro vv w n to c1 s1 kk t1 hvv hw hn hL hto hk3 hc1 ht1
      refine x_iload C dL_step_186 9 rfl ?_
      refine x_if_le (tgt := 326) C dL_step_188 (by decide) (by omega) (fun c12 => ?_) (fun c12 => ?_)
      · skip
        refine x_iload C dL_step_326 7 rfl ?_
        refine x_sipush C dL_step_328 16384 (by decide) ?_
        refine x_icmp_ge (tgt := 340) C dL_step_331 (by decide) (by omega) (by omega) (fun c13 => ?_) (fun c13 => ?_)
        · skip
          refine x_iload C dL_step_340 7 rfl ?_
          refine x_goto (tgt := 351) C dL_step_342 (by decide) ?_
          refine x_iret C G dL_step_351 ?_ (by decide) (by decide)
          first
            | (exfalso; omega)
            | (have hF9 := hL.lost (by omega); exact ⟨svI (by rw [hF9]; show _ = c1 + 128 * (vv + 4) + 1024 * ((t1 : Nat) : Int) + stK s1; rw [stK_of hk3]; omega), rfl⟩)
            | (have hs9 : s1 = 1 := by omega
               subst hs9
               have hF9 := hL.fin rfl rfl (by omega)
               exact ⟨svI (by rw [hF9]; show _ = c1 + 128 * ((if vv < 3 then vv + 1 else 3) + 4) + 1024 * ((t1 : Nat) : Int) + 0; split <;> omega), rfl⟩)
        · skip
          refine x_iload C dL_step_334 6 rfl ?_
          refine x_iconst C dL_step_336 3 (by decide) ?_
          refine x_icmp_ne (tgt := 345) C dL_step_337 (by decide) (by omega) (by omega) (fun c14 => ?_) (fun c14 => ?_)
          · skip
            refine x_iload C dL_step_345 7 rfl ?_
            refine x_sipush C dL_step_347 128 (by decide) ?_
            refine x_iadd C dL_step_350 ?_
            refine x_iret C G dL_step_351 ?_ (by decide) (by decide)
            first
              | (exfalso; omega)
              | (have hF9 := hL.lost (by omega); exact ⟨svI (by rw [hF9]; show _ = c1 + 128 * (vv + 4) + 1024 * ((t1 : Nat) : Int) + stK s1; rw [stK_of hk3]; omega), rfl⟩)
              | (have hs9 : s1 = 1 := by omega
                 subst hs9
                 have hF9 := hL.fin rfl rfl (by omega)
                 exact ⟨svI (by rw [hF9]; show _ = c1 + 128 * ((if vv < 3 then vv + 1 else 3) + 4) + 1024 * ((t1 : Nat) : Int) + 0; split <;> omega), rfl⟩)
          · skip
            refine x_iload C dL_step_340 7 rfl ?_
            refine x_goto (tgt := 351) C dL_step_342 (by decide) ?_
            refine x_iret C G dL_step_351 ?_ (by decide) (by decide)
            first
              | (exfalso; omega)
              | (have hF9 := hL.lost (by omega); exact ⟨svI (by rw [hF9]; show _ = c1 + 128 * (vv + 4) + 1024 * ((t1 : Nat) : Int) + stK s1; rw [stK_of hk3]; omega), rfl⟩)
              | (have hs9 : s1 = 1 := by omega
                 subst hs9
                 have hF9 := hL.fin rfl rfl (by omega)
                 exact ⟨svI (by rw [hF9]; show _ = c1 + 128 * ((if vv < 3 then vv + 1 else 3) + 4) + 1024 * ((t1 : Nat) : Int) + 0; split <;> omega), rfl⟩)
      · skip
        refine x_iload C dL_step_191 7 rfl ?_
        refine x_sipush C dL_step_193 16384 (by decide) ?_
        refine x_icmp_ge (tgt := 326) C dL_step_196 (by decide) (by omega) (by omega) (fun c15 => ?_) (fun c15 => ?_)
        · skip
          refine x_iload C dL_step_326 7 rfl ?_
          refine x_sipush C dL_step_328 16384 (by decide) ?_
          refine x_icmp_ge (tgt := 340) C dL_step_331 (by decide) (by omega) (by omega) (fun c16 => ?_) (fun c16 => ?_)
          · skip
            refine x_iload C dL_step_340 7 rfl ?_
            refine x_goto (tgt := 351) C dL_step_342 (by decide) ?_
            refine x_iret C G dL_step_351 ?_ (by decide) (by decide)
            first
              | (exfalso; omega)
              | (have hF9 := hL.lost (by omega); exact ⟨svI (by rw [hF9]; show _ = c1 + 128 * (vv + 4) + 1024 * ((t1 : Nat) : Int) + stK s1; rw [stK_of hk3]; omega), rfl⟩)
              | (have hs9 : s1 = 1 := by omega
                 subst hs9
                 have hF9 := hL.fin rfl rfl (by omega)
                 exact ⟨svI (by rw [hF9]; show _ = c1 + 128 * ((if vv < 3 then vv + 1 else 3) + 4) + 1024 * ((t1 : Nat) : Int) + 0; split <;> omega), rfl⟩)
          · skip
            refine x_iload C dL_step_334 6 rfl ?_
            refine x_iconst C dL_step_336 3 (by decide) ?_
            refine x_icmp_ne (tgt := 345) C dL_step_337 (by decide) (by omega) (by omega) (fun c17 => ?_) (fun c17 => ?_)
            · skip
              refine x_iload C dL_step_345 7 rfl ?_
              refine x_sipush C dL_step_347 128 (by decide) ?_
              refine x_iadd C dL_step_350 ?_
              refine x_iret C G dL_step_351 ?_ (by decide) (by decide)
              first
                | (exfalso; omega)
                | (have hF9 := hL.lost (by omega); exact ⟨svI (by rw [hF9]; show _ = c1 + 128 * (vv + 4) + 1024 * ((t1 : Nat) : Int) + stK s1; rw [stK_of hk3]; omega), rfl⟩)
                | (have hs9 : s1 = 1 := by omega
                   subst hs9
                   have hF9 := hL.fin rfl rfl (by omega)
                   exact ⟨svI (by rw [hF9]; show _ = c1 + 128 * ((if vv < 3 then vv + 1 else 3) + 4) + 1024 * ((t1 : Nat) : Int) + 0; split <;> omega), rfl⟩)
            · skip
              refine x_iload C dL_step_340 7 rfl ?_
              refine x_goto (tgt := 351) C dL_step_342 (by decide) ?_
              refine x_iret C G dL_step_351 ?_ (by decide) (by decide)
              first
                | (exfalso; omega)
                | (have hF9 := hL.lost (by omega); exact ⟨svI (by rw [hF9]; show _ = c1 + 128 * (vv + 4) + 1024 * ((t1 : Nat) : Int) + stK s1; rw [stK_of hk3]; omega), rfl⟩)
                | (have hs9 : s1 = 1 := by omega
                   subst hs9
                   have hF9 := hL.fin rfl rfl (by omega)
                   exact ⟨svI (by rw [hF9]; show _ = c1 + 128 * ((if vv < 3 then vv + 1 else 3) + 4) + 1024 * ((t1 : Nat) : Int) + 0; split <;> omega), rfl⟩)
        · skip
          refine x_iload C dL_step_199 7 rfl ?_
          refine x_sipush C dL_step_201 128 (by decide) ?_
          refine x_irem C dL_step_204 (by omega) (by omega) (by omega) (by omega) ?_
          refine x_topv (show to % 128 = c1 from by omega) ?_
          refine x_iload C dL_step_205 8 rfl ?_
          refine x_iadd C dL_step_207 ?_
          refine x_istore C (ls' := [(0, vI b), (1, vI inp), (2, vI ((al : Nat) : Int)), (3, vI o), (4, .ref qA), (5, .ref gA), (7, vI vv), (9, vI to), (12, vI w), (13, vI n), (14, vI (c1 + w))]) dL_step_208 (by decide) rfl ?_
          refine x_iload C dL_step_210 7 rfl ?_
          refine x_sipush C dL_step_212 1024 (by decide) ?_
          refine x_idiv C dL_step_215 (by omega) (by omega) (by omega) (by omega) ?_
          refine x_bipush C dL_step_216 8 (by decide) ?_
          refine x_irem C dL_step_218 (by omega) (by omega) (by omega) (by omega) ?_
          refine x_topv (show (to / 1024) % 8 = ((t1 : Nat) : Int) from by omega) ?_
          refine x_istore C (ls' := [(0, vI b), (1, vI inp), (2, vI ((al : Nat) : Int)), (3, vI o), (4, .ref qA), (5, .ref gA), (7, vI vv), (9, vI to), (12, vI w), (13, vI n), (14, vI (c1 + w)), (15, vI ((t1 : Nat) : Int))]) dL_step_219 (by decide) rfl ?_
          refine x_iload C dL_step_221 10 rfl ?_
          refine x_bipush C dL_step_223 95 (by decide) ?_
          refine x_icmp_le (tgt := 234) C dL_step_225 (by decide) (by omega) (by omega) (fun c18 => ?_) (fun c18 => ?_)
          · skip
            refine x_iload C dL_step_234 10 rfl ?_
            refine x_if_lt (tgt := 253) C dL_step_236 (by decide) (by omega) (fun c19 => ?_) (fun c19 => ?_)
            · skip
              refine x_sub [0, 1, 2, 3, 4, 5, 6, 7, 8, 9, 10] (ls' := [(0, vI b), (1, vI inp), (2, vI ((al : Nat) : Int)), (3, vI o), (4, .ref qA), (5, .ref gA), (7, vI vv), (9, vI to), (12, vI w), (13, vI n), (14, vI (c1 + w))]) rfl ?_
              exact CD vv w n to c1 s1 kk (c1 + w) t1 (by omega) (by omega) (by omega) (by first | exact Or.inl (by omega) | exact hs250) (by omega) (by omega) (hL) (by omega) (hk3) (by omega) (by omega)
            · skip
              refine x_iload C dL_step_239 10 rfl ?_
              refine x_iload C dL_step_241 11 rfl ?_
              refine x_iload_n C dL_step_243 2 rfl ?_
              refine x_iload_n C dL_step_244 3 rfl ?_
              refine x_aload C dL_step_245 5 rfl ?_
              refine x_callS C (n := 5) (As := [vI (c1 + w), vI ((t1 : Nat) : Int), vI ((al : Nat) : Int), vI o, .ref gA]) (rest := []) (c_L_solid hg (by omega) (by omega) (by omega) (by omega)) gL_step_L_solid (by decide +kernel) rfl rfl rfl (Nat.le_of_ble_eq_true rfl) ⟨by decide, by decide⟩ ⟨(by decide), (by decide)⟩ dL_step_247 (fun rv20 h21 hp22 => ?_)
              obtain ⟨rfl, e23⟩ := hp22
              obtain rfl := e23.symm
              have hb247 := bI_r (sol (gk g o.toNat) al t1 (c1 + w))
              refine x_if_eq (tgt := 306) C dL_step_250 (by decide) (by omega) (fun c24 => ?_) (fun c24 => ?_)
              · skip
                have hs250 := bI_0 c24
                refine x_iload C dL_step_306 10 rfl ?_
                refine x_iload C dL_step_308 6 rfl ?_
                refine x_iload C dL_step_310 11 rfl ?_
                refine x_iload_n C dL_step_312 3 rfl ?_
                refine x_aload C dL_step_313 5 rfl ?_
                refine x_callS C (n := 5) (As := [vI (c1 + w), vI vv, vI ((t1 : Nat) : Int), vI o, .ref gA]) (rest := []) (c_L_comes hg (by omega) (by omega) (by omega) (by omega) (by omega)) gL_step_L_comes (by decide +kernel) rfl rfl rfl (Nat.le_of_ble_eq_true rfl) ⟨by decide, by decide⟩ ⟨(by decide), (by decide)⟩ dL_step_315 (fun rv25 h26 hp27 => ?_)
                obtain ⟨rfl, e28⟩ := hp27
                obtain rfl := e28.symm
                refine x_istore C (ls' := [(0, vI b), (1, vI inp), (2, vI ((al : Nat) : Int)), (3, vI o), (4, .ref qA), (5, .ref gA), (7, vI vv), (9, vI ((c1 + w) + 128 * (vv + 4) + 1024 * ((t1 ||| kbr (gk g o.toNat) (fun _ => 0) (c1 + w) : Nat) : Int) + (if gk g o.toNat (c1 + w).toNat = 4 then 32768 else if gk g o.toNat (c1 + w).toNat = 5 then 16384 else 0))), (12, vI w), (13, vI n), (14, vI (c1 + w)), (15, vI ((t1 : Nat) : Int))]) dL_step_318 (by decide) rfl ?_
                refine x_iinc C (x := n) (ls' := [(0, vI b), (1, vI inp), (2, vI ((al : Nat) : Int)), (3, vI o), (4, .ref qA), (5, .ref gA), (7, vI vv), (9, vI ((c1 + w) + 128 * (vv + 4) + 1024 * ((t1 ||| kbr (gk g o.toNat) (fun _ => 0) (c1 + w) : Nat) : Int) + (if gk g o.toNat (c1 + w).toNat = 4 then 32768 else if gk g o.toNat (c1 + w).toNat = 5 then 16384 else 0))), (12, vI w), (13, vI (n + (-1))), (14, vI (c1 + w)), (15, vI ((t1 : Nat) : Int))]) dL_step_320 9 rfl (by decide) rfl ?_
                refine x_goto (tgt := 186) C dL_step_323 (by decide) ?_
                refine x_sub [0, 1, 2, 3, 4, 5, 6, 7, 8, 9] (ls' := [(0, vI b), (1, vI inp), (2, vI ((al : Nat) : Int)), (3, vI o), (4, .ref qA), (5, .ref gA), (7, vI vv), (9, vI ((c1 + w) + 128 * (vv + 4) + 1024 * ((t1 ||| kbr (gk g o.toNat) (fun _ => 0) (c1 + w) : Nat) : Int) + (if gk g o.toNat (c1 + w).toNat = 4 then 32768 else if gk g o.toNat (c1 + w).toNat = 5 then 16384 else 0))), (12, vI w), (13, vI (n + (-1)))]) rfl ?_
                obtain rfl : s1 = 1 := by omega
                have hM9 := hL.move rfl rfl (by omega) hs250
                rw [cm_in ⟨sol_lo hs250, by omega⟩] at hM9
                exact ihLP vv w (n + (-1)) ((c1 + w) + 128 * (vv + 4) + 1024 * ((t1 ||| kbr (gk g o.toNat) (fun _ => 0) (c1 + w) : Nat) : Int) + (if gk g o.toNat (c1 + w).toNat = 4 then 32768 else if gk g o.toNat (c1 + w).toNat = 5 then 16384 else 0)) ((c1 + w)) ((if gk g o.toNat (c1 + w).toNat = 4 then 3 else if gk g o.toNat (c1 + w).toNat = 5 then 2 else 1)) ((if gk g o.toNat (c1 + w).toNat = 4 then 32768 else if gk g o.toNat (c1 + w).toNat = 5 then 16384 else 0)) ((t1 ||| (kbr (gk g o.toNat) (fun _ => 0)) (c1 + w))) (by omega) (by omega) (by omega) (by rw [show (n + (-1)).toNat = n.toNat - 1 by omega]; exact hM9) (rfl) (stK_if) (⟨sol_lo hs250, by omega⟩) (or8 ht1 (kbr_8 hA _))
              · skip
                have hs250 := bI_ne.mp c24
                refine x_sub [0, 1, 2, 3, 4, 5, 6, 7, 8, 9, 10] (ls' := [(0, vI b), (1, vI inp), (2, vI ((al : Nat) : Int)), (3, vI o), (4, .ref qA), (5, .ref gA), (7, vI vv), (9, vI to), (12, vI w), (13, vI n), (14, vI (c1 + w))]) rfl ?_
                exact CD vv w n to c1 s1 kk (c1 + w) t1 (by omega) (by omega) (by omega) (by first | exact Or.inl (by omega) | exact hs250) (by omega) (by omega) (hL) (by omega) (hk3) (by omega) (by omega)
          · skip
            refine x_iload C dL_step_228 7 rfl ?_
            refine x_ldcI C (z := 32768) (by decide) kL_step_0 dL_step_230 ?_
            refine x_iadd C dL_step_232 ?_
            refine x_iret C G dL_step_233 ?_ (by decide) (by decide)
            have hs9 : s1 = 1 := by omega
            subst hs9
            have hM9 := hL.move rfl rfl (by omega) (sol_out (by omega))
            rw [cm_out (fun z9 => by omega)] at hM9
            have hF9 := hM9.lost (show (3 : Int) ≠ 1 by decide)
            exact ⟨svI (by rw [hF9]; show _ = c1 + 128 * (vv + 4) + 1024 * ((t1 : Nat) : Int) + 32768; omega), rfl⟩
  have CC : ∀ (vv w to c1 s1 kk : Int) (t1 : Nat)   (hsv : vv = sv (gk g o.toNat) al inp c v t) (hvv : -4 ≤ vv ∧ vv ≤ 3) (hsd : sd (gk g o.toNat) (kbr (gk g o.toNat) (fun _ => 0)) al (inp % 3 - 1) (c, t, 1) = (c1, t1, s1)) (hto : to = c1 + 128 * (vv + 4) + 1024 * ((t1 : Nat) : Int) + kk) (hk3 : (s1 = 1 ∧ kk = 0) ∨ (s1 = 2 ∧ kk = 16384) ∨ (s1 = 3 ∧ kk = 32768)) (hc1 : 0 ≤ c1 ∧ c1 ≤ 95) (ht1 : t1 < 8) (hw : (vv < 0 ∧ w = -12) ∨ (0 ≤ vv ∧ w = 12)), X κ 0 0 h [(0, vI b), (1, vI inp), (2, vI ((al : Nat) : Int)), (3, vI o), (4, .ref qA), (5, .ref gA), (7, vI vv), (9, vI to), (12, vI w)] 171 [] := by
    intro vv w to c1 s1 kk t1 hsv hvv hsd hto hk3 hc1 ht1 hw
    refine x_iload C dL_step_171 6 rfl ?_
    refine x_if_ge (tgt := 182) C dL_step_173 (by decide) (by omega) (fun c30 => ?_) (fun c30 => ?_)
    · skip
      refine x_iload C dL_step_182 6 rfl ?_
      refine x_istore C (ls' := [(0, vI b), (1, vI inp), (2, vI ((al : Nat) : Int)), (3, vI o), (4, .ref qA), (5, .ref gA), (7, vI vv), (9, vI to), (12, vI w), (13, vI vv)]) dL_step_184 (by decide) rfl ?_
      exact LP (10) vv w vv to c1 s1 kk t1 (by omega) (hw) (by omega) (by first | (have e9 := vab_p (v := vv) (by omega); have e8 := LVI_i (S := S) hsd hsv hw; rw [e9] at e8; exact e8) | (have e9 := vab_n (v := vv) (by omega); have e8 := LVI_i (S := S) hsd hsv hw; rw [e9] at e8; exact e8)) (by omega) (hk3) (by omega) (by omega)
    · skip
      refine x_iload C dL_step_176 6 rfl ?_
      refine x_ineg C dL_step_178 ?_
      refine x_goto (tgt := 184) C dL_step_179 (by decide) ?_
      refine x_istore C (ls' := [(0, vI b), (1, vI inp), (2, vI ((al : Nat) : Int)), (3, vI o), (4, .ref qA), (5, .ref gA), (7, vI vv), (9, vI to), (12, vI w), (13, vI (-vv))]) dL_step_184 (by decide) rfl ?_
      exact LP (10) vv w (-vv) to c1 s1 kk t1 (by omega) (hw) (by omega) (by first | (have e9 := vab_p (v := vv) (by omega); have e8 := LVI_i (S := S) hsd hsv hw; rw [e9] at e8; exact e8) | (have e9 := vab_n (v := vv) (by omega); have e8 := LVI_i (S := S) hsd hsv hw; rw [e9] at e8; exact e8)) (by omega) (hk3) (by omega) (by omega)
  have CB : ∀ (vv to c1 s1 kk : Int) (t1 : Nat)   (hsv : vv = sv (gk g o.toNat) al inp c v t) (hvv : -4 ≤ vv ∧ vv ≤ 3) (hsd : sd (gk g o.toNat) (kbr (gk g o.toNat) (fun _ => 0)) al (inp % 3 - 1) (c, t, 1) = (c1, t1, s1)) (hto : to = c1 + 128 * (vv + 4) + 1024 * ((t1 : Nat) : Int) + kk) (hk3 : (s1 = 1 ∧ kk = 0) ∨ (s1 = 2 ∧ kk = 16384) ∨ (s1 = 3 ∧ kk = 32768)) (hc1 : 0 ≤ c1 ∧ c1 ≤ 95) (ht1 : t1 < 8), X κ 0 0 h [(0, vI b), (1, vI inp), (2, vI ((al : Nat) : Int)), (3, vI o), (4, .ref qA), (5, .ref gA), (7, vI vv), (9, vI to)] 157 [] := by
    intro vv to c1 s1 kk t1 hsv hvv hsd hto hk3 hc1 ht1
    refine x_iload C dL_step_157 6 rfl ?_
    refine x_if_ge (tgt := 167) C dL_step_159 (by decide) (by omega) (fun c32 => ?_) (fun c32 => ?_)
    · skip
      refine x_bipush C dL_step_167 12 (by decide) ?_
      refine x_istore C (ls' := [(0, vI b), (1, vI inp), (2, vI ((al : Nat) : Int)), (3, vI o), (4, .ref qA), (5, .ref gA), (7, vI vv), (9, vI to), (12, vI 12)]) dL_step_169 (by decide) rfl ?_
      exact CC vv 12 to c1 s1 kk t1 (hsv) (by omega) (hsd) (by omega) (hk3) (by omega) (by omega) (by omega)
    · skip
      refine x_bipush C dL_step_162 (-12) (by decide) ?_
      refine x_goto (tgt := 169) C dL_step_164 (by decide) ?_
      refine x_istore C (ls' := [(0, vI b), (1, vI inp), (2, vI ((al : Nat) : Int)), (3, vI o), (4, .ref qA), (5, .ref gA), (7, vI vv), (9, vI to), (12, vI (-12))]) dL_step_169 (by decide) rfl ?_
      exact CC vv ((-12)) to c1 s1 kk t1 (hsv) (by omega) (hsd) (by omega) (hk3) (by omega) (by omega) (by omega)
  have CA : ∀ (vv : Int)   (hsv : vv = sv (gk g o.toNat) al inp c v t) (hvv : -4 ≤ vv ∧ vv ≤ 3), X κ 0 0 h [(0, vI b), (1, vI inp), (2, vI ((al : Nat) : Int)), (3, vI o), (4, .ref qA), (5, .ref gA), (6, vI c), (7, vI vv), (8, vI ((t : Nat) : Int))] 71 [] := by
    intro vv hsv hvv
    obtain ⟨k9, hk9, hk8⟩ := if45 (gk g o.toNat c.toNat)
    refine x_iload C dL_step_71 6 rfl ?_
    refine x_iload C dL_step_73 7 rfl ?_
    refine x_iload C dL_step_75 8 rfl ?_
    refine x_iload_n C dL_step_77 3 rfl ?_
    refine x_aload C dL_step_78 5 rfl ?_
    refine x_callS C (n := 5) (As := [vI c, vI vv, vI ((t : Nat) : Int), vI o, .ref gA]) (rest := []) (c_L_comes hg (by omega) (by omega) (by omega) (by omega) (by omega)) gL_step_L_comes (by decide +kernel) rfl rfl rfl (Nat.le_of_ble_eq_true rfl) ⟨by decide, by decide⟩ ⟨(by decide), (by decide)⟩ dL_step_80 (fun rv34 h35 hp36 => ?_)
    obtain ⟨rfl, e37⟩ := hp36
    obtain rfl := e37.symm
    refine x_topv (show c + 128 * (vv + 4) + 1024 * ((t ||| kbr (gk g o.toNat) (fun _ => 0) c : Nat) : Int) + (if gk g o.toNat c.toNat = 4 then 32768 else if gk g o.toNat c.toNat = 5 then 16384 else 0) = c + 128 * (vv + 4) + 1024 * ((t : Nat) : Int) + k9 from by rw [hgd, hk9]) ?_
    refine x_sipush C dL_step_83 16384 (by decide) ?_
    refine x_irem C dL_step_86 (by omega) (by omega) (by omega) (by omega) ?_
    refine x_topv (show (c + 128 * (vv + 4) + 1024 * ((t : Nat) : Int) + k9) % 16384 = c + 128 * (vv + 4) + 1024 * ((t : Nat) : Int) from by omega) ?_
    refine x_istore C (ls' := [(0, vI b), (1, vI inp), (2, vI ((al : Nat) : Int)), (3, vI o), (4, .ref qA), (5, .ref gA), (6, vI c), (7, vI vv), (8, vI ((t : Nat) : Int)), (9, vI (c + 128 * (vv + 4) + 1024 * ((t : Nat) : Int)))]) dL_step_87 (by decide) rfl ?_
    refine x_iload_n C dL_step_89 1 rfl ?_
    refine x_iconst C dL_step_90 3 (by decide) ?_
    refine x_irem C dL_step_91 (by omega) (by omega) (by omega) (by omega) ?_
    refine x_iconst C dL_step_92 1 (by decide) ?_
    refine x_isub C dL_step_93 ?_
    refine x_istore C (ls' := [(0, vI b), (1, vI inp), (2, vI ((al : Nat) : Int)), (3, vI o), (4, .ref qA), (5, .ref gA), (6, vI c), (7, vI vv), (8, vI ((t : Nat) : Int)), (9, vI (c + 128 * (vv + 4) + 1024 * ((t : Nat) : Int))), (10, vI ((inp % 3) - 1))]) dL_step_94 (by decide) rfl ?_
    refine x_iload C dL_step_96 6 rfl ?_
    refine x_bipush C dL_step_98 12 (by decide) ?_
    refine x_irem C dL_step_100 (by omega) (by omega) (by omega) (by omega) ?_
    refine x_iload C dL_step_101 10 rfl ?_
    refine x_iadd C dL_step_103 ?_
    refine x_istore C (ls' := [(0, vI b), (1, vI inp), (2, vI ((al : Nat) : Int)), (3, vI o), (4, .ref qA), (5, .ref gA), (6, vI c), (7, vI vv), (8, vI ((t : Nat) : Int)), (9, vI (c + 128 * (vv + 4) + 1024 * ((t : Nat) : Int))), (10, vI ((inp % 3) - 1)), (11, vI ((c % 12) + ((inp % 3) - 1)))]) dL_step_104 (by decide) rfl ?_
    refine x_iload C dL_step_106 10 rfl ?_
    refine x_if_eq (tgt := 157) C dL_step_108 (by decide) (by omega) (fun c38 => ?_) (fun c38 => ?_)
    · skip
      refine x_sub [0, 1, 2, 3, 4, 5, 7, 9] (ls' := [(0, vI b), (1, vI inp), (2, vI ((al : Nat) : Int)), (3, vI o), (4, .ref qA), (5, .ref gA), (7, vI vv), (9, vI (c + 128 * (vv + 4) + 1024 * ((t : Nat) : Int)))]) rfl ?_
      exact CB vv (c + 128 * (vv + 4) + 1024 * ((t : Nat) : Int)) c 1 0 t (hsv) (by omega) (sd_no (by first | exact Or.inl (by omega) | exact Or.inr (Or.inl (by dsimp only; omega)) | exact Or.inr (Or.inr (Or.inl (by dsimp only; omega))) | exact Or.inr (Or.inr (Or.inr hs137)))) (by omega) (Or.inl ⟨rfl, rfl⟩) (by omega) (by omega)
    · skip
      refine x_iload C dL_step_111 11 rfl ?_
      refine x_if_lt (tgt := 157) C dL_step_113 (by decide) (by omega) (fun c39 => ?_) (fun c39 => ?_)
      · skip
        refine x_sub [0, 1, 2, 3, 4, 5, 7, 9] (ls' := [(0, vI b), (1, vI inp), (2, vI ((al : Nat) : Int)), (3, vI o), (4, .ref qA), (5, .ref gA), (7, vI vv), (9, vI (c + 128 * (vv + 4) + 1024 * ((t : Nat) : Int)))]) rfl ?_
        exact CB vv (c + 128 * (vv + 4) + 1024 * ((t : Nat) : Int)) c 1 0 t (hsv) (by omega) (sd_no (by first | exact Or.inl (by omega) | exact Or.inr (Or.inl (by dsimp only; omega)) | exact Or.inr (Or.inr (Or.inl (by dsimp only; omega))) | exact Or.inr (Or.inr (Or.inr hs137)))) (by omega) (Or.inl ⟨rfl, rfl⟩) (by omega) (by omega)
      · skip
        refine x_iload C dL_step_116 11 rfl ?_
        refine x_bipush C dL_step_118 12 (by decide) ?_
        refine x_icmp_ge (tgt := 157) C dL_step_120 (by decide) (by omega) (by omega) (fun c40 => ?_) (fun c40 => ?_)
        · skip
          refine x_sub [0, 1, 2, 3, 4, 5, 7, 9] (ls' := [(0, vI b), (1, vI inp), (2, vI ((al : Nat) : Int)), (3, vI o), (4, .ref qA), (5, .ref gA), (7, vI vv), (9, vI (c + 128 * (vv + 4) + 1024 * ((t : Nat) : Int)))]) rfl ?_
          exact CB vv (c + 128 * (vv + 4) + 1024 * ((t : Nat) : Int)) c 1 0 t (hsv) (by omega) (sd_no (by first | exact Or.inl (by omega) | exact Or.inr (Or.inl (by dsimp only; omega)) | exact Or.inr (Or.inr (Or.inl (by dsimp only; omega))) | exact Or.inr (Or.inr (Or.inr hs137)))) (by omega) (Or.inl ⟨rfl, rfl⟩) (by omega) (by omega)
        · skip
          refine x_iload C dL_step_123 6 rfl ?_
          refine x_iload C dL_step_125 10 rfl ?_
          refine x_iadd C dL_step_127 ?_
          refine x_iload C dL_step_128 8 rfl ?_
          refine x_iload_n C dL_step_130 2 rfl ?_
          refine x_iload_n C dL_step_131 3 rfl ?_
          refine x_aload C dL_step_132 5 rfl ?_
          refine x_callS C (n := 5) (As := [vI (c + ((inp % 3) - 1)), vI ((t : Nat) : Int), vI ((al : Nat) : Int), vI o, .ref gA]) (rest := []) (c_L_solid hg (by omega) (by omega) (by omega) (by omega)) gL_step_L_solid (by decide +kernel) rfl rfl rfl (Nat.le_of_ble_eq_true rfl) ⟨by decide, by decide⟩ ⟨(by decide), (by decide)⟩ dL_step_134 (fun rv41 h42 hp43 => ?_)
          obtain ⟨rfl, e44⟩ := hp43
          obtain rfl := e44.symm
          have hb134 := bI_r (sol (gk g o.toNat) al t (c + (inp % 3 - 1)))
          refine x_if_ne (tgt := 157) C dL_step_137 (by decide) (by omega) (fun c45 => ?_) (fun c45 => ?_)
          · skip
            have hs137 := bI_ne.mp c45
            refine x_sub [0, 1, 2, 3, 4, 5, 7, 9] (ls' := [(0, vI b), (1, vI inp), (2, vI ((al : Nat) : Int)), (3, vI o), (4, .ref qA), (5, .ref gA), (7, vI vv), (9, vI (c + 128 * (vv + 4) + 1024 * ((t : Nat) : Int)))]) rfl ?_
            exact CB vv (c + 128 * (vv + 4) + 1024 * ((t : Nat) : Int)) c 1 0 t (hsv) (by omega) (sd_no (by first | exact Or.inl (by omega) | exact Or.inr (Or.inl (by dsimp only; omega)) | exact Or.inr (Or.inr (Or.inl (by dsimp only; omega))) | exact Or.inr (Or.inr (Or.inr hs137)))) (by omega) (Or.inl ⟨rfl, rfl⟩) (by omega) (by omega)
          · skip
            have hs137 := bI_0 c45
            refine x_iload C dL_step_140 6 rfl ?_
            refine x_iload C dL_step_142 10 rfl ?_
            refine x_iadd C dL_step_144 ?_
            refine x_iload C dL_step_145 7 rfl ?_
            refine x_iload C dL_step_147 8 rfl ?_
            refine x_iload_n C dL_step_149 3 rfl ?_
            refine x_aload C dL_step_150 5 rfl ?_
            refine x_callS C (n := 5) (As := [vI (c + ((inp % 3) - 1)), vI vv, vI ((t : Nat) : Int), vI o, .ref gA]) (rest := []) (c_L_comes hg (by omega) (by omega) (by omega) (by omega) (by omega)) gL_step_L_comes (by decide +kernel) rfl rfl rfl (Nat.le_of_ble_eq_true rfl) ⟨by decide, by decide⟩ ⟨(by decide), (by decide)⟩ dL_step_152 (fun rv46 h47 hp48 => ?_)
            obtain ⟨rfl, e49⟩ := hp48
            obtain rfl := e49.symm
            refine x_istore C (ls' := [(0, vI b), (1, vI inp), (2, vI ((al : Nat) : Int)), (3, vI o), (4, .ref qA), (5, .ref gA), (6, vI c), (7, vI vv), (8, vI ((t : Nat) : Int)), (9, vI ((c + ((inp % 3) - 1)) + 128 * (vv + 4) + 1024 * ((t ||| kbr (gk g o.toNat) (fun _ => 0) (c + ((inp % 3) - 1)) : Nat) : Int) + (if gk g o.toNat (c + ((inp % 3) - 1)).toNat = 4 then 32768 else if gk g o.toNat (c + ((inp % 3) - 1)).toNat = 5 then 16384 else 0))), (10, vI ((inp % 3) - 1)), (11, vI ((c % 12) + ((inp % 3) - 1)))]) dL_step_155 (by decide) rfl ?_
            refine x_sub [0, 1, 2, 3, 4, 5, 7, 9] (ls' := [(0, vI b), (1, vI inp), (2, vI ((al : Nat) : Int)), (3, vI o), (4, .ref qA), (5, .ref gA), (7, vI vv), (9, vI ((c + ((inp % 3) - 1)) + 128 * (vv + 4) + 1024 * ((t ||| kbr (gk g o.toNat) (fun _ => 0) (c + ((inp % 3) - 1)) : Nat) : Int) + (if gk g o.toNat (c + ((inp % 3) - 1)).toNat = 4 then 32768 else if gk g o.toNat (c + ((inp % 3) - 1)).toNat = 5 then 16384 else 0)))]) rfl ?_
            exact CB vv ((c + ((inp % 3) - 1)) + 128 * (vv + 4) + 1024 * ((t ||| kbr (gk g o.toNat) (fun _ => 0) (c + ((inp % 3) - 1)) : Nat) : Int) + (if gk g o.toNat (c + ((inp % 3) - 1)).toNat = 4 then 32768 else if gk g o.toNat (c + ((inp % 3) - 1)).toNat = 5 then 16384 else 0)) ((c + (inp % 3 - 1))) ((if gk g o.toNat (c + (inp % 3 - 1)).toNat = 4 then 3 else if gk g o.toNat (c + (inp % 3 - 1)).toNat = 5 then 2 else 1)) ((if gk g o.toNat (c + (inp % 3 - 1)).toNat = 4 then 32768 else if gk g o.toNat (c + (inp % 3 - 1)).toNat = 5 then 16384 else 0)) ((t ||| (kbr (gk g o.toNat) (fun _ => 0)) (c + (inp % 3 - 1)))) (hsv) (by omega) (sd_yes (by omega) (by omega) (by omega) (by omega) hs137) (rfl) (stK_if) (by omega) (or8 ht (kbr_8 hA _))
  refine x_iload_n C dL_step_0 0 rfl ?_
  refine x_sipush C dL_step_1 128 (by decide) ?_
  refine x_irem C dL_step_4 (by omega) (by omega) (by omega) (by omega) ?_
  refine x_topv (show b % 128 = c from by omega) ?_
  refine x_istore C (ls' := [(0, vI b), (1, vI inp), (2, vI ((al : Nat) : Int)), (3, vI o), (4, .ref qA), (5, .ref gA), (6, vI c)]) dL_step_5 (by decide) rfl ?_
  refine x_iload_n C dL_step_7 0 rfl ?_
  refine x_sipush C dL_step_8 128 (by decide) ?_
  refine x_idiv C dL_step_11 (by omega) (by omega) (by omega) (by omega) ?_
  refine x_bipush C dL_step_12 8 (by decide) ?_
  refine x_irem C dL_step_14 (by omega) (by omega) (by omega) (by omega) ?_
  refine x_iconst C dL_step_15 4 (by decide) ?_
  refine x_isub C dL_step_16 ?_
  refine x_topv (show ((b / 128) % 8) - 4 = v from by omega) ?_
  refine x_istore C (ls' := [(0, vI b), (1, vI inp), (2, vI ((al : Nat) : Int)), (3, vI o), (4, .ref qA), (5, .ref gA), (6, vI c), (7, vI v)]) dL_step_17 (by decide) rfl ?_
  refine x_iload_n C dL_step_19 0 rfl ?_
  refine x_sipush C dL_step_20 1024 (by decide) ?_
  refine x_idiv C dL_step_23 (by omega) (by omega) (by omega) (by omega) ?_
  refine x_bipush C dL_step_24 8 (by decide) ?_
  refine x_irem C dL_step_26 (by omega) (by omega) (by omega) (by omega) ?_
  refine x_topv (show (b / 1024) % 8 = ((t : Nat) : Int) from by omega) ?_
  refine x_istore C (ls' := [(0, vI b), (1, vI inp), (2, vI ((al : Nat) : Int)), (3, vI o), (4, .ref qA), (5, .ref gA), (6, vI c), (7, vI v), (8, vI ((t : Nat) : Int))]) dL_step_27 (by decide) rfl ?_
  refine x_iload C dL_step_29 7 rfl ?_
  refine x_if_lt (tgt := 71) C dL_step_31 (by decide) (by omega) (fun c50 => ?_) (fun c50 => ?_)
  · skip
    exact CA v (by first | rw [sv_no (Or.inl (by omega))] | rw [sv_no (Or.inr hs55)] | rw [sv_no (Or.inr (sol_out (by omega)))] | (rw [sv_yes (by omega) hs55]; split <;> omega)) (by omega)
  · skip
    refine x_iload C dL_step_34 6 rfl ?_
    refine x_bipush C dL_step_36 84 (by decide) ?_
    refine x_icmp_ge (tgt := 71) C dL_step_38 (by decide) (by omega) (by omega) (fun c51 => ?_) (fun c51 => ?_)
    · skip
      exact CA v (by first | rw [sv_no (Or.inl (by omega))] | rw [sv_no (Or.inr hs55)] | rw [sv_no (Or.inr (sol_out (by omega)))] | (rw [sv_yes (by omega) hs55]; split <;> omega)) (by omega)
    · skip
      refine x_iload C dL_step_41 6 rfl ?_
      refine x_bipush C dL_step_43 12 (by decide) ?_
      refine x_iadd C dL_step_45 ?_
      refine x_iload C dL_step_46 8 rfl ?_
      refine x_iload_n C dL_step_48 2 rfl ?_
      refine x_iload_n C dL_step_49 3 rfl ?_
      refine x_aload C dL_step_50 5 rfl ?_
      refine x_callS C (n := 5) (As := [vI (c + 12), vI ((t : Nat) : Int), vI ((al : Nat) : Int), vI o, .ref gA]) (rest := []) (c_L_solid hg (by omega) (by omega) (by omega) (by omega)) gL_step_L_solid (by decide +kernel) rfl rfl rfl (Nat.le_of_ble_eq_true rfl) ⟨by decide, by decide⟩ ⟨(by decide), (by decide)⟩ dL_step_52 (fun rv52 h53 hp54 => ?_)
      obtain ⟨rfl, e55⟩ := hp54
      obtain rfl := e55.symm
      have hb52 := bI_r (sol (gk g o.toNat) al t (c + 12))
      refine x_if_eq (tgt := 71) C dL_step_55 (by decide) (by omega) (fun c56 => ?_) (fun c56 => ?_)
      · skip
        have hs55 := bI_0 c56
        exact CA v (by first | rw [sv_no (Or.inl (by omega))] | rw [sv_no (Or.inr hs55)] | rw [sv_no (Or.inr (sol_out (by omega)))] | (rw [sv_yes (by omega) hs55]; split <;> omega)) (by omega)
      · skip
        have hs55 := bI_ne.mp c56
        refine x_iload_n C dL_step_58 1 rfl ?_
        refine x_iconst C dL_step_59 3 (by decide) ?_
        refine x_icmp_ge (tgt := 67) C dL_step_60 (by decide) (by omega) (by omega) (fun c57 => ?_) (fun c57 => ?_)
        · skip
          refine x_bipush C dL_step_67 (-2) (by decide) ?_
          refine x_istore C (ls' := [(0, vI b), (1, vI inp), (2, vI ((al : Nat) : Int)), (3, vI o), (4, .ref qA), (5, .ref gA), (6, vI c), (7, vI (-2)), (8, vI ((t : Nat) : Int))]) dL_step_69 (by decide) rfl ?_
          exact CA ((-2)) (by first | rw [sv_no (Or.inl (by omega))] | rw [sv_no (Or.inr hs55)] | rw [sv_no (Or.inr (sol_out (by omega)))] | (rw [sv_yes (by omega) hs55]; split <;> omega)) (by omega)
        · skip
          refine x_iconst C dL_step_63 0 (by decide) ?_
          refine x_goto (tgt := 69) C dL_step_64 (by decide) ?_
          refine x_istore C (ls' := [(0, vI b), (1, vI inp), (2, vI ((al : Nat) : Int)), (3, vI o), (4, .ref qA), (5, .ref gA), (6, vI c), (7, vI 0), (8, vI ((t : Nat) : Int))]) dL_step_69 (by decide) rfl ?_
          exact CA 0 (by first | rw [sv_no (Or.inl (by omega))] | rw [sv_no (Or.inr hs55)] | rw [sv_no (Or.inr (sol_out (by omega)))] | (rw [sv_yes (by omega) hs55]; split <;> omega)) (by omega)


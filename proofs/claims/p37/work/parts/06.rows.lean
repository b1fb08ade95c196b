section XR
variable {κ : KX} {own nm : String} {cc : ByteArray} {Ts : List Cond} {R' : Room} {D : va_G} {A : Nat → Prop} {nL n1 n2 : Nat} {h : vh} {ls : List (Nat × Value)} {pc : Nat} {st : List Value}
def setL : List (Nat × Value) → Nat → Value → List (Nat × Value)
  | [], i, v => [(i, v)]
  | q :: l, i, v => if q.1 == i then (i, v) :: l.filter (fun q => !(q.1 == i) && !(q.1 + 1 == i && q.2.category == 2)) else if q.1 + 1 == i && q.2.category == 2 then setL l i v else q :: setL l i v
theorem setL_mem {i : Nat} {v : Value} : ∀ (l : List (Nat × Value)) (q : Nat × Value), q ∈ setL l i v → q ∈ (i, v) :: l.filter (fun q => !(q.1 == i) && !(q.1 + 1 == i && q.2.category == 2))
  | [], q, hq => hq
  | r :: l, q, hq => by
    unfold setL at hq
    by_cases h1 : (r.1 == i) = true
    · rw [if_pos h1] at hq
      rcases List.mem_cons.mp hq with e | e
      · exact List.mem_cons.mpr (Or.inl e)
      · refine List.mem_cons_of_mem _ ?_
        rw [List.filter_cons_of_neg (by simp [h1])]
        exact e
    · rw [if_neg h1] at hq
      by_cases h2 : (r.1 + 1 == i && r.2.category == 2) = true
      · rw [if_pos h2] at hq
        rw [List.filter_cons_of_neg (by simp only [h2]; simp)]
        exact setL_mem l q hq
      · rw [if_neg h2] at hq
        have h3 : (!(r.1 == i) && !(r.1 + 1 == i && r.2.category == 2)) = true := by
          rw [Bool.not_eq_true] at h1 h2
          rw [h1, h2]; rfl
        rw [List.filter_cons_of_pos (p := fun q : Nat × Value => !(q.1 == i) && !(q.1 + 1 == i && q.2.category == 2)) h3]
        rcases List.mem_cons.mp hq with e | e
        · rw [e]; exact List.mem_cons_of_mem _ List.mem_cons_self
        · rcases List.mem_cons.mp (setL_mem l q e) with g | g
          · exact List.mem_cons.mpr (Or.inl g)
          · exact List.mem_cons_of_mem _ (List.mem_cons_of_mem _ g)
theorem lv_setL {la : Array Slot} {i : Nat} {v : Value} (hl : lv_has la nL ((i, v) :: ls.filter (fun q => !(q.1 == i) && !(q.1 + 1 == i && q.2.category == 2)))) : lv_has la nL (setL ls i v) := ⟨hl.1, hl.2.1, fun q hq => hl.2.2 q (setL_mem ls q hq)⟩
/-- fewer locals, or in another order -/
theorem x_sub (ks : List Nat) {ls' : List (Nat × Value)} (hk : lv_pick ls ks = ls') (kk : X κ n1 n2 h ls' pc st) : X κ n1 n2 h ls pc st := by
  obtain ⟨p, l, e, R, s, m, args, below, meth, c, Q, D0, A0, nL0⟩ := κ
  exact fun H locs la hS hP hl => kk H locs la hS hP (lv_sub hl ks hk)
theorem x_widen {m1 m2 : Nat} (h1 : n1 ≤ m1) (h2 : n2 ≤ m2) (kk : X κ m1 m2 h ls pc st) : X κ n1 n2 h ls pc st := by
  obtain ⟨p, l, e, R, s, m, args, below, meth, c, Q, D0, A0, nL0⟩ := κ
  exact fun H locs la hS hP hl => W.widen h1 h2 (kk H locs la hS hP hl)
theorem x_heap {h' : vh} (hh : h = h') (kk : X κ n1 n2 h' ls pc st) : X κ n1 n2 h ls pc st := hh ▸ kk
theorem x_st {st' : List Value} (hh : st = st') (kk : X κ n1 n2 h ls pc st') : X κ n1 n2 h ls pc st := hh ▸ kk
theorem x_iconst (C : CX κ own nm cc Ts R' D A nL) {n : Int} (d : decode cc pc = .ok (.iconst n, 1)) (n0 : Int) (hn : Int32.ofInt n = iI n0) (kk : X κ n1 n2 h ls (pc + 1) (vI n0 :: st)) : X κ n1 n2 h ls pc (st) := by
  obtain ⟨p, l, e, R, s, m, args, below, meth, c, Q, D0, A0, nL0⟩ := κ
  obtain ⟨hx, hb, hml, ho, hts, hlk, hnm, hE, rfl, rfl, rfl, rfl⟩ := C
  exact fun H locs la hS hP hl => lv_iconst hx hb d hn (kk H locs la hS hP hl)
theorem x_bipush (C : CX κ own nm cc Ts R' D A nL) {n : Int} (d : decode cc pc = .ok (.bipush n, 2)) (n0 : Int) (hn : (Int8.ofInt n).toInt32 = iI n0) (kk : X κ n1 n2 h ls (pc + 2) (vI n0 :: st)) : X κ n1 n2 h ls pc (st) := by
  obtain ⟨p, l, e, R, s, m, args, below, meth, c, Q, D0, A0, nL0⟩ := κ
  obtain ⟨hx, hb, hml, ho, hts, hlk, hnm, hE, rfl, rfl, rfl, rfl⟩ := C
  exact fun H locs la hS hP hl => lv_bipush hx hb d hn (kk H locs la hS hP hl)
theorem x_sipush (C : CX κ own nm cc Ts R' D A nL) {n : Int} (d : decode cc pc = .ok (.sipush n, 3)) (n0 : Int) (hn : (Int16.ofInt n).toInt32 = iI n0) (kk : X κ n1 n2 h ls (pc + 3) (vI n0 :: st)) : X κ n1 n2 h ls pc (st) := by
  obtain ⟨p, l, e, R, s, m, args, below, meth, c, Q, D0, A0, nL0⟩ := κ
  obtain ⟨hx, hb, hml, ho, hts, hlk, hnm, hE, rfl, rfl, rfl, rfl⟩ := C
  exact fun H locs la hS hP hl => lv_sipush hx hb d hn (kk H locs la hS hP hl)
theorem x_iload_n (C : CX κ own nm cc Ts R' D A nL) {k : Fin 4} {x : Int32} (d : decode cc pc = .ok (.iload_n k, 1)) (j : Nat) (hj : ls[j]? = some ((k : Nat), .int x)) (kk : X κ n1 n2 h ls (pc + 1) (.int x :: st)) : X κ n1 n2 h ls pc (st) := by
  obtain ⟨p, l, e, R, s, m, args, below, meth, c, Q, D0, A0, nL0⟩ := κ
  obtain ⟨hx, hb, hml, ho, hts, hlk, hnm, hE, rfl, rfl, rfl, rfl⟩ := C
  exact fun H locs la hS hP hl => lv_iload_n hx hb d rfl (lv_at hl j hj) (kk H locs la hS hP hl)
theorem x_iload (C : CX κ own nm cc Ts R' D A nL) {k : Nat} {x : Int32} (d : decode cc pc = .ok (.iload k, 2)) (j : Nat) (hj : ls[j]? = some (k, .int x)) (kk : X κ n1 n2 h ls (pc + 2) (.int x :: st)) : X κ n1 n2 h ls pc (st) := by
  obtain ⟨p, l, e, R, s, m, args, below, meth, c, Q, D0, A0, nL0⟩ := κ
  obtain ⟨hx, hb, hml, ho, hts, hlk, hnm, hE, rfl, rfl, rfl, rfl⟩ := C
  exact fun H locs la hS hP hl => lv_iload hx hb d (lv_at hl j hj) (kk H locs la hS hP hl)
theorem x_aload_n (C : CX κ own nm cc Ts R' D A nL) {k : Fin 4} {x : Nat} (d : decode cc pc = .ok (.aload_n k, 1)) (j : Nat) (hj : ls[j]? = some ((k : Nat), .ref x)) (kk : X κ n1 n2 h ls (pc + 1) (.ref x :: st)) : X κ n1 n2 h ls pc (st) := by
  obtain ⟨p, l, e, R, s, m, args, below, meth, c, Q, D0, A0, nL0⟩ := κ
  obtain ⟨hx, hb, hml, ho, hts, hlk, hnm, hE, rfl, rfl, rfl, rfl⟩ := C
  exact fun H locs la hS hP hl => lv_aload_n hx hb d rfl (lv_at hl j hj) (kk H locs la hS hP hl)
theorem x_aload (C : CX κ own nm cc Ts R' D A nL) {k : Nat} {x : Nat} (d : decode cc pc = .ok (.aload k, 2)) (j : Nat) (hj : ls[j]? = some (k, .ref x)) (kk : X κ n1 n2 h ls (pc + 2) (.ref x :: st)) : X κ n1 n2 h ls pc (st) := by
  obtain ⟨p, l, e, R, s, m, args, below, meth, c, Q, D0, A0, nL0⟩ := κ
  obtain ⟨hx, hb, hml, ho, hts, hlk, hnm, hE, rfl, rfl, rfl, rfl⟩ := C
  exact fun H locs la hS hP hl => lv_aload hx hb d (lv_at hl j hj) (kk H locs la hS hP hl)
theorem x_aload_nN (C : CX κ own nm cc Ts R' D A nL) {k : Fin 4} (d : decode cc pc = .ok (.aload_n k, 1)) (j : Nat) (hj : ls[j]? = some ((k : Nat), .null)) (kk : X κ n1 n2 h ls (pc + 1) (.null :: st)) : X κ n1 n2 h ls pc (st) := by
  obtain ⟨p, l, e, R, s, m, args, below, meth, c, Q, D0, A0, nL0⟩ := κ
  obtain ⟨hx, hb, hml, ho, hts, hlk, hnm, hE, rfl, rfl, rfl, rfl⟩ := C
  exact fun H locs la hS hP hl => lv_aload_nN hx hb d rfl (lv_at hl j hj) (kk H locs la hS hP hl)
theorem x_aloadN (C : CX κ own nm cc Ts R' D A nL) {k : Nat} (d : decode cc pc = .ok (.aload k, 2)) (j : Nat) (hj : ls[j]? = some (k, .null)) (kk : X κ n1 n2 h ls (pc + 2) (.null :: st)) : X κ n1 n2 h ls pc (st) := by
  obtain ⟨p, l, e, R, s, m, args, below, meth, c, Q, D0, A0, nL0⟩ := κ
  obtain ⟨hx, hb, hml, ho, hts, hlk, hnm, hE, rfl, rfl, rfl, rfl⟩ := C
  exact fun H locs la hS hP hl => lv_aloadN hx hb d (lv_at hl j hj) (kk H locs la hS hP hl)
theorem x_istore_n (C : CX κ own nm cc Ts R' D A nL) {k : Fin 4} {x : Int32} {ls' : List (Nat × Value)} (d : decode cc pc = .ok (.istore_n k, 1)) (hn : (k : Nat) < nL) (hl' : setL ls (k : Nat) (.int x) = ls') (kk : X κ n1 n2 h ls' (pc + 1) st) : X κ n1 n2 h ls pc (.int x :: st) := by
  obtain ⟨p, l, e, R, s, m, args, below, meth, c, Q, D0, A0, nL0⟩ := κ
  obtain ⟨hx, hb, hml, ho, hts, hlk, hnm, hE, rfl, rfl, rfl, rfl⟩ := C
  exact fun H locs la hS hP hl => lv_istore_n hx hb d rfl hl hn rfl (fun la' hl2 => kk H locs la' hS hP (hl' ▸ lv_setL hl2))
theorem x_istore (C : CX κ own nm cc Ts R' D A nL) {k : Nat} {x : Int32} {ls' : List (Nat × Value)} (d : decode cc pc = .ok (.istore k, 2)) (hn : k < nL) (hl' : setL ls k (.int x) = ls') (kk : X κ n1 n2 h ls' (pc + 2) st) : X κ n1 n2 h ls pc (.int x :: st) := by
  obtain ⟨p, l, e, R, s, m, args, below, meth, c, Q, D0, A0, nL0⟩ := κ
  obtain ⟨hx, hb, hml, ho, hts, hlk, hnm, hE, rfl, rfl, rfl, rfl⟩ := C
  exact fun H locs la hS hP hl => lv_istore hx hb d hl hn rfl (fun la' hl2 => kk H locs la' hS hP (hl' ▸ lv_setL hl2))
theorem x_astore_n (C : CX κ own nm cc Ts R' D A nL) {k : Fin 4} {x : Nat} {ls' : List (Nat × Value)} (d : decode cc pc = .ok (.astore_n k, 1)) (hn : (k : Nat) < nL) (hl' : setL ls (k : Nat) (.ref x) = ls') (kk : X κ n1 n2 h ls' (pc + 1) st) : X κ n1 n2 h ls pc (.ref x :: st) := by
  obtain ⟨p, l, e, R, s, m, args, below, meth, c, Q, D0, A0, nL0⟩ := κ
  obtain ⟨hx, hb, hml, ho, hts, hlk, hnm, hE, rfl, rfl, rfl, rfl⟩ := C
  exact fun H locs la hS hP hl => lv_astore_n hx hb d rfl hl hn rfl (fun la' hl2 => kk H locs la' hS hP (hl' ▸ lv_setL hl2))
theorem x_astore (C : CX κ own nm cc Ts R' D A nL) {k : Nat} {x : Nat} {ls' : List (Nat × Value)} (d : decode cc pc = .ok (.astore k, 2)) (hn : k < nL) (hl' : setL ls k (.ref x) = ls') (kk : X κ n1 n2 h ls' (pc + 2) st) : X κ n1 n2 h ls pc (.ref x :: st) := by
  obtain ⟨p, l, e, R, s, m, args, below, meth, c, Q, D0, A0, nL0⟩ := κ
  obtain ⟨hx, hb, hml, ho, hts, hlk, hnm, hE, rfl, rfl, rfl, rfl⟩ := C
  exact fun H locs la hS hP hl => lv_astore hx hb d hl hn rfl (fun la' hl2 => kk H locs la' hS hP (hl' ▸ lv_setL hl2))
theorem x_astore_nN (C : CX κ own nm cc Ts R' D A nL) {k : Fin 4} {ls' : List (Nat × Value)} (d : decode cc pc = .ok (.astore_n k, 1)) (hn : (k : Nat) < nL) (hl' : setL ls (k : Nat) (.null) = ls') (kk : X κ n1 n2 h ls' (pc + 1) st) : X κ n1 n2 h ls pc (.null :: st) := by
  obtain ⟨p, l, e, R, s, m, args, below, meth, c, Q, D0, A0, nL0⟩ := κ
  obtain ⟨hx, hb, hml, ho, hts, hlk, hnm, hE, rfl, rfl, rfl, rfl⟩ := C
  exact fun H locs la hS hP hl => lv_astore_nN hx hb d rfl hl hn rfl (fun la' hl2 => kk H locs la' hS hP (hl' ▸ lv_setL hl2))
theorem x_astoreN (C : CX κ own nm cc Ts R' D A nL) {k : Nat} {ls' : List (Nat × Value)} (d : decode cc pc = .ok (.astore k, 2)) (hn : k < nL) (hl' : setL ls k (.null) = ls') (kk : X κ n1 n2 h ls' (pc + 2) st) : X κ n1 n2 h ls pc (.null :: st) := by
  obtain ⟨p, l, e, R, s, m, args, below, meth, c, Q, D0, A0, nL0⟩ := κ
  obtain ⟨hx, hb, hml, ho, hts, hlk, hnm, hE, rfl, rfl, rfl, rfl⟩ := C
  exact fun H locs la hS hP hl => lv_astoreN hx hb d hl hn rfl (fun la' hl2 => kk H locs la' hS hP (hl' ▸ lv_setL hl2))
theorem x_iinc (C : CX κ own nm cc Ts R' D A nL) {i : Nat} {n : Int} {x : Int} {ls' : List (Nat × Value)} (d : decode cc pc = .ok (.iinc i n, 3)) (j : Nat) (hj : ls[j]? = some (i, vI x)) (hn : i < nL) (hl' : setL ls i (vI (x + n)) = ls') (kk : X κ n1 n2 h ls' (pc + 3) st) : X κ n1 n2 h ls pc st := by
  obtain ⟨p, l, e, R, s, m, args, below, meth, c, Q, D0, A0, nL0⟩ := κ
  obtain ⟨hx, hb, hml, ho, hts, hlk, hnm, hE, rfl, rfl, rfl, rfl⟩ := C
  exact fun H locs la hS hP hl => lv_iinc (k := j) hx hb d hl hj (iI_add x n) hn rfl (fun la' hl2 => kk H locs la' hS hP (hl' ▸ lv_setL hl2))
theorem x_iadd (C : CX κ own nm cc Ts R' D A nL) {a b : Int} (d : decode cc pc = .ok (.iadd, 1))  (kk : X κ n1 n2 h ls (pc + 1) (vI (a + b) :: st)) : X κ n1 n2 h ls pc (vI b :: vI a :: st) := by
  obtain ⟨p, l, e, R, s, m, args, below, meth, c, Q, D0, A0, nL0⟩ := κ
  obtain ⟨hx, hb, hml, ho, hts, hlk, hnm, hE, rfl, rfl, rfl, rfl⟩ := C
  exact fun H locs la hS hP hl => lv_iadd hx hb d (by rw [iI_add]; exact kk H locs la hS hP hl)
theorem x_isub (C : CX κ own nm cc Ts R' D A nL) {a b : Int} (d : decode cc pc = .ok (.isub, 1))  (kk : X κ n1 n2 h ls (pc + 1) (vI (a - b) :: st)) : X κ n1 n2 h ls pc (vI b :: vI a :: st) := by
  obtain ⟨p, l, e, R, s, m, args, below, meth, c, Q, D0, A0, nL0⟩ := κ
  obtain ⟨hx, hb, hml, ho, hts, hlk, hnm, hE, rfl, rfl, rfl, rfl⟩ := C
  exact fun H locs la hS hP hl => lv_isub hx hb d (by rw [iI_sub]; exact kk H locs la hS hP hl)
theorem x_imul (C : CX κ own nm cc Ts R' D A nL) {a b : Int} (d : decode cc pc = .ok (.imul, 1))  (kk : X κ n1 n2 h ls (pc + 1) (vI (a * b) :: st)) : X κ n1 n2 h ls pc (vI b :: vI a :: st) := by
  obtain ⟨p, l, e, R, s, m, args, below, meth, c, Q, D0, A0, nL0⟩ := κ
  obtain ⟨hx, hb, hml, ho, hts, hlk, hnm, hE, rfl, rfl, rfl, rfl⟩ := C
  exact fun H locs la hS hP hl => lv_imul hx hb d (by rw [iI_mul]; exact kk H locs la hS hP hl)
theorem x_idiv (C : CX κ own nm cc Ts R' D A nL) {a b : Int} (d : decode cc pc = .ok (.idiv, 1)) (h0 : 0 ≤ a) (h1 : a ≤ 2147483647) (hd : 0 < b) (hd2 : b ≤ 2147483647) (kk : X κ n1 n2 h ls (pc + 1) (vI (a / b) :: st)) : X κ n1 n2 h ls pc (vI b :: vI a :: st) := by
  obtain ⟨p, l, e, R, s, m, args, below, meth, c, Q, D0, A0, nL0⟩ := κ
  obtain ⟨hx, hb, hml, ho, hts, hlk, hnm, hE, rfl, rfl, rfl, rfl⟩ := C
  exact fun H locs la hS hP hl => lv_idiv hx hb d (iI_ne hd hd2) (by rw [iI_div h0 h1 hd hd2]; exact kk H locs la hS hP hl)
theorem x_irem (C : CX κ own nm cc Ts R' D A nL) {a b : Int} (d : decode cc pc = .ok (.irem, 1)) (h0 : 0 ≤ a) (h1 : a ≤ 2147483647) (hd : 0 < b) (hd2 : b ≤ 2147483647) (kk : X κ n1 n2 h ls (pc + 1) (vI (a % b) :: st)) : X κ n1 n2 h ls pc (vI b :: vI a :: st) := by
  obtain ⟨p, l, e, R, s, m, args, below, meth, c, Q, D0, A0, nL0⟩ := κ
  obtain ⟨hx, hb, hml, ho, hts, hlk, hnm, hE, rfl, rfl, rfl, rfl⟩ := C
  exact fun H locs la hS hP hl => lv_irem hx hb d (iI_ne hd hd2) (by rw [iI_rem h0 h1 hd hd2]; exact kk H locs la hS hP hl)
theorem x_ior (C : CX κ own nm cc Ts R' D A nL) {a b : Nat} (d : decode cc pc = .ok (.ior, 1))  (kk : X κ n1 n2 h ls (pc + 1) (vI ((a ||| b : Nat) : Int) :: st)) : X κ n1 n2 h ls pc (vI b :: vI a :: st) := by
  obtain ⟨p, l, e, R, s, m, args, below, meth, c, Q, D0, A0, nL0⟩ := κ
  obtain ⟨hx, hb, hml, ho, hts, hlk, hnm, hE, rfl, rfl, rfl, rfl⟩ := C
  exact fun H locs la hS hP hl => lv_ior hx hb d (by rw [iI_or]; exact kk H locs la hS hP hl)
theorem x_ixor (C : CX κ own nm cc Ts R' D A nL) {a b : Nat} (d : decode cc pc = .ok (.ixor, 1))  (kk : X κ n1 n2 h ls (pc + 1) (vI ((a ^^^ b : Nat) : Int) :: st)) : X κ n1 n2 h ls pc (vI b :: vI a :: st) := by
  obtain ⟨p, l, e, R, s, m, args, below, meth, c, Q, D0, A0, nL0⟩ := κ
  obtain ⟨hx, hb, hml, ho, hts, hlk, hnm, hE, rfl, rfl, rfl, rfl⟩ := C
  exact fun H locs la hS hP hl => lv_ixor hx hb d (by rw [iI_xor]; exact kk H locs la hS hP hl)
theorem x_iand (C : CX κ own nm cc Ts R' D A nL) {a b : Nat} (d : decode cc pc = .ok (.iand, 1))  (kk : X κ n1 n2 h ls (pc + 1) (vI ((a &&& b : Nat) : Int) :: st)) : X κ n1 n2 h ls pc (vI b :: vI a :: st) := by
  obtain ⟨p, l, e, R, s, m, args, below, meth, c, Q, D0, A0, nL0⟩ := κ
  obtain ⟨hx, hb, hml, ho, hts, hlk, hnm, hE, rfl, rfl, rfl, rfl⟩ := C
  exact fun H locs la hS hP hl => lv_iand hx hb d (by rw [iI_and]; exact kk H locs la hS hP hl)
theorem x_ishl (C : CX κ own nm cc Ts R' D A nL) {x y : Int32} (d : decode cc pc = .ok (.ishl, 1)) (v : Int32) (hv : x <<< (y &&& 31) = v) (kk : X κ n1 n2 h ls (pc + 1) (.int v :: st)) : X κ n1 n2 h ls pc (.int y :: .int x :: st) := by
  obtain ⟨p, l, e, R, s, m, args, below, meth, c, Q, D0, A0, nL0⟩ := κ
  obtain ⟨hx, hb, hml, ho, hts, hlk, hnm, hE, rfl, rfl, rfl, rfl⟩ := C
  exact fun H locs la hS hP hl => lv_ishl hx hb d (by rw [hv]; exact kk H locs la hS hP hl)
theorem x_ishr (C : CX κ own nm cc Ts R' D A nL) {x y : Int32} (d : decode cc pc = .ok (.ishr, 1)) (v : Int32) (hv : x >>> (y &&& 31) = v) (kk : X κ n1 n2 h ls (pc + 1) (.int v :: st)) : X κ n1 n2 h ls pc (.int y :: .int x :: st) := by
  obtain ⟨p, l, e, R, s, m, args, below, meth, c, Q, D0, A0, nL0⟩ := κ
  obtain ⟨hx, hb, hml, ho, hts, hlk, hnm, hE, rfl, rfl, rfl, rfl⟩ := C
  exact fun H locs la hS hP hl => lv_ishr hx hb d (by rw [hv]; exact kk H locs la hS hP hl)
theorem x_ineg (C : CX κ own nm cc Ts R' D A nL) {a : Int} (d : decode cc pc = .ok (.ineg, 1))  (kk : X κ n1 n2 h ls (pc + 1) (vI (-a) :: st)) : X κ n1 n2 h ls pc (vI a :: st) := by
  obtain ⟨p, l, e, R, s, m, args, below, meth, c, Q, D0, A0, nL0⟩ := κ
  obtain ⟨hx, hb, hml, ho, hts, hlk, hnm, hE, rfl, rfl, rfl, rfl⟩ := C
  exact fun H locs la hS hP hl => lv_ineg hx hb d (by rw [iI_neg]; exact kk H locs la hS hP hl)
theorem x_i2l (C : CX κ own nm cc Ts R' D A nL) {x : Int32} (d : decode cc pc = .ok (.i2l, 1))  (kk : X κ n1 n2 h ls (pc + 1) (.long x.toInt64 :: st)) : X κ n1 n2 h ls pc (.int x :: st) := by
  obtain ⟨p, l, e, R, s, m, args, below, meth, c, Q, D0, A0, nL0⟩ := κ
  obtain ⟨hx, hb, hml, ho, hts, hlk, hnm, hE, rfl, rfl, rfl, rfl⟩ := C
  exact fun H locs la hS hP hl => lv_i2l hx hb d rfl (kk H locs la hS hP hl)
theorem x_dup (C : CX κ own nm cc Ts R' D A nL) {v : Value} (d : decode cc pc = .ok (.dup, 1)) (hv : v.category = 1) (kk : X κ n1 n2 h ls (pc + 1) (v :: v :: st)) : X κ n1 n2 h ls pc (v :: st) := by
  obtain ⟨p, l, e, R, s, m, args, below, meth, c, Q, D0, A0, nL0⟩ := κ
  obtain ⟨hx, hb, hml, ho, hts, hlk, hnm, hE, rfl, rfl, rfl, rfl⟩ := C
  exact fun H locs la hS hP hl => lv_dup hx hb d hv (kk H locs la hS hP hl)
theorem x_dup2 (C : CX κ own nm cc Ts R' D A nL) {v w : Value} (d : decode cc pc = .ok (.dup2, 1)) (hv : v.category = 1) (hw : w.category = 1) (kk : X κ n1 n2 h ls (pc + 1) (v :: w :: v :: w :: st)) : X κ n1 n2 h ls pc (v :: w :: st) := by
  obtain ⟨p, l, e, R, s, m, args, below, meth, c, Q, D0, A0, nL0⟩ := κ
  obtain ⟨hx, hb, hml, ho, hts, hlk, hnm, hE, rfl, rfl, rfl, rfl⟩ := C
  exact fun H locs la hS hP hl => lv_dup2_11 hx hb d hv hw (kk H locs la hS hP hl)
theorem x_dup_x1 (C : CX κ own nm cc Ts R' D A nL) {v w : Value} (d : decode cc pc = .ok (.dup_x1, 1)) (hv : v.category = 1) (hw : w.category = 1) (kk : X κ n1 n2 h ls (pc + 1) (v :: w :: v :: st)) : X κ n1 n2 h ls pc (v :: w :: st) := by
  obtain ⟨p, l, e, R, s, m, args, below, meth, c, Q, D0, A0, nL0⟩ := κ
  obtain ⟨hx, hb, hml, ho, hts, hlk, hnm, hE, rfl, rfl, rfl, rfl⟩ := C
  exact fun H locs la hS hP hl => lv_dup_x1 hx hb d hv hw (kk H locs la hS hP hl)
theorem x_pop (C : CX κ own nm cc Ts R' D A nL) {v : Value} (d : decode cc pc = .ok (.pop, 1)) (hv : v.category = 1) (kk : X κ n1 n2 h ls (pc + 1) (st)) : X κ n1 n2 h ls pc (v :: st) := by
  obtain ⟨p, l, e, R, s, m, args, below, meth, c, Q, D0, A0, nL0⟩ := κ
  obtain ⟨hx, hb, hml, ho, hts, hlk, hnm, hE, rfl, rfl, rfl, rfl⟩ := C
  exact fun H locs la hS hP hl => lv_pop hx hb d hv (kk H locs la hS hP hl)
theorem x_null (C : CX κ own nm cc Ts R' D A nL)  (d : decode cc pc = .ok (.aconst_null, 1))  (kk : X κ n1 n2 h ls (pc + 1) (.null :: st)) : X κ n1 n2 h ls pc (st) := by
  obtain ⟨p, l, e, R, s, m, args, below, meth, c, Q, D0, A0, nL0⟩ := κ
  obtain ⟨hx, hb, hml, ho, hts, hlk, hnm, hE, rfl, rfl, rfl, rfl⟩ := C
  exact fun H locs la hS hP hl => lv_null hx hb d (kk H locs la hS hP hl)
theorem x_icmp_eq (C : CX κ own nm cc Ts R' D A nL) {a b : Int} {off : Int} {tgt : Nat} (d : decode cc pc = .ok (.if_icmp .eq off, 3)) (ht : (pc : Int) + off = (tgt : Int)) (h1 : -2147483648 ≤ a ∧ a ≤ 2147483647) (h2 : -2147483648 ≤ b ∧ b ≤ 2147483647) (kt : a = b → X κ n1 n2 h ls tgt st) (kf : ¬ a = b → X κ n1 n2 h ls (pc + 3) st) : X κ n1 n2 h ls pc (vI b :: vI a :: st) := by
  have q := iI_eq h1 h2
  obtain ⟨p, l, e, R, s, m, args, below, meth, c, Q, D0, A0, nL0⟩ := κ
  obtain ⟨hx, hb, hml, ho, hts, hlk, hnm, hE, rfl, rfl, rfl, rfl⟩ := C
  exact fun H locs la hS hP hl => lv_icmp_eq hx hb d ht (fun z => kt (by first | exact q.mp z | exact fun w => z (q.mpr w)) H locs la hS hP hl) (fun z => kf (by first | exact fun w => z (q.mpr w) | exact q.mp z | exact Classical.byContradiction fun w => z (fun v => w (q.mp v)) | exact q.mp (Classical.byContradiction z)) H locs la hS hP hl)
theorem x_if_eq (C : CX κ own nm cc Ts R' D A nL) {a : Int} {off : Int} {tgt : Nat} (d : decode cc pc = .ok (.ifCond .eq off, 3)) (ht : (pc : Int) + off = (tgt : Int)) (h1 : -2147483648 ≤ a ∧ a ≤ 2147483647) (kt : a = 0 → X κ n1 n2 h ls tgt st) (kf : ¬ a = 0 → X κ n1 n2 h ls (pc + 3) st) : X κ n1 n2 h ls pc (vI a :: st) := by
  have h2 : -2147483648 ≤ (0 : Int) ∧ (0 : Int) ≤ 2147483647 := by omega
  have q := iI_eq h1 h2
  rw [← iI_0] at q
  obtain ⟨p, l, e, R, s, m, args, below, meth, c, Q, D0, A0, nL0⟩ := κ
  obtain ⟨hx, hb, hml, ho, hts, hlk, hnm, hE, rfl, rfl, rfl, rfl⟩ := C
  exact fun H locs la hS hP hl => lv_if_eq hx hb d ht (fun z => kt (by first | exact q.mp z | exact fun w => z (q.mpr w)) H locs la hS hP hl) (fun z => kf (by first | exact fun w => z (q.mpr w) | exact q.mp z | exact Classical.byContradiction fun w => z (fun v => w (q.mp v)) | exact q.mp (Classical.byContradiction z)) H locs la hS hP hl)
theorem x_icmp_ne (C : CX κ own nm cc Ts R' D A nL) {a b : Int} {off : Int} {tgt : Nat} (d : decode cc pc = .ok (.if_icmp .ne off, 3)) (ht : (pc : Int) + off = (tgt : Int)) (h1 : -2147483648 ≤ a ∧ a ≤ 2147483647) (h2 : -2147483648 ≤ b ∧ b ≤ 2147483647) (kt : ¬ a = b → X κ n1 n2 h ls tgt st) (kf : a = b → X κ n1 n2 h ls (pc + 3) st) : X κ n1 n2 h ls pc (vI b :: vI a :: st) := by
  have q := iI_eq h1 h2
  obtain ⟨p, l, e, R, s, m, args, below, meth, c, Q, D0, A0, nL0⟩ := κ
  obtain ⟨hx, hb, hml, ho, hts, hlk, hnm, hE, rfl, rfl, rfl, rfl⟩ := C
  exact fun H locs la hS hP hl => lv_icmp_ne hx hb d ht (fun z => kt (by first | exact q.mp z | exact fun w => z (q.mpr w)) H locs la hS hP hl) (fun z => kf (by first | exact fun w => z (q.mpr w) | exact q.mp z | exact Classical.byContradiction fun w => z (fun v => w (q.mp v)) | exact q.mp (Classical.byContradiction z)) H locs la hS hP hl)
theorem x_if_ne (C : CX κ own nm cc Ts R' D A nL) {a : Int} {off : Int} {tgt : Nat} (d : decode cc pc = .ok (.ifCond .ne off, 3)) (ht : (pc : Int) + off = (tgt : Int)) (h1 : -2147483648 ≤ a ∧ a ≤ 2147483647) (kt : ¬ a = 0 → X κ n1 n2 h ls tgt st) (kf : a = 0 → X κ n1 n2 h ls (pc + 3) st) : X κ n1 n2 h ls pc (vI a :: st) := by
  have h2 : -2147483648 ≤ (0 : Int) ∧ (0 : Int) ≤ 2147483647 := by omega
  have q := iI_eq h1 h2
  rw [← iI_0] at q
  obtain ⟨p, l, e, R, s, m, args, below, meth, c, Q, D0, A0, nL0⟩ := κ
  obtain ⟨hx, hb, hml, ho, hts, hlk, hnm, hE, rfl, rfl, rfl, rfl⟩ := C
  exact fun H locs la hS hP hl => lv_if_ne hx hb d ht (fun z => kt (by first | exact q.mp z | exact fun w => z (q.mpr w)) H locs la hS hP hl) (fun z => kf (by first | exact fun w => z (q.mpr w) | exact q.mp z | exact Classical.byContradiction fun w => z (fun v => w (q.mp v)) | exact q.mp (Classical.byContradiction z)) H locs la hS hP hl)
theorem x_icmp_lt (C : CX κ own nm cc Ts R' D A nL) {a b : Int} {off : Int} {tgt : Nat} (d : decode cc pc = .ok (.if_icmp .lt off, 3)) (ht : (pc : Int) + off = (tgt : Int)) (h1 : -2147483648 ≤ a ∧ a ≤ 2147483647) (h2 : -2147483648 ≤ b ∧ b ≤ 2147483647) (kt : a < b → X κ n1 n2 h ls tgt st) (kf : ¬ a < b → X κ n1 n2 h ls (pc + 3) st) : X κ n1 n2 h ls pc (vI b :: vI a :: st) := by
  have q := iI_lt h1 h2
  obtain ⟨p, l, e, R, s, m, args, below, meth, c, Q, D0, A0, nL0⟩ := κ
  obtain ⟨hx, hb, hml, ho, hts, hlk, hnm, hE, rfl, rfl, rfl, rfl⟩ := C
  exact fun H locs la hS hP hl => lv_icmp_lt hx hb d ht (fun z => kt (by first | exact q.mp z | exact fun w => z (q.mpr w)) H locs la hS hP hl) (fun z => kf (by first | exact fun w => z (q.mpr w) | exact q.mp z | exact Classical.byContradiction fun w => z (fun v => w (q.mp v)) | exact q.mp (Classical.byContradiction z)) H locs la hS hP hl)
theorem x_if_lt (C : CX κ own nm cc Ts R' D A nL) {a : Int} {off : Int} {tgt : Nat} (d : decode cc pc = .ok (.ifCond .lt off, 3)) (ht : (pc : Int) + off = (tgt : Int)) (h1 : -2147483648 ≤ a ∧ a ≤ 2147483647) (kt : a < 0 → X κ n1 n2 h ls tgt st) (kf : ¬ a < 0 → X κ n1 n2 h ls (pc + 3) st) : X κ n1 n2 h ls pc (vI a :: st) := by
  have h2 : -2147483648 ≤ (0 : Int) ∧ (0 : Int) ≤ 2147483647 := by omega
  have q := iI_lt h1 h2
  rw [← iI_0] at q
  obtain ⟨p, l, e, R, s, m, args, below, meth, c, Q, D0, A0, nL0⟩ := κ
  obtain ⟨hx, hb, hml, ho, hts, hlk, hnm, hE, rfl, rfl, rfl, rfl⟩ := C
  exact fun H locs la hS hP hl => lv_if_lt hx hb d ht (fun z => kt (by first | exact q.mp z | exact fun w => z (q.mpr w)) H locs la hS hP hl) (fun z => kf (by first | exact fun w => z (q.mpr w) | exact q.mp z | exact Classical.byContradiction fun w => z (fun v => w (q.mp v)) | exact q.mp (Classical.byContradiction z)) H locs la hS hP hl)
theorem x_icmp_ge (C : CX κ own nm cc Ts R' D A nL) {a b : Int} {off : Int} {tgt : Nat} (d : decode cc pc = .ok (.if_icmp .ge off, 3)) (ht : (pc : Int) + off = (tgt : Int)) (h1 : -2147483648 ≤ a ∧ a ≤ 2147483647) (h2 : -2147483648 ≤ b ∧ b ≤ 2147483647) (kt : b ≤ a → X κ n1 n2 h ls tgt st) (kf : ¬ b ≤ a → X κ n1 n2 h ls (pc + 3) st) : X κ n1 n2 h ls pc (vI b :: vI a :: st) := by
  have q := iI_le h2 h1
  obtain ⟨p, l, e, R, s, m, args, below, meth, c, Q, D0, A0, nL0⟩ := κ
  obtain ⟨hx, hb, hml, ho, hts, hlk, hnm, hE, rfl, rfl, rfl, rfl⟩ := C
  exact fun H locs la hS hP hl => lv_icmp_ge hx hb d ht (fun z => kt (by first | exact q.mp z | exact fun w => z (q.mpr w)) H locs la hS hP hl) (fun z => kf (by first | exact fun w => z (q.mpr w) | exact q.mp z | exact Classical.byContradiction fun w => z (fun v => w (q.mp v)) | exact q.mp (Classical.byContradiction z)) H locs la hS hP hl)
theorem x_if_ge (C : CX κ own nm cc Ts R' D A nL) {a : Int} {off : Int} {tgt : Nat} (d : decode cc pc = .ok (.ifCond .ge off, 3)) (ht : (pc : Int) + off = (tgt : Int)) (h1 : -2147483648 ≤ a ∧ a ≤ 2147483647) (kt : 0 ≤ a → X κ n1 n2 h ls tgt st) (kf : ¬ 0 ≤ a → X κ n1 n2 h ls (pc + 3) st) : X κ n1 n2 h ls pc (vI a :: st) := by
  have h2 : -2147483648 ≤ (0 : Int) ∧ (0 : Int) ≤ 2147483647 := by omega
  have q := iI_le h2 h1
  rw [← iI_0] at q
  obtain ⟨p, l, e, R, s, m, args, below, meth, c, Q, D0, A0, nL0⟩ := κ
  obtain ⟨hx, hb, hml, ho, hts, hlk, hnm, hE, rfl, rfl, rfl, rfl⟩ := C
  exact fun H locs la hS hP hl => lv_if_ge hx hb d ht (fun z => kt (by first | exact q.mp z | exact fun w => z (q.mpr w)) H locs la hS hP hl) (fun z => kf (by first | exact fun w => z (q.mpr w) | exact q.mp z | exact Classical.byContradiction fun w => z (fun v => w (q.mp v)) | exact q.mp (Classical.byContradiction z)) H locs la hS hP hl)
theorem x_icmp_gt (C : CX κ own nm cc Ts R' D A nL) {a b : Int} {off : Int} {tgt : Nat} (d : decode cc pc = .ok (.if_icmp .gt off, 3)) (ht : (pc : Int) + off = (tgt : Int)) (h1 : -2147483648 ≤ a ∧ a ≤ 2147483647) (h2 : -2147483648 ≤ b ∧ b ≤ 2147483647) (kt : b < a → X κ n1 n2 h ls tgt st) (kf : ¬ b < a → X κ n1 n2 h ls (pc + 3) st) : X κ n1 n2 h ls pc (vI b :: vI a :: st) := by
  have q := iI_lt h2 h1
  obtain ⟨p, l, e, R, s, m, args, below, meth, c, Q, D0, A0, nL0⟩ := κ
  obtain ⟨hx, hb, hml, ho, hts, hlk, hnm, hE, rfl, rfl, rfl, rfl⟩ := C
  exact fun H locs la hS hP hl => lv_icmp_gt hx hb d ht (fun z => kt (by first | exact q.mp z | exact fun w => z (q.mpr w)) H locs la hS hP hl) (fun z => kf (by first | exact fun w => z (q.mpr w) | exact q.mp z | exact Classical.byContradiction fun w => z (fun v => w (q.mp v)) | exact q.mp (Classical.byContradiction z)) H locs la hS hP hl)
theorem x_if_gt (C : CX κ own nm cc Ts R' D A nL) {a : Int} {off : Int} {tgt : Nat} (d : decode cc pc = .ok (.ifCond .gt off, 3)) (ht : (pc : Int) + off = (tgt : Int)) (h1 : -2147483648 ≤ a ∧ a ≤ 2147483647) (kt : 0 < a → X κ n1 n2 h ls tgt st) (kf : ¬ 0 < a → X κ n1 n2 h ls (pc + 3) st) : X κ n1 n2 h ls pc (vI a :: st) := by
  have h2 : -2147483648 ≤ (0 : Int) ∧ (0 : Int) ≤ 2147483647 := by omega
  have q := iI_lt h2 h1
  rw [← iI_0] at q
  obtain ⟨p, l, e, R, s, m, args, below, meth, c, Q, D0, A0, nL0⟩ := κ
  obtain ⟨hx, hb, hml, ho, hts, hlk, hnm, hE, rfl, rfl, rfl, rfl⟩ := C
  exact fun H locs la hS hP hl => lv_if_gt hx hb d ht (fun z => kt (by first | exact q.mp z | exact fun w => z (q.mpr w)) H locs la hS hP hl) (fun z => kf (by first | exact fun w => z (q.mpr w) | exact q.mp z | exact Classical.byContradiction fun w => z (fun v => w (q.mp v)) | exact q.mp (Classical.byContradiction z)) H locs la hS hP hl)
theorem x_icmp_le (C : CX κ own nm cc Ts R' D A nL) {a b : Int} {off : Int} {tgt : Nat} (d : decode cc pc = .ok (.if_icmp .le off, 3)) (ht : (pc : Int) + off = (tgt : Int)) (h1 : -2147483648 ≤ a ∧ a ≤ 2147483647) (h2 : -2147483648 ≤ b ∧ b ≤ 2147483647) (kt : a ≤ b → X κ n1 n2 h ls tgt st) (kf : ¬ a ≤ b → X κ n1 n2 h ls (pc + 3) st) : X κ n1 n2 h ls pc (vI b :: vI a :: st) := by
  have q := iI_le h1 h2
  obtain ⟨p, l, e, R, s, m, args, below, meth, c, Q, D0, A0, nL0⟩ := κ
  obtain ⟨hx, hb, hml, ho, hts, hlk, hnm, hE, rfl, rfl, rfl, rfl⟩ := C
  exact fun H locs la hS hP hl => lv_icmp_le hx hb d ht (fun z => kt (by first | exact q.mp z | exact fun w => z (q.mpr w)) H locs la hS hP hl) (fun z => kf (by first | exact fun w => z (q.mpr w) | exact q.mp z | exact Classical.byContradiction fun w => z (fun v => w (q.mp v)) | exact q.mp (Classical.byContradiction z)) H locs la hS hP hl)
theorem x_if_le (C : CX κ own nm cc Ts R' D A nL) {a : Int} {off : Int} {tgt : Nat} (d : decode cc pc = .ok (.ifCond .le off, 3)) (ht : (pc : Int) + off = (tgt : Int)) (h1 : -2147483648 ≤ a ∧ a ≤ 2147483647) (kt : a ≤ 0 → X κ n1 n2 h ls tgt st) (kf : ¬ a ≤ 0 → X κ n1 n2 h ls (pc + 3) st) : X κ n1 n2 h ls pc (vI a :: st) := by
  have h2 : -2147483648 ≤ (0 : Int) ∧ (0 : Int) ≤ 2147483647 := by omega
  have q := iI_le h1 h2
  rw [← iI_0] at q
  obtain ⟨p, l, e, R, s, m, args, below, meth, c, Q, D0, A0, nL0⟩ := κ
  obtain ⟨hx, hb, hml, ho, hts, hlk, hnm, hE, rfl, rfl, rfl, rfl⟩ := C
  exact fun H locs la hS hP hl => lv_if_le hx hb d ht (fun z => kt (by first | exact q.mp z | exact fun w => z (q.mpr w)) H locs la hS hP hl) (fun z => kf (by first | exact fun w => z (q.mpr w) | exact q.mp z | exact Classical.byContradiction fun w => z (fun v => w (q.mp v)) | exact q.mp (Classical.byContradiction z)) H locs la hS hP hl)
theorem x_goto (C : CX κ own nm cc Ts R' D A nL) {off : Int} {tgt : Nat} (d : decode cc pc = .ok (.goto off, 3)) (ht : (pc : Int) + off = (tgt : Int)) (kk : X κ n1 n2 h ls tgt st) : X κ n1 n2 h ls pc st := by
  obtain ⟨p, l, e, R, s, m, args, below, meth, c, Q, D0, A0, nL0⟩ := κ
  obtain ⟨hx, hb, hml, ho, hts, hlk, hnm, hE, rfl, rfl, rfl, rfl⟩ := C
  exact fun H locs la hS hP hl => lv_goto hx hb d ht (kk H locs la hS hP hl)
theorem x_ifnonnull (C : CX κ own nm cc Ts R' D A nL) {x : Nat} {off : Int} {tgt : Nat} (d : decode cc pc = .ok (.ifnonnull off, 3)) (ht : (pc : Int) + off = (tgt : Int)) (kk : X κ n1 n2 h ls tgt st) : X κ n1 n2 h ls pc (.ref x :: st) := by
  obtain ⟨p, l, e, R, s, m, args, below, meth, c, Q, D0, A0, nL0⟩ := κ
  obtain ⟨hx, hb, hml, ho, hts, hlk, hnm, hE, rfl, rfl, rfl, rfl⟩ := C
  exact fun H locs la hS hP hl => lv_ifnonnull hx hb d ht (kk H locs la hS hP hl)
theorem x_ifnull (C : CX κ own nm cc Ts R' D A nL) {x : Nat} {off : Int} (d : decode cc pc = .ok (.ifnull off, 3)) (kk : X κ n1 n2 h ls (pc + 3) st) : X κ n1 n2 h ls pc (.ref x :: st) := by
  obtain ⟨p, l, e, R, s, m, args, below, meth, c, Q, D0, A0, nL0⟩ := κ
  obtain ⟨hx, hb, hml, ho, hts, hlk, hnm, hE, rfl, rfl, rfl, rfl⟩ := C
  exact fun H locs la hS hP hl => lv_ifnull hx hb d (kk H locs la hS hP hl)
theorem x_ifnullN (C : CX κ own nm cc Ts R' D A nL)  {off : Int} {tgt : Nat} (d : decode cc pc = .ok (.ifnull off, 3)) (ht : (pc : Int) + off = (tgt : Int)) (kk : X κ n1 n2 h ls tgt st) : X κ n1 n2 h ls pc (.null :: st) := by
  obtain ⟨p, l, e, R, s, m, args, below, meth, c, Q, D0, A0, nL0⟩ := κ
  obtain ⟨hx, hb, hml, ho, hts, hlk, hnm, hE, rfl, rfl, rfl, rfl⟩ := C
  exact fun H locs la hS hP hl => lv_ifnullN hx hb d ht (kk H locs la hS hP hl)
theorem x_ifnonnullN (C : CX κ own nm cc Ts R' D A nL)  {off : Int} (d : decode cc pc = .ok (.ifnonnull off, 3)) (kk : X κ n1 n2 h ls (pc + 3) st) : X κ n1 n2 h ls pc (.null :: st) := by
  obtain ⟨p, l, e, R, s, m, args, below, meth, c, Q, D0, A0, nL0⟩ := κ
  obtain ⟨hx, hb, hml, ho, hts, hlk, hnm, hE, rfl, rfl, rfl, rfl⟩ := C
  exact fun H locs la hS hP hl => lv_ifnonnullN hx hb d (kk H locs la hS hP hl)
theorem x_acmp_ne (C : CX κ own nm cc Ts R' D A nL) {x y : Nat} {off : Int} {tgt : Nat} (d : decode cc pc = .ok (.if_acmp .ne off, 3)) (ht : (pc : Int) + off = (tgt : Int)) (kt : ¬ x = y → X κ n1 n2 h ls tgt st) (kf : x = y → X κ n1 n2 h ls (pc + 3) st) : X κ n1 n2 h ls pc (.ref y :: .ref x :: st) := by
  obtain ⟨p, l, e, R, s, m, args, below, meth, c, Q, D0, A0, nL0⟩ := κ
  obtain ⟨hx, hb, hml, ho, hts, hlk, hnm, hE, rfl, rfl, rfl, rfl⟩ := C
  exact fun H locs la hS hP hl => lv_acmp_ne (rx := some x) (ry := some y) hx hb d ht (fun z => kt (fun w => z (congrArg some w)) H locs la hS hP hl) (fun z => kf (Option.some.inj z) H locs la hS hP hl)
theorem x_acmp_neN (C : CX κ own nm cc Ts R' D A nL) {y : Nat} {off : Int} {tgt : Nat} (d : decode cc pc = .ok (.if_acmp .ne off, 3)) (ht : (pc : Int) + off = (tgt : Int)) (kt : X κ n1 n2 h ls tgt st) : X κ n1 n2 h ls pc (.ref y :: .null :: st) := by
  obtain ⟨p, l, e, R, s, m, args, below, meth, c, Q, D0, A0, nL0⟩ := κ
  obtain ⟨hx, hb, hml, ho, hts, hlk, hnm, hE, rfl, rfl, rfl, rfl⟩ := C
  exact fun H locs la hS hP hl => lv_acmp_ne (rx := none) (ry := some y) hx hb d ht (fun z => kt H locs la hS hP hl) (fun z => by cases z)
theorem x_get (C : CX κ own nm cc Ts R' D A nL) {Cn : String} {T : u_T} {N ci index a : Nat} {fs : List Value} {v : Value} (ha : h a = some (.inr (ci, fs))) (hc : vwCl[ci]? = some (Cn, T, N)) (hin : ∀ w ∈ u_ws Cn T N, w ∈ Ts) (k : Nat) (hk : k < N) (hlink : Cond.fieldLink own index (T k).1 (T k).2.1 (T k).2.2.1 ∈ Ts) (hv : fs[k]? = some v) (d : decode cc pc = .ok (.getfield index, 3)) (kk : X κ n1 n2 h ls (pc + 3) (v :: st)) : X κ n1 n2 h ls pc (.ref a :: st) := by
  obtain ⟨p, l, e, R, s, m, args, below, meth, c, Q, D0, A0, nL0⟩ := κ
  obtain ⟨hx, hb, hml, ho, hts, hlk, hnm, hE, rfl, rfl, rfl, rfl⟩ := C
  exact fun H locs la hS hP hl => va_get (D := D0) hx hb hts hin ho hE.2.1 (hP.one ha) 0 rfl hc k hk (hts _ hlink) (fun _ h9 => h9) hv d (kk H locs la hS hP hl)
theorem x_getN (C : CX κ own nm cc Ts R' D A nL) {Cn host : String} {T : u_T} {N ci index a : Nat} {fs : List Value} {v : Value} (ha : h a = some (.inr (ci, fs))) (hc : vwCl[ci]? = some (Cn, T, N)) (hin : ∀ w ∈ u_ws Cn T N, w ∈ Ts) (k : Nat) (hk : k < N) (hlink : Cond.fieldLinkNest own index (T k).1 (T k).2.1 (T k).2.2.1 host ∈ nwAll) (hv : fs[k]? = some v) (d : decode cc pc = .ok (.getfield index, 3)) (kk : X κ n1 n2 h ls (pc + 3) (v :: st)) : X κ n1 n2 h ls pc (.ref a :: st) := by
  obtain ⟨p, l, e, R, s, m, args, below, meth, c, Q, D0, A0, nL0⟩ := κ
  obtain ⟨hx, hb, hml, ho, hts, hlk, hnm, hE, rfl, rfl, rfl, rfl⟩ := C
  exact fun H locs la hS hP hl => va_getN (D := D0) (host := host) hx hb hts hin ho hE.2.1 (hP.one ha) 0 rfl hc k hk (va_Nw.use rfl (hE.2.2.1 _ hlink)) (fun _ h9 => h9) hv d (kk H locs la hS hP hl)
theorem x_put (C : CX κ own nm cc Ts R' D A nL) {Cn : String} {T : u_T} {N ci index a : Nat} {ty0 : Nat → FieldType} {fs : List Value} {v : Value} (ha : h a = some (.inr (ci, fs))) (hc : vwCl[ci]? = some (Cn, T, N)) (hty : ∀ k, k < N → parseFieldDescriptor (T k).2.2.1 = some (ty0 k)) (hnmm : ∀ a, a < N → ∀ b, b < N → a ≠ b → (T a).2.1 ≠ (T b).2.1) (hin : ∀ w ∈ u_ws Cn T N, w ∈ Ts) (k : Nat) (hk : k < N) (hlink : Cond.fieldLink own index (T k).1 (T k).2.1 (T k).2.2.1 ∈ Ts) (hfin : (T k).2.2.2 = false) {fs' : List Value} (hn : narrow (ty0 k) v = v) (hf : fits (ty0 k) v = true) (hll : k < fs.length) (hfs : fs.set k v = fs') (d : decode cc pc = .ok (.putfield index, 3)) (kk : X κ n1 n2 (hu h a (.inr (ci, fs'))) ls (pc + 3) st) : X κ n1 n2 h ls pc (v :: .ref a :: st) := by
  obtain ⟨p, l, e, R, s, m, args, below, meth, c, Q, D0, A0, nL0⟩ := κ
  obtain ⟨hx, hb, hml, ho, hts, hlk, hnm, hE, rfl, rfl, rfl, rfl⟩ := C
  intro H locs la hS hP hl
  subst hfs
  have hK := hE.2.1
  have hap := va_apart (own := own) hts hin ty0 hty hnmm hK hc
  obtain ⟨hat, hA⟩ := hP a _ ha
  obtain ⟨r, g1, cell, q1, q2, q3, q4⟩ := hat
  have hr : r = (Cn, T, N) := Option.some.inj (g1.symm.trans hc)
  subst hr
  obtain ⟨hSl, hfc, kC, hkC, hkind⟩ := hK.1 ci _ hc
  obtain ⟨cf, kf, fi, f, hi, hsl⟩ := hSl k hk
  have hlay := hts _ (hin _ (u_in_lay hk))
  unfold u_lay at hlay
  have hst := (u_facts hfc hkC (u_lays hts hin hk) hi).1
  rw [if_neg (by rw [hfin]; decide)] at hlay
  have h6 := u_store hfc hkC hkind hlay hi (hty k hk) hn hf
  refine W.putK hx hb (f := f) ⟨ho, hts _ hlink, ⟨_, _, _, hi⟩, hst⟩ (by rw [q2]; exact h6) q1 q3 (by rw [hsl]; exact k2_hasslot (q4 k hk)) rfl rfl d fun H' e1 e2 e3 => ?_
  rw [hsl] at e1 ⊢
  exact kk H' _ la (hS.put e2 e3 hA) (hP.upd hA ⟨_, hc, t_OB.to (V := updV (vp_V fs) k v) ⟨_, e1, q2, q3, t_set q4 hap hk v⟩ (fun j _ => vp_updV_set hll v j)⟩ e3) hl
theorem x_putN (C : CX κ own nm cc Ts R' D A nL) {host : String} {Cn : String} {T : u_T} {N ci index a : Nat} {ty0 : Nat → FieldType} {fs : List Value} {v : Value} (ha : h a = some (.inr (ci, fs))) (hc : vwCl[ci]? = some (Cn, T, N)) (hty : ∀ k, k < N → parseFieldDescriptor (T k).2.2.1 = some (ty0 k)) (hnmm : ∀ a, a < N → ∀ b, b < N → a ≠ b → (T a).2.1 ≠ (T b).2.1) (hin : ∀ w ∈ u_ws Cn T N, w ∈ Ts) (k : Nat) (hk : k < N) (hlink : Cond.fieldLinkNest own index (T k).1 (T k).2.1 (T k).2.2.1 host ∈ nwAll) (hfin : (T k).2.2.2 = false) {fs' : List Value} (hn : narrow (ty0 k) v = v) (hf : fits (ty0 k) v = true) (hll : k < fs.length) (hfs : fs.set k v = fs') (d : decode cc pc = .ok (.putfield index, 3)) (kk : X κ n1 n2 (hu h a (.inr (ci, fs'))) ls (pc + 3) st) : X κ n1 n2 h ls pc (v :: .ref a :: st) := by
  obtain ⟨p, l, e, R, s, m, args, below, meth, c, Q, D0, A0, nL0⟩ := κ
  obtain ⟨hx, hb, hml, ho, hts, hlk, hnm, hE, rfl, rfl, rfl, rfl⟩ := C
  intro H locs la hS hP hl
  subst hfs
  have hK := hE.2.1
  have hap := va_apart (own := own) hts hin ty0 hty hnmm hK hc
  obtain ⟨hat, hA⟩ := hP a _ ha
  obtain ⟨r, g1, cell, q1, q2, q3, q4⟩ := hat
  have hr : r = (Cn, T, N) := Option.some.inj (g1.symm.trans hc)
  subst hr
  obtain ⟨hSl, hfc, kC, hkC, hkind⟩ := hK.1 ci _ hc
  obtain ⟨cf, kf, fi, f, hi, hsl⟩ := hSl k hk
  have hlay := hts _ (hin _ (u_in_lay hk))
  unfold u_lay at hlay
  have hst := (u_facts hfc hkC (u_lays hts hin hk) hi).1
  rw [if_neg (by rw [hfin]; decide)] at hlay
  have h6 := u_store hfc hkC hkind hlay hi (hty k hk) hn hf
  refine va_WputK hx hb (f := f) ho (va_Nw.use (A := args) rfl (hE.2.2.1 _ hlink)) hi hst (by rw [q2]; exact h6) q1 q3 (by rw [hsl]; exact k2_hasslot (q4 k hk)) rfl rfl d fun H' e1 e2 e3 => ?_
  rw [hsl] at e1 ⊢
  exact kk H' _ la (hS.put e2 e3 hA) (hP.upd hA ⟨_, hc, t_OB.to (V := updV (vp_V fs) k v) ⟨_, e1, q2, q3, t_set q4 hap hk v⟩ (fun j _ => vp_updV_set hll v j)⟩ e3) hl
theorem x_putF (C : CX κ own nm cc Ts R' D A nL) {Cn : String} {T : u_T} {N ci index a : Nat} {ty0 : Nat → FieldType} {fs : List Value} {v : Value} (ha : h a = some (.inr (ci, fs))) (hc : vwCl[ci]? = some (Cn, T, N)) (hty : ∀ k, k < N → parseFieldDescriptor (T k).2.2.1 = some (ty0 k)) (hnmm : ∀ a, a < N → ∀ b, b < N → a ≠ b → (T a).2.1 ≠ (T b).2.1) (hin : ∀ w ∈ u_ws Cn T N, w ∈ Ts) (k : Nat) (hk : k < N) (hlink : Cond.fieldLink own index (T k).1 (T k).2.1 (T k).2.2.1 ∈ Ts) (hfin : (T k).2.2.2 = true) (hini : nm = "<init>") (hdecl : (T k).1 = own) {fs' : List Value} (hn : narrow (ty0 k) v = v) (hf : fits (ty0 k) v = true) (hll : k < fs.length) (hfs : fs.set k v = fs') (d : decode cc pc = .ok (.putfield index, 3)) (kk : X κ n1 n2 (hu h a (.inr (ci, fs'))) ls (pc + 3) st) : X κ n1 n2 h ls pc (v :: .ref a :: st) := by
  obtain ⟨p, l, e, R, s, m, args, below, meth, c, Q, D0, A0, nL0⟩ := κ
  obtain ⟨hx, hb, hml, ho, hts, hlk, hnm, hE, rfl, rfl, rfl, rfl⟩ := C
  intro H locs la hS hP hl
  subst hfs
  have hK := hE.2.1
  have hap := va_apart (own := own) hts hin ty0 hty hnmm hK hc
  obtain ⟨hat, hA⟩ := hP a _ ha
  obtain ⟨r, g1, cell, q1, q2, q3, q4⟩ := hat
  have hr : r = (Cn, T, N) := Option.some.inj (g1.symm.trans hc)
  subst hr
  obtain ⟨hSl, hfc, kC, hkC, hkind⟩ := hK.1 ci _ hc
  obtain ⟨cf, kf, fi, f, hi, hsl⟩ := hSl k hk
  have hlay := hts _ (hin _ (u_in_lay hk))
  unfold u_lay at hlay
  have hst := (u_facts hfc hkC (u_lays hts hin hk) hi).1
  rw [if_pos hfin] at hlay
  have hcf : m.cls = cf := by
    obtain ⟨_, _, c', _, _, _, -, -, hf', -, -, -, hown2, -⟩ := Cond.laysFinal_spec hlay
    have e1 : c' = cf := by have := hi.symm.trans hf'; simp at this; exact this.1.symm
    rw [hdecl] at hown2
    rw [← e1]; exact Option.some.inj (ho.symm.trans hown2)
  have h6 := u_fits hfc hkC hkind (Or.inr hlay) hi (hty k hk) hn hf
  refine W.putFinK hx hb ho (hts _ hlink) hi hst hcf (hnm.trans hini) (by rw [q2]; exact h6) q1 q3 (by rw [hsl]; exact k2_hasslot (q4 k hk)) rfl rfl d fun H' e1 e2 e3 => ?_
  rw [hsl] at e1 ⊢
  exact kk H' _ la (hS.put e2 e3 hA) (hP.upd hA ⟨_, hc, t_OB.to (V := updV (vp_V fs) k v) ⟨_, e1, q2, q3, t_set q4 hap hk v⟩ (fun j _ => vp_updV_set hll v j)⟩ e3) hl
theorem x_iald (C : CX κ own nm cc Ts R' D A nL) {a n : Nat} {f : Nat → Int} {z : Int} (ha : h a = some (eI D n f)) (hz : 0 ≤ z ∧ z < n) (hn : n ≤ 2147483647) (d : decode cc pc = .ok (.iaload, 1)) (kk : X κ n1 n2 h ls (pc + 1) (vI (f z.toNat) :: st)) : X κ n1 n2 h ls pc (vI z :: .ref a :: st) := by
  obtain ⟨p, l, e, R, s, m, args, below, meth, c, Q, D0, A0, nL0⟩ := κ
  obtain ⟨hx, hb, hml, ho, hts, hlk, hnm, hE, rfl, rfl, rfl, rfl⟩ := C
  exact fun H locs la hS hP hl => va_iald (D := D0) hx hb hE.2.1 (hP.one ha) 0 0 rfl rfl (iI_in hz.1 hz.2 hn) d (by rw [iI_clamp hz.1 (by omega)]; exact kk H locs la hS hP hl)
theorem x_zald (C : CX κ own nm cc Ts R' D A nL) {a n : Nat} {f : Nat → Int} {z : Int} (ha : h a = some (eZ D n f)) (hz : 0 ≤ z ∧ z < n) (hn : n ≤ 2147483647) (d : decode cc pc = .ok (.baload, 1)) (kk : X κ n1 n2 h ls (pc + 1) (vI (f z.toNat) :: st)) : X κ n1 n2 h ls pc (vI z :: .ref a :: st) := by
  obtain ⟨p, l, e, R, s, m, args, below, meth, c, Q, D0, A0, nL0⟩ := κ
  obtain ⟨hx, hb, hml, ho, hts, hlk, hnm, hE, rfl, rfl, rfl, rfl⟩ := C
  exact fun H locs la hS hP hl => va_zald (D := D0) hx hb hE.2.1 (hP.one ha) 0 1 rfl rfl (iI_in hz.1 hz.2 hn) d (by rw [iI_clamp hz.1 (by omega)]; exact kk H locs la hS hP hl)
theorem x_aald (C : CX κ own nm cc Ts R' D A nL) {a n t0 : Nat} {k : Nat} {f : Nat → Option Nat} {z : Int} {Cn : String} (ha : h a = some (eR D k n f)) (ht : (tyL D)[t0]? = some (D.1 k, .object Cn)) (hz : 0 ≤ z ∧ z < n) (hn : n ≤ 2147483647) (d : decode cc pc = .ok (.aaload, 1)) (kk : X κ n1 n2 h ls (pc + 1) (va_rf (f z.toNat) :: st)) : X κ n1 n2 h ls pc (vI z :: .ref a :: st) := by
  obtain ⟨p, l, e, R, s, m, args, below, meth, c, Q, D0, A0, nL0⟩ := κ
  obtain ⟨hx, hb, hml, ho, hts, hlk, hnm, hE, rfl, rfl, rfl, rfl⟩ := C
  exact fun H locs la hS hP hl => va_aldq (D := D0) hx hb hE.2.1 (hP.one ha) 0 t0 rfl ht (iI_in hz.1 hz.2 hn) d (by rw [iI_clamp hz.1 (by omega)]; exact kk H locs la hS hP hl)
theorem x_lald (C : CX κ own nm cc Ts R' D A nL) {a n : Nat} {f : Nat → Int64} {z : Int} (ha : h a = some (eJ D n f)) (hz : 0 ≤ z ∧ z < n) (hn : n ≤ 2147483647) (d : decode cc pc = .ok (.laload, 1)) (kk : X κ n1 n2 h ls (pc + 1) (.long (f z.toNat) :: st)) : X κ n1 n2 h ls pc (vI z :: .ref a :: st) := by
  obtain ⟨p, l, e, R, s, m, args, below, meth, c, Q, D0, A0, nL0⟩ := κ
  obtain ⟨hx, hb, hml, ho, hts, hlk, hnm, hE, rfl, rfl, rfl, rfl⟩ := C
  exact fun H locs la hS hP hl => va_lald (D := D0) hx hb hE.2.1 (hP.one ha) 0 5 rfl rfl (iI_in hz.1 hz.2 hn) d (by rw [iI_clamp hz.1 (by omega)]; exact kk H locs la hS hP hl)
theorem x_alen (C : CX κ own nm cc Ts R' D A nL) {a t0 : Nat} {cA : ClassId} {x : vp_A} {ty : FieldType} (ha : h a = some (.inl (cA, x))) (ht : (tyL D)[t0]? = some (cA, ty)) (n : Int) (hv : Int32.ofNat x.1 = iI n) (d : decode cc pc = .ok (.arraylength, 1)) (kk : X κ n1 n2 h ls (pc + 1) (vI n :: st)) : X κ n1 n2 h ls pc (.ref a :: st) := by
  obtain ⟨p, l, e, R, s, m, args, below, meth, c, Q, D0, A0, nL0⟩ := κ
  obtain ⟨hx, hb, hml, ho, hts, hlk, hnm, hE, rfl, rfl, rfl, rfl⟩ := C
  exact fun H locs la hS hP hl => va_alen (D := D0) hx hb hE.2.1 (hP.one ha) 0 t0 rfl ht hv d (kk H locs la hS hP hl)
theorem x_iast (C : CX κ own nm cc Ts R' D A nL) {a n : Nat} {f : Nat → Int} {z : Int} {x : Int} (ha : h a = some (eI D n (f))) (hz : 0 ≤ z ∧ z < n) (hn : n ≤ 2147483647)  (d : decode cc pc = .ok (.iastore, 1)) (kk : X κ n1 n2 (hu h a (eI D n (fu f z.toNat x))) ls (pc + 1) st) : X κ n1 n2 h ls pc (vI x :: vI z :: .ref a :: st) := by
  obtain ⟨p, l, e, R, s, m, args, below, meth, c, Q, D0, A0, nL0⟩ := κ
  obtain ⟨hx, hb, hml, ho, hts, hlk, hnm, hE, rfl, rfl, rfl, rfl⟩ := C
  intro H locs la hS hP hl
  obtain ⟨hat, hA⟩ := hP a _ ha
  have hin := iI_in hz.1 hz.2 hn
  have hcl : (iI z).toNatClampNeg = z.toNat := iI_clamp hz.1 (by omega)
  refine W.iast hx hb hat ((hE.2.1.2 0 _ rfl).1 n (fun j => .int (iI (f j)))) (fun q => by cases q) (by show ¬ (iI z < 0 ∨ (arrV _ _ _).slots.size ≤ _); rw [arrV_size]; exact hin) rfl rfl d fun H1 e1 e2 e3 => ?_
  refine kk H1 _ la (hS.put e2 e3 hA) (hP.upd hA ?_ e3) hl
  show H1[a]? = some (vp_cell _ _)
  rw [e1, hcl]
  rw [vp_cell_i, vp_cell_i, arrV_store]
  congr 2
  funext q
  by_cases hq : q = z.toNat <;> simp [updV, fu, hq]
theorem x_zast (C : CX κ own nm cc Ts R' D A nL) {a n : Nat} {f : Nat → Int} {z : Int} {x : Int} (ha : h a = some (eZ D n (f))) (hz : 0 ≤ z ∧ z < n) (hn : n ≤ 2147483647) (hx01 : x = 0 ∨ x = 1) (d : decode cc pc = .ok (.bastore, 1)) (kk : X κ n1 n2 (hu h a (eZ D n (fu f z.toNat x))) ls (pc + 1) st) : X κ n1 n2 h ls pc (vI x :: vI z :: .ref a :: st) := by
  obtain ⟨p, l, e, R, s, m, args, below, meth, c, Q, D0, A0, nL0⟩ := κ
  obtain ⟨hx, hb, hml, ho, hts, hlk, hnm, hE, rfl, rfl, rfl, rfl⟩ := C
  intro H locs la hS hP hl
  obtain ⟨hat, hA⟩ := hP a _ ha
  have hin := iI_in hz.1 hz.2 hn
  have hcl : (iI z).toNatClampNeg = z.toNat := iI_clamp hz.1 (by omega)
  refine W.zast hx hb hat ((hE.2.1.2 1 _ rfl).1 n (fun j => .int (iI (f j)))) (fun q => by cases q) (by show ¬ (iI z < 0 ∨ (arrV _ _ _).slots.size ≤ _); rw [arrV_size]; exact hin) rfl rfl d fun H1 e1 e2 e3 => ?_
  refine kk H1 _ la (hS.put e2 e3 hA) (hP.upd hA ?_ e3) hl
  show H1[a]? = some (vp_cell _ _)
  rw [e1, hcl]
  rw [vp_cell_i, vp_cell_i, arrV_store]
  congr 2
  funext q
  by_cases hq : q = z.toNat
  · subst hq
    rcases hx01 with rfl | rfl <;> simp [updV, fu] <;> rfl
  · simp [updV, fu, hq]
theorem x_last (C : CX κ own nm cc Ts R' D A nL) {a n : Nat} {f : Nat → Int64} {z : Int} {x : Int64} (ha : h a = some (eJ D n (f))) (hz : 0 ≤ z ∧ z < n) (hn : n ≤ 2147483647)  (d : decode cc pc = .ok (.lastore, 1)) (kk : X κ n1 n2 (hu h a (eJ D n (vp_updL f z.toNat x))) ls (pc + 1) st) : X κ n1 n2 h ls pc (.long x :: vI z :: .ref a :: st) := by
  obtain ⟨p, l, e, R, s, m, args, below, meth, c, Q, D0, A0, nL0⟩ := κ
  obtain ⟨hx, hb, hml, ho, hts, hlk, hnm, hE, rfl, rfl, rfl, rfl⟩ := C
  intro H locs la hS hP hl
  obtain ⟨hat, hA⟩ := hP a _ ha
  have hin := iI_in hz.1 hz.2 hn
  have hcl : (iI z).toNatClampNeg = z.toNat := iI_clamp hz.1 (by omega)
  refine W.last hx hb hat ((hE.2.1.2 5 _ rfl).1 n (fun j => .long (f j))) (fun q => by cases q) (by show ¬ (iI z < 0 ∨ (arrV _ _ _).slots.size ≤ _); rw [arrV_size]; exact hin) rfl rfl d fun H1 e1 e2 e3 => ?_
  refine kk H1 _ la (hS.put e2 e3 hA) (hP.upd hA ?_ e3) hl
  show H1[a]? = some (vp_cell _ _)
  rw [e1, hcl]
  rw [vp_cell_l, vp_cell_l, arrV_store]
  congr 2
  funext q
  by_cases hq : q = z.toNat <;> simp [updV, vp_updL, hq]
theorem x_aast (C : CX κ own nm cc Ts R' D A nL) {a n t0 k ci v : Nat} {f : Nat → Option Nat} {z : Int} {r : vw_C} {vs : List Value} (ha : h a = some (eR D k n f)) (ht : (tyL D)[t0]? = some (D.1 k, .object r.1)) (hv : h v = some (.inr (ci, vs))) (hc : vwCl[ci]? = some r) (hz : 0 ≤ z ∧ z < n) (hn : n ≤ 2147483647) (d : decode cc pc = .ok (.aastore, 1)) (kk : X κ n1 n2 (hu h a (eR D k n (va_up f z.toNat (some v)))) ls (pc + 1) st) : X κ n1 n2 h ls pc (.ref v :: vI z :: .ref a :: st) := by
  obtain ⟨p, l, e, R, s, m, args, below, meth, c, Q, D0, A0, nL0⟩ := κ
  obtain ⟨hx, hb, hml, ho, hts, hlk, hnm, hE, rfl, rfl, rfl, rfl⟩ := C
  intro H locs la hS hP hl
  obtain ⟨hat, hA⟩ := hP a _ ha
  have hin := iI_in hz.1 hz.2 hn
  have hcl0 : (iI z).toNatClampNeg = z.toNat := iI_clamp hz.1 (by omega)
  have hlt : (iI z).toNatClampNeg < n := Nat.not_le.mp fun q => hin (Or.inr q)
  have h0 : ¬ iI z < 0 := fun q => hin (Or.inl q)
  obtain ⟨r', hr', cellV, g1, g2, g3, -⟩ := (hP v _ hv).1
  have hcls := (hE.2.1.1 ci r hc).2
  obtain ⟨kA, comp, k1, k2, k3, -⟩ := (hE.2.1.2 t0 _ ht).2
  have hcomp : comp = D0.1 ci := Option.some.inj (k3.symm.trans hcls.1)
  subst hcomp
  obtain ⟨kC, hkC, -⟩ := hcls.2
  refine W.aast hx hb hat (fun q h => by cases h) (fun h => by cases h) k1 k2 rfl hkC ⟨h0, by show _ < (arrV _ _ _).slots.size; rw [arrV_size]; exact hlt⟩ g1 (fun q h => by rw [g3] at h; cases h) (by rw [g2]; exact hkC) (by rw [g2]; exact va_assign hcls) rfl rfl d fun H1 e1 e2 e3 => ?_
  refine kk H1 _ la (hS.put e2 e3 hA) (hP.upd hA ?_ e3) hl
  show H1[a]? = some (vp_cell _ _)
  rw [e1, hcl0]
  rw [vp_cell_q, vp_cell_q, arrV_store]
  congr 2
  funext q
  by_cases hq : q = z.toNat
  · subst hq
    simp [updV, va_up, va_rf]
  · simp [updV, va_up, hq]
theorem x_new (C : CX κ own nm cc Ts R' D A nL) {Cn : String} {T : u_T} {N ci index : Nat} {ty : Nat → FieldType} {fs : List Value} (hc : vwCl[ci]? = some (Cn, T, N)) (hty : ∀ k, k < N → parseFieldDescriptor (T k).2.2.1 = some (ty k)) (hin : ∀ w ∈ u_ws Cn T N, w ∈ Ts) (hcl : Cond.classLink own index Cn ∈ Ts) (hinst : Cond.instantiable Cn N ∈ Ts) (hini : Cond.initialized Cn ∈ Ts) (hfs : ∀ j, j < N → defaultValue (ty j) = vp_V fs j) (hc1 : n1 + 1 ≤ R'.cells) (hs1 : n2 + N ≤ R'.slots) (d : decode cc pc = .ok (.new index, 3)) (kk : ∀ q : Nat, h q = none → X κ (n1 + 1) (n2 + N) (hu h q (.inr (ci, fs))) ls (pc + 3) (.ref q :: st)) : X κ n1 n2 h ls pc st := by
  obtain ⟨p, l, e, R, s, m, args, below, meth, c, Q, D0, A0, nL0⟩ := κ
  obtain ⟨hx, hb, hml, ho, hts, hlk, hnm, hE, rfl, rfl, rfl, rfl⟩ := C
  intro H locs la hS hP hl
  have hKn := hE.2.1.1 ci _ hc
  refine W.newcK hx hb ho (hts _ hcl) (hts _ hinst) (hts _ hini) rfl d hc1 hs1 hKn.2.1 rfl fun H1 kC hkC e1 z1 o1 => ?_
  refine kk H.size hP.fresh H1 _ la ⟨Nat.le_trans hS.1 (by omega), fun x h1 h2 => (o1 x (Nat.lt_of_lt_of_le h1 hS.1)).trans (hS.2.1 x h1 h2), hS.2.2⟩ (hP.push (hE.2.2.2.2.2.2 _ hS.1) ?_ o1) hl
  exact ⟨_, hc, (u_born ty hts hin hKn hkC e1 hty).to hfs⟩
theorem x_newI (C : CX κ own nm cc Ts R' D A nL) {z : Int} {N : Nat} (harr : Cond.arrayClass (newarray.typeOf .int) ∈ Ts) (hz : z = (N : Int)) (hN : N ≤ 60000000) (hc1 : n1 + 1 ≤ R'.cells) (hs1 : n2 + N ≤ R'.slots) (d : decode cc pc = .ok (.newarray .int, 2)) (kk : ∀ q : Nat, h q = none → X κ (n1 + 1) (n2 + N) (hu h q (eI D N (fun _ => 0))) ls (pc + 2) (.ref q :: st)) : X κ n1 n2 h ls pc (vI z :: st) := by
  obtain ⟨p, l, e, R, s, m, args, below, meth, c, Q, D0, A0, nL0⟩ := κ
  obtain ⟨hx, hb, hml, ho, hts, hlk, hnm, hE, rfl, rfl, rfl, rfl⟩ := C
  intro H locs la hS hP hl
  subst hz
  refine va_newaK (N := N) (atype := .int) hx hb (hts _ harr) rfl d rfl (by rw [iI_0, iI_lt (by omega) (by omega)]; omega) (by rw [iI_clamp (by omega) (by omega)]; omega) (by simp only [newarray.typeOf, componentBytes]; omega) hc1 hs1 rfl fun H1 cA e1 z1 o1 hAr hNm => ?_
  have hcA : cA = D0.1 20 := Option.some.inj (hNm.symm.trans ((hE.2.1.2 0 _ rfl).2))
  subst hcA
  refine kk H.size hP.fresh H1 _ la ⟨Nat.le_trans hS.1 (by omega), fun x h1 h2 => (o1 x (Nat.lt_of_lt_of_le h1 hS.1)).trans (hS.2.1 x h1 h2), hS.2.2⟩ (hP.push (hE.2.2.2.2.2.2 _ hS.1) ?_ o1) hl
  show H1[H.size]? = some (vp_cell _ _)
  rw [e1, vp_cell_i]
  rfl
theorem x_newZ (C : CX κ own nm cc Ts R' D A nL) {z : Int} {N : Nat} (harr : Cond.arrayClass (newarray.typeOf .boolean) ∈ Ts) (hz : z = (N : Int)) (hN : N ≤ 60000000) (hc1 : n1 + 1 ≤ R'.cells) (hs1 : n2 + N ≤ R'.slots) (d : decode cc pc = .ok (.newarray .boolean, 2)) (kk : ∀ q : Nat, h q = none → X κ (n1 + 1) (n2 + N) (hu h q (eZ D N (fun _ => 0))) ls (pc + 2) (.ref q :: st)) : X κ n1 n2 h ls pc (vI z :: st) := by
  obtain ⟨p, l, e, R, s, m, args, below, meth, c, Q, D0, A0, nL0⟩ := κ
  obtain ⟨hx, hb, hml, ho, hts, hlk, hnm, hE, rfl, rfl, rfl, rfl⟩ := C
  intro H locs la hS hP hl
  subst hz
  refine va_newaK (N := N) (atype := .boolean) hx hb (hts _ harr) rfl d rfl (by rw [iI_0, iI_lt (by omega) (by omega)]; omega) (by rw [iI_clamp (by omega) (by omega)]; omega) (by simp only [newarray.typeOf, componentBytes]; omega) hc1 hs1 rfl fun H1 cA e1 z1 o1 hAr hNm => ?_
  have hcA : cA = D0.1 21 := Option.some.inj (hNm.symm.trans ((hE.2.1.2 1 _ rfl).2))
  subst hcA
  refine kk H.size hP.fresh H1 _ la ⟨Nat.le_trans hS.1 (by omega), fun x h1 h2 => (o1 x (Nat.lt_of_lt_of_le h1 hS.1)).trans (hS.2.1 x h1 h2), hS.2.2⟩ (hP.push (hE.2.2.2.2.2.2 _ hS.1) ?_ o1) hl
  show H1[H.size]? = some (vp_cell _ _)
  rw [e1, vp_cell_i]
  rfl
theorem x_newJ (C : CX κ own nm cc Ts R' D A nL) {z : Int} {N : Nat} (harr : Cond.arrayClass (newarray.typeOf .long) ∈ Ts) (hz : z = (N : Int)) (hN : N ≤ 60000000) (hc1 : n1 + 1 ≤ R'.cells) (hs1 : n2 + N ≤ R'.slots) (d : decode cc pc = .ok (.newarray .long, 2)) (kk : ∀ q : Nat, h q = none → X κ (n1 + 1) (n2 + N) (hu h q (eJ D N (fun _ => 0))) ls (pc + 2) (.ref q :: st)) : X κ n1 n2 h ls pc (vI z :: st) := by
  obtain ⟨p, l, e, R, s, m, args, below, meth, c, Q, D0, A0, nL0⟩ := κ
  obtain ⟨hx, hb, hml, ho, hts, hlk, hnm, hE, rfl, rfl, rfl, rfl⟩ := C
  intro H locs la hS hP hl
  subst hz
  refine va_newaK (N := N) (atype := .long) hx hb (hts _ harr) rfl d rfl (by rw [iI_0, iI_lt (by omega) (by omega)]; omega) (by rw [iI_clamp (by omega) (by omega)]; omega) (by simp only [newarray.typeOf, componentBytes]; omega) hc1 hs1 rfl fun H1 cA e1 z1 o1 hAr hNm => ?_
  have hcA : cA = D0.1 25 := Option.some.inj (hNm.symm.trans ((hE.2.1.2 5 _ rfl).2))
  subst hcA
  refine kk H.size hP.fresh H1 _ la ⟨Nat.le_trans hS.1 (by omega), fun x h1 h2 => (o1 x (Nat.lt_of_lt_of_le h1 hS.1)).trans (hS.2.1 x h1 h2), hS.2.2⟩ (hP.push (hE.2.2.2.2.2.2 _ hS.1) ?_ o1) hl
  show H1[H.size]? = some (vp_cell _ _)
  rw [e1, vp_cell_l]
  rfl
theorem x_newR (C : CX κ own nm cc Ts R' D A nL) {z : Int} {N k t0 index : Nat} {Cn : String} (ht : (tyL D)[t0]? = some (D.1 k, .object Cn)) (hcl : Cond.classLink own index Cn ∈ Ts) (hov : va_AO Cn (κ.2.2.2.2.1)) (hz : z = (N : Int)) (hN : N ≤ 60000000) (hc1 : n1 + 1 ≤ R'.cells) (hs1 : n2 + N ≤ R'.slots) (d : decode cc pc = .ok (.anewarray index, 3)) (kk : ∀ q : Nat, h q = none → X κ (n1 + 1) (n2 + N) (hu h q (eR D k N (fun _ => none))) ls (pc + 3) (.ref q :: st)) : X κ n1 n2 h ls pc (vI z :: st) := by
  obtain ⟨p, l, e, R, s, m, args, below, meth, c, Q, D0, A0, nL0⟩ := κ
  obtain ⟨hx, hb, hml, ho, hts, hlk, hnm, hE, rfl, rfl, rfl, rfl⟩ := C
  intro H locs la hS hP hl
  subst hz
  have hcl0 : (iI (N : Int)).toNatClampNeg = N := by rw [iI_clamp (by omega) (by omega)]; omega
  refine W.anew hx hb ho (hts _ hcl) (va_AO.use hov) rfl d rfl (by rw [iI_0, iI_lt (by omega) (by omega)]; omega) (by rw [hcl0]; omega) hc1 (by rw [hcl0]; exact hs1) fun cA kA comp f1 f2 f3 f4 => ?_
  rw [hcl0]
  obtain ⟨kA', comp', g1, g2, g3, g4⟩ := (hE.2.1.2 t0 _ ht).2
  have hcA : cA = D0.1 k := by first | exact Option.some.inj (f1.symm.trans g4) | exact Option.some.inj (f4.symm.trans g4)
  subst hcA
  generalize hH1 : H.push ({ cls := D0.1 k, slots := Array.replicate N .null, vm := .none } : Cell) = H1
  have z1 : H1.size = H.size + 1 := by rw [← hH1, Array.size_push]
  have e1 : H1[H.size]? = some (arrV (D0.1 k) N (fun _ => .null)) := by rw [← hH1, Array.getElem?_push_size, ← arrV_new]
  have o1 : ∀ q : Nat, q < H.size → H1[q]? = H[q]? := fun q hq => by rw [← hH1, Array.getElem?_push, if_neg (Nat.ne_of_lt hq)]
  refine kk H.size hP.fresh H1 _ la ⟨Nat.le_trans hS.1 (by omega), fun x h1 h2 => (o1 x (Nat.lt_of_lt_of_le h1 hS.1)).trans (hS.2.1 x h1 h2), hS.2.2⟩ (hP.push (hE.2.2.2.2.2.2 _ hS.1) ?_ o1) hl
  show H1[H.size]? = some (vp_cell _ _)
  rw [e1, vp_cell_q]
  rfl
theorem x_iret (C : CX κ own nm cc Ts R' D A nL) {post : Option Value → vh → Prop} {mc ms : Nat} {v : Int32} (G : CR κ (some .int) post mc ms) (d : decode cc pc = .ok (.ireturn, 1)) (hp : post (some (.int v)) h) (h1 : n1 ≤ mc) (h2 : n2 ≤ ms) : X κ n1 n2 h ls pc [.int v] := by
  obtain ⟨p, l, e, R, s, m, args, below, meth, c, Q, D0, A0, nL0⟩ := κ
  obtain ⟨hx, hb, hml, ho, hts, hlk, hnm, hE, rfl, rfl, rfl, rfl⟩ := C
  obtain ⟨hr, hq⟩ := G
  intro H locs la hS hP hl
  exact w_mono hq (W.widen h1 h2 (W.iret hx hb hr (fun t ht hW => ⟨⟨_, h, rfl, hp, by rw [ht]; exact hP⟩, hS.F ht⟩) hS.2.2 d hlk))
theorem x_zret (C : CX κ own nm cc Ts R' D A nL) {post : Option Value → vh → Prop} {mc ms : Nat} {v : Int32} (G : CR κ (some .boolean) post mc ms) (d : decode cc pc = .ok (.ireturn, 1)) (hn : v = iI 0 ∨ v = iI 1) (hp : post (some (.int v)) h) (h1 : n1 ≤ mc) (h2 : n2 ≤ ms) : X κ n1 n2 h ls pc [.int v] := by
  obtain ⟨p, l, e, R, s, m, args, below, meth, c, Q, D0, A0, nL0⟩ := κ
  obtain ⟨hx, hb, hml, ho, hts, hlk, hnm, hE, rfl, rfl, rfl, rfl⟩ := C
  obtain ⟨hr, hq⟩ := G
  intro H locs la hS hP hl
  exact w_mono hq (W.widen h1 h2 (W.zret hx hb hr (by rcases hn with rfl | rfl <;> rfl) (fun t ht hW => ⟨⟨_, h, rfl, hp, by rw [ht]; exact hP⟩, hS.F ht⟩) hS.2.2 d hlk))
theorem x_vret (C : CX κ own nm cc Ts R' D A nL) {post : Option Value → vh → Prop} {mc ms : Nat}  (G : CR κ (none) post mc ms) (d : decode cc pc = .ok (.return_, 1)) (hp : post (none) h) (h1 : n1 ≤ mc) (h2 : n2 ≤ ms) : X κ n1 n2 h ls pc [] := by
  obtain ⟨p, l, e, R, s, m, args, below, meth, c, Q, D0, A0, nL0⟩ := κ
  obtain ⟨hx, hb, hml, ho, hts, hlk, hnm, hE, rfl, rfl, rfl, rfl⟩ := C
  obtain ⟨hr, hq⟩ := G
  intro H locs la hS hP hl
  exact w_mono hq (W.widen h1 h2 (W.vret hx hb hr (fun t ht hW => ⟨⟨_, h, rfl, hp, by rw [ht]; exact hP⟩, hS.F ht⟩) hS.2.2 d hlk))
theorem x_aret (C : CX κ own nm cc Ts R' D A nL) {post : Option Value → vh → Prop} {mc ms : Nat} {v : Nat} {Cn : String} (G : CR κ (some (.object Cn)) post mc ms) (d : decode cc pc = .ok (.areturn, 1)) (hp : post (some (.ref v)) h) (h1 : n1 ≤ mc) (h2 : n2 ≤ ms) : X κ n1 n2 h ls pc [.ref v] := by
  obtain ⟨p, l, e, R, s, m, args, below, meth, c, Q, D0, A0, nL0⟩ := κ
  obtain ⟨hx, hb, hml, ho, hts, hlk, hnm, hE, rfl, rfl, rfl, rfl⟩ := C
  obtain ⟨hr, hq⟩ := G
  intro H locs la hS hP hl
  exact w_mono hq (W.widen h1 h2 (W.aret hx hb hr (Or.inl ⟨_, rfl⟩) (Or.inr ⟨_, rfl⟩) (fun t ht hW => ⟨⟨_, h, rfl, hp, by rw [ht]; exact hP⟩, hS.F ht⟩) hS.2.2 d hlk))
end XR

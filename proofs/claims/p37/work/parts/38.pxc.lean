/-- the body that the reference moves -/
def bdM (m : CS) (x : Int × Nat × Int) : CS := cu m 0 0 (fu (fu (fu (m 0 0) 31 x.1) 33 ((x.2.1 : Nat) : Int)) 34 x.2.2)
def KBm (m : CS) : Int → Nat := fun p => (m 29 0 p.toNat).toNat
theorem bdM_in {m : CS} {f : Nat → Int} {B : Int → Nat} {p : Int} {x : Int × Nat × Int} (hp : 0 ≤ p ∧ p < 96) : bdM m (cm f B p x) = cu m 0 0 (fu (fu (fu (m 0 0) 31 p) 33 ((x.2.1 ||| B p : Nat) : Int)) 34 (if f p.toNat = 4 then 3 else if f p.toNat = 5 then 2 else x.2.2)) := by
  unfold bdM cm
  rw [if_pos hp]
theorem bdM_out {m : CS} {f : Nat → Int} {B : Int → Nat} {p : Int} (hp : ¬ (0 ≤ p ∧ p < 96)) (ht : 0 ≤ m 0 0 33) : bdM m (cm f B p (m 0 0 31, (m 0 0 33).toNat, 1)) = cu m 0 0 (fu (m 0 0) 34 3) := by
  unfold bdM cm
  rw [if_neg hp]
  have e : fu (fu (m 0 0) 31 (m 0 0 31)) 33 (((m 0 0 33).toNat : Nat) : Int) = m 0 0 := by
    funext j
    unfold fu
    by_cases q : j = 33
    · rw [if_pos q, q]; omega
    · rw [if_neg q]
      by_cases r : j = 31
      · rw [if_pos r, r]
      · rw [if_neg r]
  show cu m 0 0 (fu (fu (fu (m 0 0) 31 (m 0 0 31)) 33 (((m 0 0 33).toNat : Nat) : Int)) 34 3) = _
  rw [e]

def stM (m : CS) (z : Int) : CS := bdM (cu m 0 0 (fu (fu (m 0 0) 32 0) 33 0)) (cm (m 28 0) (KBm m) z (z, 0, 1))
theorem cm_z {f : Nat → Int} {B : Int → Nat} {z a b : Int} {t : Nat} (hz : 0 ≤ z ∧ z < 96) : cm f B z (a, t, 1) = cm f B z (b, t, 1) := by
  unfold cm; rw [if_pos hz, if_pos hz]


theorem sumN_s {f : Nat → Int} {n : Nat} : sumN f n + f n = sumN f (n + 1) := rfl
noncomputable def lnM (m : CS) (v : Nat) (k : Nat) : Int := bI (Anc (fun i => m 19 0 i + 1) (fun i => i = v) ((k : Int) + 1))
noncomputable def crM (m : CS) (p : Int) (k : Nat) : Int := if bI (Anc (fun i => m 19 0 i + 1) (fun i => m 15 0 i = p) ((k : Int) + 1)) = 0 then 0 else sumN (fun j => m 21 0 (6 * k + j)) 6


/-! share -/
def saG (v : Nat → Bool) (th : Nat → Int32) (i k s : Nat) : Nat := if v i && bt (th i) k then s + 1 else s
def scG (v : Nat → Bool) (th : Nat → Int32) (f : Nat → Nat → Nat) (nt i k s : Nat) : Nat := if (v i && bt (th i) k) && decide (f i k < nt) then s + 1 else s
def saN (v : Nat → Bool) (th : Nat → Int32) (nk n : Nat) : Nat := it (fun i s => it (saG v th i) nk s) n 0
def scN (v : Nat → Bool) (th : Nat → Int32) (f : Nat → Nat → Nat) (nt nk n : Nat) : Nat := it (fun i s => it (scG v th f nt i) nk s) n 0
def shD (a c : Nat) : UInt64 := if a = 0 then FP.dconst0 else FP.ddiv (FP.i2d (nI c)) (FP.i2d (nI a))
theorem saN_le {v : Nat → Bool} {th : Nat → Int32} {nk n : Nat} (hk : nk ≤ 8) : saN v th nk n ≤ n * 8 := by
  have := it_le (f := fun i s => it (saG v th i) nk s) (n := n) (s := 0) (m := 8) (fun i x _ => by
    have := it_le (f := saG v th i) (n := nk) (s := x) (m := 1) (fun k y _ => by simp only [saG]; split <;> omega)
    omega)
  simpa [saN] using this
theorem zz_al : alike64 FP.dconst0 FP.dconst0 = true := by decide +kernel

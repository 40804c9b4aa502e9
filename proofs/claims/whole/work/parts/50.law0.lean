/-- a NaN is like nothing -/
theorem zD_nan {x : UInt64} (h : isNaN64 x = true) : FP.Core.decode FP.Core.b64 x.toNat = .nan := by
  have h1 := isNaN64_iff.mp h
  have h2 : x.toNat &&& 0x7fffffffffffffff = x.toNat % 2 ^ 63 := Nat.and_two_pow_sub_one_eq_mod x.toNat 63
  rw [h2] at h1
  have hE : FP.Core.fieldE FP.Core.b64 x.toNat = FP.Core.b64.exps - 1 := by
    show x.toNat / 2 ^ 52 % 2 ^ 11 = 2 ^ 11 - 1
    omega
  have hT : ¬ FP.Core.fieldT FP.Core.b64 x.toNat = 0 := by
    show ¬ x.toNat % 2 ^ 52 = 0
    omega
  unfold FP.Core.decode
  rw [if_pos hE, if_neg hT]
theorem zD_none {x y : UInt64} (h : isNaN64 x = true) : FP.dcmp x y = none := by
  show FP.Core.order (FP.Core.decode FP.Core.b64 x.toNat) (FP.Core.decode FP.Core.b64 y.toNat) = none
  rw [zD_nan h]
  rfl
theorem zD_alike {x y z : UInt64} (hx : alike64 x z = true) (hy : alike64 y z = true) : x = y ∨ (isNaN64 x = true ∧ isNaN64 y = true) := by
  simp only [alike64, Bool.or_eq_true, Bool.and_eq_true, decide_eq_true_eq] at hx hy
  rcases hx with hx | ⟨a1, a2⟩
  · rcases hy with hy | ⟨b1, b2⟩
    · exact Or.inl (hx.trans hy.symm)
    · exact Or.inr ⟨by rw [hx]; exact b2, b1⟩
  · rcases hy with hy | ⟨b1, b2⟩
    · exact Or.inr ⟨a1, by rw [hy]; exact a2⟩
    · exact Or.inr ⟨a1, b1⟩
/-- what stands all through the law: the machine, the code, the words, the script, the classes -/
def lwF (p : Program) (l : Launch) (s : State) (m : MethodId) (c : Code) (sb L : Nat) (xs : Nat → Int32) (dC : Nat → ClassId) (dI : Nat → Nat → Nat) (cI cZ cJ : ClassId) : Prop :=
  p.tables.exec = Jvm.exec ∧ c.code = code ∧ c.maxLocals = 9 ∧ s.vm.findClass RL = some m.cls ∧ (∀ w ∈ wsL_law, w.before #[Value.ref sb] s = true) ∧ va_X sb L xs s s.heap ∧ sb < s.heap.size ∧ L ≤ 2560 ∧ va_K (dC, dI) vwCl [(cI, .int), (cZ, .boolean), (cJ, .long)] s ∧ zn s ∧ zt s ∧ zU (fun q => s.heap.size ≤ q) s s.heap ∧ zc s ∧ l.stackTraces = false

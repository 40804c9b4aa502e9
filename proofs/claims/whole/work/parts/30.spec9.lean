/-- the whole of a HandlerOptimizerModel -/
def w4 (b : Nat → Nat) (cI cZ : ClassId) (tw : Int32) (nk : Nat) (pa : Nat → Int32) (nc : Nat) (fo th tg : Nat → Int32) (nt : Nat) (tb te tk tt : Nat → Int32) (ex tc es : Int32) (wy : Int64) (ab re go be : Nat → Int32) : va_W :=
  [(b 0, .inr (4, [.int tw, .int (nI nk), .ref (b 1), .int (nI nc), .ref (b 2), .ref (b 3), .ref (b 4), .int (nI nt), .ref (b 5), .ref (b 6), .ref (b 7), .ref (b 8), .int ex, .int tc, .int es, .long wy, .ref (b 9), .ref (b 10), .ref (b 11), .ref (b 12)])),
   (b 1, .inl (cI, 8, .inl pa)), (b 2, .inl (cI, 48, .inl fo)), (b 3, .inl (cI, 48, .inl th)), (b 4, .inl (cI, 48, .inl tg)), (b 5, .inl (cI, 24, .inl tb)), (b 6, .inl (cI, 24, .inl te)), (b 7, .inl (cI, 24, .inl tk)), (b 8, .inl (cI, 24, .inl tt)),
   (b 9, .inl (cI, 8, .inl ab)), (b 10, .inl (cZ, 48, .inl re)), (b 11, .inl (cI, 384, .inl go)), (b 12, .inl (cI, 96, .inl be))]
/-! the reference's own words -/
theorem inI {x : Int32} {n : Nat} (hn : n < 2 ^ 31) : (!decide (x < 0) && !decide (nI n - 1 < x)) = hasI x n := by
  simp only [hasI]
  by_cases h : x < 0
  · simp [h]
  · simp only [h, decide_false, Bool.not_false, Bool.true_and]
    obtain ⟨j, hj, rfl⟩ := nI_of h
    rcases Nat.eq_zero_or_pos n with q | q
    · subst q
      rw [decide_eq_true (show nI 0 - 1 < nI j from by
        have h1 := nI_toInt hj
        rw [Int32.lt_iff_toInt_lt, h1]
        have : (nI 0 - 1).toInt = -1 := by decide
        omega), decide_eq_true ((nI_leI (a := 0) (by omega) hj).mpr (by omega))]
    · rw [zz_pred q]
      congr 1
      exact decide_eq_decide.mpr (by rw [nI_ltI (by omega) hj, nI_leI hn hj]; omega)
theorem ks_neg {x : Int32} {nk : Nat} (hk : nk ≤ 8) (h : x < 0) : ¬ x >>> (nI nk &&& 31) = 0 := by
  intro q
  have h1 : bt x 31 = true := by
    have := h
    rw [Int32.lt_iff_toInt_lt] at this
    have h2 : (0 : Int32).toInt = 0 := by decide
    rw [h2] at this
    have h3 : x.toBitVec.toInt < 0 := this
    have h4 := BitVec.toInt_neg_iff.mp h3
    show x.toBitVec.getLsbD 31 = true
    have h5 : x.toBitVec.msb = true := by
      rw [BitVec.msb_eq_decide]; exact decide_eq_true (by omega)
    rw [BitVec.msb_eq_getLsbD_last] at h5
    exact h5
  have h3 := b_sshr nk (by omega) x (i := 31 - nk) (by omega)
  rw [q, b_0, if_pos (by omega), show nk + (31 - nk) = 31 from by omega, h1] at h3
  cases h3
theorem bI_1 {b : Bool} : bI b = 1 ↔ b = true := by cases b <;> decide
def g4 (nk : Nat) (ab : Nat → Int32) (up : Nat → Nat → Bool) (nt : Nat) (tb te tk tt : Nat → Int32) (T : Nat → Nat → Nat) : Prop := 1 ≤ nk ∧ nk ≤ 8 ∧ nt ≤ 24 ∧ rT nt tb te tk tt T ∧ okT nk nt T ∧ rA nk ab up ∧ okU nk up
theorem rA_up {nk par : Nat} {ab : Nat → Int32} {up : Nat → Nat → Bool} (h : rA nk ab up) (ho : okU nk up) (hp : par < nk) (hk : nk < 8) : rA (nk + 1) (upd ab nk (ab par ||| (1 <<< (nI nk &&& 31)))) (upN up nk par) := by
  intro k hk1 h9 hh
  by_cases c : k = nk
  · subst c
    simp only [upd, if_true, upN, b_or]
    rw [h par hp h9 hh, b_pow k (by omega) (by omega), Bool.or_comm]
  · simp only [upd, if_neg c, upN]; exact h k (by omega) h9 hh
theorem lf_s {p : Nat → Bool} {n : Nat} : lf p (n + 1) = if p n then n else lf p n := rfl
/-- the marks of the reference -/
def inv4 (nc : Nat) (R v : Nat → Bool) (re : Nat → Int32) : Prop := (∀ i, i < 48 → re i = bI (v i)) ∧ ∀ i, v i = true → i < nc ∧ R i = true
theorem inv4_mark {nc : Nat} {R v : Nat → Bool} {re : Nat → Int32} {i : Nat} (h : inv4 nc R v re) (hi : i < nc) (hR : R i = true) : inv4 nc R (vs v i) (upd re i 1) := by
  refine ⟨fun j hj => ?_, fun j hj => ?_⟩
  · by_cases c : j = i
    · subst c; simp [upd, vs, bI]
    · simp only [upd, if_neg c, vs, decide_eq_false c, Bool.or_false]; exact h.1 j hj
  · simp only [vs, Bool.or_eq_true, decide_eq_true_eq] at hj
    rcases hj with q | q
    · exact h.2 j q
    · subst q; exact ⟨hi, hR⟩
def mk4 (nc : Nat) (R v v9 : Nat → Bool) (re9 : Nat → Int32) (mb : Bool) : Prop := inv4 nc R v9 re9 ∧ (∀ j, v j = true → v9 j = true) ∧ (mb = true → ct v9 nc = ct v nc + 1) ∧ (mb = false → v9 = v)
theorem ct_mono {v w : Nat → Bool} (h : ∀ j, v j = true → w j = true) (n : Nat) : ct v n ≤ ct w n := by
  induction n with
  | zero => exact Nat.le_refl _
  | succ n ih =>
    simp only [ct]
    cases e : v n
    · simp; omega
    · rw [h n e]; simp; exact ih
/-- while a pass goes on -/
def pr4 (nc : Nat) (v gv : Nat → Bool) (im : Bool) : Prop := (∀ j, v j = true → gv j = true) ∧ (im = false → gv = v) ∧ (im = true → ct v nc < ct gv nc)
theorem pr4_rf {nc : Nat} {v : Nat → Bool} : pr4 nc v v false := ⟨fun _ q => q, fun _ => rfl, fun q => by cases q⟩
theorem pr4_mk {nc : Nat} {R v gv v9 : Nat → Bool} {re9 : Nat → Int32} {im mb : Bool} (h : pr4 nc v gv im) (k : mk4 nc R gv v9 re9 mb) : pr4 nc v v9 (mb || im) := by
  obtain ⟨h1, h2, h3⟩ := h
  obtain ⟨-, k2, k3, k4⟩ := k
  refine ⟨fun j q => k2 j (h1 j q), fun q => ?_, fun q => ?_⟩
  · cases mb
    · rw [k4 rfl]; exact h2 q
    · cases q
  · have hm := ct_mono h1 nc
    cases mb
    · rw [k4 rfl]; exact h3 q
    · have := k3 rfl; omega

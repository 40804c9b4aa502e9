/-- the whole of a HandlerOptimizer -/
def w3 (a : Nat → Nat) (cI cZ : ClassId) (nk : Nat) (pa fa : Nat → Int32) (nc : Nat) (fo th tg : Nat → Int32) (nt : Nat) (tb te tk tt : Nat → Int32) (nu : Nat) (ub ue uk ut re ro fu bl go ra : Nat → Int32) (rc : Nat) (ex tc es : Int32) (wy : Int64) : va_W :=
  [(a 0, .inr (3, [.ref (a 1), .ref (a 4), .ref (a 8), .ref (a 13), .ref (a 18), .ref (a 19), .int (nI rc), .ref (a 20), .ref (a 21), .ref (a 22), .ref (a 23), .int ex, .int tc, .int es, .long wy])),
   (a 1, .inr (1, [.ref (a 2), .ref (a 3), .int (nI nk)])), (a 2, .inl (cI, 8, .inl pa)), (a 3, .inl (cI, 8, .inl fa)),
   (a 4, .inr (0, [.ref (a 5), .ref (a 6), .ref (a 7), .int (nI nc)])), (a 5, .inl (cI, 48, .inl fo)), (a 6, .inl (cI, 48, .inl th)), (a 7, .inl (cI, 48, .inl tg)),
   (a 8, .inr (2, [.ref (a 9), .ref (a 10), .ref (a 11), .ref (a 12), .int (nI nt)])), (a 9, .inl (cI, 24, .inl tb)), (a 10, .inl (cI, 24, .inl te)), (a 11, .inl (cI, 24, .inl tk)), (a 12, .inl (cI, 24, .inl tt)),
   (a 13, .inr (2, [.ref (a 14), .ref (a 15), .ref (a 16), .ref (a 17), .int (nI nu)])), (a 14, .inl (cI, 24, .inl ub)), (a 15, .inl (cI, 24, .inl ue)), (a 16, .inl (cI, 24, .inl uk)), (a 17, .inl (cI, 24, .inl ut)),
   (a 18, .inl (cZ, 48, .inl re)), (a 19, .inl (cI, 48, .inl ro)), (a 20, .inl (cI, 24, .inl fu)), (a 21, .inl (cI, 24, .inl bl)), (a 22, .inl (cI, 384, .inl go)), (a 23, .inl (cI, 49, .inl ra))]
/-! what is reached -/
def ct (v : Nat → Bool) : Nat → Nat
  | 0 => 0
  | n + 1 => ct v n + (if v n then 1 else 0)
def vs (v : Nat → Bool) (i : Nat) : Nat → Bool := fun j => v j || decide (j = i)
theorem ct_le (v : Nat → Bool) (n : Nat) : ct v n ≤ n := by
  induction n with
  | zero => exact Nat.le_refl _
  | succ n ih => simp only [ct]; split <;> omega
theorem ct_lt {v : Nat → Bool} {n i : Nat} (hi : i < n) (h : v i = false) : ct v n < n := by
  induction n with
  | zero => omega
  | succ n ih =>
    simp only [ct]
    by_cases c : i = n
    · subst c; have := ct_le v i; simp [h]; omega
    · have := ih (by omega); split <;> omega
theorem ct_ge {v : Nat → Bool} {n i : Nat} (hi : n ≤ i) : ct (vs v i) n = ct v n := by
  induction n with
  | zero => rfl
  | succ n ih => simp only [ct]; rw [ih (by omega)]; simp [vs, show ¬ n = i by omega]
theorem ct_set {v : Nat → Bool} {n i : Nat} (hi : i < n) (h : v i = false) : ct (vs v i) n = ct v n + 1 := by
  induction n with
  | zero => omega
  | succ n ih =>
    simp only [ct]
    by_cases c : i = n
    · subst c; rw [ct_ge (Nat.le_refl _)]; simp [vs, h]
    · rw [ih (by omega)]; simp only [vs, show ¬ n = i by omega, decide_false, Bool.or_false]; omega
/-- with i the code can go on with j -/
def ed (nk : Nat) (fo th tg : Nat → Int32) (G : Nat → Nat → Int32) (i j : Nat) : Prop :=
  ((fo i = 0 ∨ fo i = 2) ∧ j = i + 1) ∨ ((fo i = 1 ∨ fo i = 2) ∧ tg i = nI j) ∨ ∃ k, k < nk ∧ bt (th i) k = true ∧ G i k = nI j
/-- reached: in every set that holds 0 and goes along -/
def Rch (nc : Nat) (E : Nat → Nat → Prop) (i : Nat) : Prop := ∀ S : Nat → Prop, (0 < nc → S 0) → (∀ x y, x < nc → S x → E x y → y < nc → S y) → S i
noncomputable def rB (nc : Nat) (E : Nat → Nat → Prop) (i : Nat) : Bool := @decide (Rch nc E i) (Classical.propDecidable _)
theorem rB_iff {nc : Nat} {E : Nat → Nat → Prop} {i : Nat} : rB nc E i = true ↔ Rch nc E i := by
  simp [rB]
theorem rB_lt {nc : Nat} {E : Nat → Nat → Prop} {i : Nat} (h : rB nc E i = true) : i < nc := rB_iff.mp h (fun j => j < nc) (fun h => h) (fun _ _ _ _ _ h => h)
theorem rB_0 {nc : Nat} {E : Nat → Nat → Prop} (h : 0 < nc) : rB nc E 0 = true := rB_iff.mpr (fun _ h0 _ => h0 h)
theorem rB_step {nc : Nat} {E : Nat → Nat → Prop} {x y : Nat} (hx : x < nc) (h : rB nc E x = true) (he : E x y) (hy : y < nc) : rB nc E y = true := rB_iff.mpr (fun S h0 hs => hs x y hx (rB_iff.mp h S h0 hs) he hy)
theorem rB_least {nc : Nat} {E : Nat → Nat → Prop} {v : Nat → Bool} (h0 : 0 < nc → v 0 = true) (hs : ∀ x y, x < nc → v x = true → E x y → y < nc → v y = true) {i : Nat} (h : rB nc E i = true) : v i = true := rB_iff.mp h (fun j => v j = true) h0 hs
noncomputable def RB (nk nc : Nat) (fo th tg : Nat → Int32) (T : Nat → Nat → Nat) (nt : Nat) (up : Nat → Nat → Bool) : Nat → Bool := rB nc (ed nk fo th tg (gl T nt up))
/-- the marks of the class while it looks for what is reached -/
def inv3 (nc : Nat) (R v : Nat → Bool) (re ro : Nat → Int32) (rc : Nat) : Prop :=
  (∀ i, i < 48 → re i = bI (v i)) ∧ (∀ i, v i = true → i < nc ∧ R i = true) ∧ rc = ct v nc ∧ (∀ j, j < rc → ∃ i, i < nc ∧ ro j = nI i ∧ v i = true) ∧ (∀ i, v i = true → ∃ j, j < rc ∧ ro j = nI i)
theorem inv3_le {nc : Nat} {R v : Nat → Bool} {re ro : Nat → Int32} {rc : Nat} (h : inv3 nc R v re ro rc) : rc ≤ nc := by rw [h.2.2.1]; exact ct_le v nc
theorem inv3_mark {nc : Nat} {R v : Nat → Bool} {re ro : Nat → Int32} {rc i : Nat} (h : inv3 nc R v re ro rc) (hi : i < nc) (hv : v i = false) (hR : R i = true) : inv3 nc R (vs v i) (upd re i 1) (upd ro rc (nI i)) (rc + 1) := by
  obtain ⟨h1, h2, h3, h4, h5⟩ := h
  refine ⟨fun j hj => ?_, fun j hj => ?_, ?_, fun j hj => ?_, fun j hj => ?_⟩
  · by_cases c : j = i
    · subst c; simp [upd, vs, bI]
    · simp only [upd, if_neg c, vs, decide_eq_false c, Bool.or_false]; exact h1 j hj
  · simp only [vs, Bool.or_eq_true, decide_eq_true_eq] at hj
    rcases hj with q | q
    · exact h2 j q
    · subst q; exact ⟨hi, hR⟩
  · rw [ct_set hi hv, h3]
  · by_cases c : j = rc
    · subst c; exact ⟨i, hi, by simp [upd], by simp [vs]⟩
    · obtain ⟨a, b1, b2, b3⟩ := h4 j (by omega)
      exact ⟨a, b1, by simp only [upd, if_neg c]; exact b2, by simp [vs, b3]⟩
  · simp only [vs, Bool.or_eq_true, decide_eq_true_eq] at hj
    rcases hj with q | q
    · obtain ⟨a, b1, b2⟩ := h5 j q
      exact ⟨a, by omega, by simp only [upd, if_neg (show ¬ a = rc by omega)]; exact b2⟩
    · subst q; exact ⟨rc, by omega, by simp [upd]⟩
theorem ct_no (n : Nat) : ct (fun _ => false) n = 0 := by
  induction n with
  | zero => rfl
  | succ n ih => simp [ct, ih]
theorem inv3_0 {nc : Nat} {R : Nat → Bool} {re ro : Nat → Int32} (h : ∀ j, j < 48 → re j = 0) : inv3 nc R (fun _ => false) re ro 0 :=
  ⟨h, fun j q => absurd q Bool.false_ne_true, (ct_no nc).symm, fun j q => absurd q (Nat.not_lt_zero j), fun j q => absurd q Bool.false_ne_true⟩
def st3 (nc : Nat) (R v0 : Nat → Bool) (ro0 : Nat → Int32) (rc0 : Nat) (v : Nat → Bool) (re ro : Nat → Int32) (rc : Nat) : Prop :=
  inv3 nc R v re ro rc ∧ (∀ j, v0 j = true → v j = true) ∧ ag rc0 ro ro0 ∧ rc0 ≤ rc
theorem st3_rf {nc : Nat} {R v : Nat → Bool} {re ro : Nat → Int32} {rc : Nat} (h : inv3 nc R v re ro rc) : st3 nc R v ro rc v re ro rc := ⟨h, fun _ q => q, fun _ _ => rfl, Nat.le_refl _⟩
theorem st3_tr {nc : Nat} {R v0 v1 v2 : Nat → Bool} {ro0 re1 ro1 re2 ro2 : Nat → Int32} {rc0 rc1 rc2 : Nat} (h : st3 nc R v0 ro0 rc0 v1 re1 ro1 rc1) (k : st3 nc R v1 ro1 rc1 v2 re2 ro2 rc2) : st3 nc R v0 ro0 rc0 v2 re2 ro2 rc2 :=
  ⟨k.1, fun j q => k.2.1 j (h.2.1 j q), fun j q => (k.2.2.1 j (by have := h.2.2.2; omega)).trans (h.2.2.1 j q), Nat.le_trans h.2.2.2 k.2.2.2⟩
theorem st3_mark {nc : Nat} {R v : Nat → Bool} {re ro : Nat → Int32} {rc i : Nat} (h : inv3 nc R v re ro rc) (hi : i < nc) (hv : v i = false) (hR : R i = true) : st3 nc R v ro rc (vs v i) (upd re i 1) (upd ro rc (nI i)) (rc + 1) :=
  ⟨inv3_mark h hi hv hR, fun j q => by simp [vs, q], fun j q => by simp [upd, show ¬ j = rc by omega], by omega⟩
theorem hasI_at {x : Int32} {n : Nat} (hn : n < 2 ^ 31) (h : hasI x n = true) : ∃ i, i < n ∧ x = nI i := by
  simp only [hasI, Bool.and_eq_true, Bool.not_eq_true', decide_eq_false_iff_not] at h
  obtain ⟨j, hj, rfl⟩ := nI_of h.1
  exact ⟨j, by have := h.2; rw [nI_leI hn hj] at this; omega, rfl⟩
theorem hasI_f {x : Int32} {n i : Nat} (hn : n < 2 ^ 31) (h : hasI x n = false) (hi : i < n) : ¬ x = nI i := by
  intro q
  subst q
  have h1 : ¬ nI i < 0 := nI_pos (by omega)
  have h2 : ¬ nI n ≤ nI i := nI_ge hi hn
  simp [hasI, h1, h2] at h
/-- the code: its forms, what it throws, its targets -/
def okC (nk nc : Nat) (fo th tg : Nat → Int32) : Prop := nc ≤ 48 ∧ ∀ i, i < nc →
  ((fo i = 0 ∨ fo i = 3 ∨ fo i = 4) ∧ tg i = -1 ∨ (fo i = 1 ∨ fo i = 2) ∧ ∃ t, t < 48 ∧ tg i = nI t) ∧ (∃ n, n < 256 ∧ th i = nI n) ∧ (∀ k, nk ≤ k → k < 8 → bt (th i) k = false) ∧ (fo i = 4 → ∃ k, k < nk ∧ bt (th i) k = true)
/-- the rest of the state that the class keeps -/
def g3 (nk : Nat) (fa : Nat → Int32) (up : Nat → Nat → Bool) (nt : Nat) (tb te tk tt : Nat → Int32) (T : Nat → Nat → Nat) : Prop := 1 ≤ nk ∧ nk ≤ 8 ∧ nt ≤ 24 ∧ rT nt tb te tk tt T ∧ okT nk nt T ∧ rF nk fa up ∧ okU nk up

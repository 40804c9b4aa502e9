theorem rT_rn {nt y : Nat} {w : Nat → Nat} {tb te tk tt : Nat → Int32} {T : Nat → Nat → Nat} (h : rT nt tb te tk tt (mS (rnT w T) T y)) : rT nt (upd tb y (nI (T 0 y - w (T 0 y)))) (upd te y (nI (T 1 y - w (T 1 y)))) (upd tk y (nI (T 2 y))) (upd tt y (nI (T 3 y - w (T 3 y)))) (mS (rnT w T) T (y + 1)) := by
  intro e he
  have h1 := h e he
  by_cases c : e = y
  · subst c; simp [upd, mS, rnT]
  · simp only [upd, if_neg c, mS] at h1 ⊢
    by_cases d : e < y
    · simp only [d, show e < y + 1 by omega, if_true] at h1 ⊢; exact h1
    · simp only [d, show ¬ e < y + 1 by omega, if_false] at h1 ⊢; exact h1
theorem zz_incm (k : Nat) : nI k - 1 + Int32.ofInt 1 = nI k := by
  show nI k - 1 + 1 = nI k
  exact Int32.sub_add_cancel _ _
theorem ct_le2 {p : Nat → Bool} {a b : Nat} (h : a ≤ b) : ct p a ≤ ct p b := by
  induction b with
  | zero => rw [show a = 0 from by omega]; exact Nat.le_refl _
  | succ b ih =>
    by_cases c : a = b + 1
    · rw [c]; exact Nat.le_refl _
    · have := ih (by omega); simp only [ct]; omega
theorem kO_at {p : Nat → Bool} {n k9 j : Nat} (hk : 0 < k9) (hp : p (k9 - 1) = true) (hc : ct p k9 = j + 1) (hn : k9 - 1 < n) : nI k9 - 1 = nI (kO p n j) := by
  rw [zz_pred hk]
  have h1 : ct p (k9 - 1) = j := by
    have : ct p k9 = ct p (k9 - 1) + 1 := by
      obtain ⟨q, rfl⟩ : ∃ q, k9 = q + 1 := ⟨k9 - 1, by omega⟩
      simp only [Nat.add_sub_cancel] at hp ⊢
      simp [ct, hp]
    omega
  refine kO_hit hn hp h1 (fun k hk2 => ?_)
  cases e : p k
  · rfl
  · have h2 : ct p (k + 1) = ct p k + 1 := by simp [ct, e]
    have h3 := ct_le2 (p := p) (a := k + 1) (b := k9 - 1) (by omega)
    rw [decide_eq_false (by omega)]; rfl

/-! the reference: reached, uses, joins -/
theorem an_or {p : Nat → Bool} {n : Nat} : an p (n + 1) = (an p n || p n) := rfl
theorem al_and {p : Nat → Bool} {n : Nat} : al p (n + 1) = (al p n && p n) := rfl
theorem al_ff {p : Nat → Bool} {n m : Nat} (h : al p n = false) (hn : n ≤ m) : al p m = false := by
  cases e : al p m
  · rfl
  · rw [al_iff.mpr (fun k hk => al_iff.mp e k (by omega))] at h; cases h
/-- what the reference keeps of a table before it tries a join -/
def bY (y z : Nat) (be : Nat → Int32) (T : Nat → Nat → Nat) : Prop := ∀ e f, f < 4 → (e < y ∨ e = y ∧ f < z) → be (4 * e + f) = nI (T f e)
theorem bY_s {y z : Nat} {be : Nat → Int32} {T : Nat → Nat → Nat} (h : bY y z be T) (hz : z < 4) {x : Int32} (hx : x = nI (T z y)) : bY y (z + 1) (upd be (4 * y + z) x) T := by
  intro e f h1 h2
  by_cases c : 4 * e + f = 4 * y + z
  · have e1 : e = y := by omega
    have e2 : f = z := by omega
    subst e1; subst e2; simp [upd, hx]
  · simp only [upd, if_neg c]; exact h e f h1 (by omega)
theorem bY_n {y z : Nat} {be : Nat → Int32} {T : Nat → Nat → Nat} (h : bY y z be T) (hz : 4 ≤ z) : bY (y + 1) 0 be T := fun e f h1 h2 => h e f h1 (by omega)
/-- rows that are put back as far as y -/
def bk (y : Nat) (tb te tk tt : Nat → Int32) (T : Nat → Nat → Nat) : Prop := rT y tb te tk tt T
theorem bk_s {y : Nat} {tb te tk tt : Nat → Int32} {T : Nat → Nat → Nat} {b e k t : Int32} (h : rT y tb te tk tt T) (h0 : b = nI (T 0 y)) (h1 : e = nI (T 1 y)) (h2 : k = nI (T 2 y)) (h3 : t = nI (T 3 y)) : rT (y + 1) (upd tb y b) (upd te y e) (upd tk y k) (upd tt y t) T := by
  intro j hj
  by_cases c : j = y
  · subst c; simp [upd, h0, h1, h2, h3]
  · simp only [upd, if_neg c]; exact h j (by omega)
theorem lw_comm {up : Nat → Nat → Bool} {nk a b : Nat} : lw up nk a b = lw up nk b a := by
  have : (fun h => up a h && up b h) = (fun h => up b h && up a h) := by funext h; exact Bool.and_comm _ _
  simp only [lw, this]
/-- the joined entry in the place pl of a or b -/
theorem rT_pj {nt nk a b pl go : Nat} {tb te tk tt : Nat → Int32} {T : Nat → Nat → Nat} {up : Nat → Nat → Bool} (h : rT nt tb te tk tt T) (hp : pl = a ∧ go = b ∨ pl = b ∧ go = a) (h3 : T 3 a = T 3 b) : rT nt (upd tb pl (nI (min (T 0 a) (T 0 b)))) (upd te pl (nI (max (T 1 a) (T 1 b)))) (upd tk pl (nI (lw up nk (T 2 a) (T 2 b)))) (upd tt pl (nI (T 3 a))) (jS T up nk pl go) := by
  intro e he
  have h1 := h e he
  by_cases c : e = pl
  · subst c
    rcases hp with ⟨rfl, rfl⟩ | ⟨rfl, rfl⟩
    · simp [upd, jS]
    · simp [upd, jS, Nat.min_comm, Nat.max_comm, lw_comm (a := T 2 go), h3]
  · simp only [upd, if_neg c, jS]; exact h1
/-- uses, entry by entry -/
def uB (us : Nat → Nat → Bool) (n : Nat) (bg en : Nat → Int32) (e : Nat) : Prop := bg e = (if an (us e) n then nI (ff (us e) n) else -1) ∧ en e = nI (lb (us e) n)
theorem uB_0 {us : Nat → Nat → Bool} {bg en : Nat → Int32} {e : Nat} (h1 : bg e = -1) (h2 : en e = 0) : uB us 0 bg en e := ⟨by simp [an, h1], by rw [h2]; rfl⟩
theorem uB_f {us : Nat → Nat → Bool} {n : Nat} {bg en : Nat → Int32} {e : Nat} (h : uB us n bg en e) (hu : us e n = false) : uB us (n + 1) bg en e := by
  refine ⟨?_, ?_⟩
  · rw [h.1, an_or, hu, Bool.or_false, ff_s]
    by_cases c : an (us e) n = true <;> simp [c]
  · rw [h.2]; simp [lb, hu]
theorem uB_t {us : Nat → Nat → Bool} {n : Nat} {bg en : Nat → Int32} {e : Nat} (h : uB us n bg en e) (hu : us e n = true) (hn : n < 2 ^ 31) : uB us (n + 1) (if bg e = -1 then upd bg e (nI n) else bg) (upd en e (nI (n + 1))) e := by
  refine ⟨?_, by simp [upd, lb, hu]⟩
  rw [an_or, hu, Bool.or_true, if_pos rfl, ff_s]
  by_cases c : an (us e) n = true
  · have h1 := h.1
    rw [if_pos c] at h1
    have h2 : ¬ bg e = -1 := by rw [h1]; exact nI_ne_m1 (by have := ff_le (us e) n; omega)
    rw [if_neg h2, h1, if_pos c]
  · have h1 := h.1
    rw [if_neg c] at h1
    rw [if_pos h1]
    simp [upd, c, hu]
theorem uB_o {us : Nat → Nat → Bool} {n : Nat} {bg en bg2 en2 : Nat → Int32} {e : Nat} (h : uB us n bg en e) (h1 : bg2 e = bg e) (h2 : en2 e = en e) : uB us n bg2 en2 e := ⟨h1.trans h.1, h2.trans h.2⟩
theorem jLp_none {f : (Nat → Nat → Nat) × Nat → Option ((Nat → Nat → Nat) × Nat)} {n : Nat} {s : ((Nat → Nat → Nat) × Nat) × Nat} (h : f s.1 = none) : jLp f n s = s := by
  cases n with
  | zero => rfl
  | succ n => simp only [jLp]; rw [h]
theorem jN_pos {v : Nat → Bool} {th : Nat → Int32} {nk nc : Nat} {up : Nat → Nat → Bool} {G : Nat → Nat → Int32} {T D : Nat → Nat → Nat} {nt n : Nat} (h : jN v th nk nc up G (T, nt) = some (D, n)) : 0 < nt ∧ n = nt - 1 := by
  simp only [jN] at h
  split at h
  · rename_i q
    have h2 := congrArg Prod.snd (Option.some.inj h)
    simp only at h2 q
    exact ⟨by omega, h2.symm⟩
  · cases h

/-! dropping, shrinking, joining -/
theorem okT_sh {nk nc nt : Nat} {T : Nat → Nat → Nat} {us : Nat → Nat → Bool} (h : okT nk nt T) (hn : nc ≤ 48) : okT nk nt (shT us nc T) := by
  intro e he
  obtain ⟨h0, h1, h2, h3⟩ := h e he
  have q1 := ff_le (us e) nc
  have q2 := lb_le (p := us e) (n := nc)
  simp only [shT]
  split
  · refine ⟨?_, ?_, ?_, ?_⟩ <;> simp <;> omega
  · exact ⟨h0, h1, h2, h3⟩
/-- on the way through the entries: those ahead of y are shrunk -/
noncomputable def shY (us : Nat → Nat → Bool) (n : Nat) (T : Nat → Nat → Nat) (y : Nat) : Nat → Nat → Nat := fun f e => if e < y then shT us n T f e else T f e
theorem shY_0 {us : Nat → Nat → Bool} {n : Nat} {T : Nat → Nat → Nat} : shY us n T 0 = T := by
  funext f e; simp [shY]
theorem rT_shY {nt n y : Nat} {us : Nat → Nat → Bool} {tb te tk tt : Nat → Int32} {T : Nat → Nat → Nat} (h : rT nt tb te tk tt (shY us n T y)) (hy : nt ≤ y) : rT nt tb te tk tt (shT us n T) := by
  intro e he
  have := h e he
  simpa [shY, show e < y by omega] using this
theorem rT_shk {nt n y : Nat} {us : Nat → Nat → Bool} {tb te tk tt : Nat → Int32} {T : Nat → Nat → Nat} (h : rT nt tb te tk tt (shY us n T y)) (hs : ∀ f, shT us n T f y = T f y) : rT nt tb te tk tt (shY us n T (y + 1)) := by
  intro e he
  have h1 := h e he
  by_cases c : e = y
  · subst c; simpa [shY, hs] using h1
  · simp only [shY] at h1 ⊢
    by_cases d : e < y
    · simp only [d, show e < y + 1 by omega, if_true] at h1 ⊢; exact h1
    · simp only [d, show ¬ e < y + 1 by omega, if_false] at h1 ⊢; exact h1
theorem rT_shs {nt n y : Nat} {us : Nat → Nat → Bool} {tb te tk tt : Nat → Int32} {T : Nat → Nat → Nat} {b e9 : Int32} (h : rT nt tb te tk tt (shY us n T y)) (hu : an (us y) n = true) (hb : b = nI (ff (us y) n)) (he : e9 = nI (lb (us y) n)) : rT nt (upd tb y b) (upd te y e9) tk tt (shY us n T (y + 1)) := by
  intro e hl
  have h1 := h e hl
  by_cases c : e = y
  · subst c
    have : ¬ e < e := by omega
    simp only [shY, this, if_false] at h1
    simp [upd, shY, shT, hu, hb, he, h1]
  · simp only [shY, upd, if_neg c] at h1 ⊢
    by_cases d : e < y
    · simp only [d, show e < y + 1 by omega, if_true] at h1 ⊢; exact h1
    · simp only [d, show ¬ e < y + 1 by omega, if_false] at h1 ⊢; exact h1
theorem shT_un {us : Nat → Nat → Bool} {n y : Nat} {T : Nat → Nat → Nat} (h : an (us y) n = false) : ∀ f, shT us n T f y = T f y := fun f => by simp [shT, h]
theorem shT_ti {us : Nat → Nat → Bool} {n y : Nat} {T : Nat → Nat → Nat} (h0 : T 0 y = ff (us y) n) (h1 : T 1 y = lb (us y) n) : ∀ f, shT us n T f y = T f y := fun f => by
  simp only [shT]
  split
  · split
    · rename_i q; rw [q, h0]
    · split
      · rename_i q; rw [q, h1]
      · rfl
  · rfl
def shN (us : Nat → Nat → Bool) (n : Nat) (T : Nat → Nat → Nat) (e s : Nat) : Nat := if shC us n T e then s + 1 else s
/-- where errors go, as a row of eight for each instruction -/
def gO (nc nk : Nat) (go : Nat → Int32) (G : Nat → Nat → Int32) : Prop := ∀ i, i < nc → ∀ k, k < nk → go (i * 8 + k) = G i k
def gY (y z nk : Nat) (go : Nat → Int32) (G : Nat → Nat → Int32) : Prop := ∀ i k, k < nk → (i < y ∨ i = y ∧ k < z) → go (i * 8 + k) = G i k
theorem gY_s {y z nk : Nat} {go : Nat → Int32} {G : Nat → Nat → Int32} (h : gY y z nk go G) (hk : nk ≤ 8) (hz : z < nk) : gY y (z + 1) nk (upd go (y * 8 + z) (G y z)) G := by
  intro i k h1 h2
  by_cases c : i * 8 + k = y * 8 + z
  · have e1 : i = y := by omega
    have e2 : k = z := by omega
    subst e1; subst e2; simp [upd]
  · simp only [upd, if_neg c]
    exact h i k h1 (by omega)
theorem gY_n {y z nk : Nat} {go : Nat → Int32} {G : Nat → Nat → Int32} (h : gY y z nk go G) (hz : nk ≤ z) : gY (y + 1) 0 nk go G := fun i k h1 h2 => h i k h1 (by omega)
/-- with G1 in place of G all errors that can be thrown go where they went -/
def kp (v : Nat → Bool) (th : Nat → Int32) (nk : Nat) (G1 G : Nat → Nat → Int32) (i : Nat) : Bool := al (fun k => !(v i && bt (th i) k) || decide (G1 i k = G i k)) nk
def kpA (v : Nat → Bool) (th : Nat → Int32) (nk nc : Nat) (G1 G : Nat → Nat → Int32) : Bool := al (kp v th nk G1 G) nc
/-- the joined entry in place of p -/
def jS (T : Nat → Nat → Nat) (up : Nat → Nat → Bool) (nk p g : Nat) : Nat → Nat → Nat := fun f e => if e = p then (if f = 0 then min (T 0 p) (T 0 g) else if f = 1 then max (T 1 p) (T 1 g) else if f = 2 then lw up nk (T 2 p) (T 2 g) else T f p) else T f e
def jT (T : Nat → Nat → Nat) (up : Nat → Nat → Bool) (nk p g : Nat) : Nat → Nat → Nat := dT (jS T up nk p g) g
theorem rT_js {nt nk p g : Nat} {ub ue uk ut : Nat → Int32} {T : Nat → Nat → Nat} {up : Nat → Nat → Bool} (h : rT nt ub ue uk ut T) : rT nt (upd ub p (nI (min (T 0 p) (T 0 g)))) (upd ue p (nI (max (T 1 p) (T 1 g)))) (upd uk p (nI (lw up nk (T 2 p) (T 2 g)))) ut (jS T up nk p g) := by
  intro e he
  have h1 := h e he
  by_cases c : e = p
  · subst c; simp [upd, jS, h1]
  · simp only [upd, if_neg c, jS]; exact h1
theorem okT_js {nt nk p g : Nat} {T : Nat → Nat → Nat} {up : Nat → Nat → Bool} (h : okT nk nt T) (hp : p < nt) (hg : g < nt) (hk : 1 ≤ nk) : okT nk nt (jS T up nk p g) := by
  intro e he
  have h1 := h p hp
  have h2 := h g hg
  have h3 : lw up nk (T 2 p) (T 2 g) < nk := lf_lt hk
  by_cases c : e = p
  · subst c
    simp [jS]
    omega
  · simp only [jS, if_neg c]; exact h e he
theorem okT_jt {nt nk p g : Nat} {T : Nat → Nat → Nat} {up : Nat → Nat → Bool} (h : okT nk nt T) (hp : p < nt) (hg : g < nt) (hk : 1 ≤ nk) : okT nk (nt - 1) (jT T up nk p g) := okT_del (okT_js h hp hg hk)
def kq (v : Nat → Bool) (th : Nat → Int32) (nk nc : Nat) (up : Nat → Nat → Bool) (G : Nat → Nat → Int32) (T : Nat → Nat → Nat) (nt p g : Nat) : Bool := kpA v th nk nc (gl (jT T up nk p g) (nt - 1) up) G
def pj (v : Nat → Bool) (th : Nat → Int32) (nk nc : Nat) (up : Nat → Nat → Bool) (G : Nat → Nat → Int32) (T : Nat → Nat → Nat) (nt m : Nat) : Bool := decide (m / 24 < m % 24) && decide (m % 24 < nt) && decide (T 3 (m / 24) = T 3 (m % 24)) && (kq v th nk nc up G T nt (m / 24) (m % 24) || kq v th nk nc up G T nt (m % 24) (m / 24))
theorem pj_at {v : Nat → Bool} {th : Nat → Int32} {nk nc : Nat} {up : Nat → Nat → Bool} {G : Nat → Nat → Int32} {T : Nat → Nat → Nat} {nt a b : Nat} (hb : b < 24) : pj v th nk nc up G T nt (a * 24 + b) = (decide (a < b) && decide (b < nt) && decide (T 3 a = T 3 b) && (kq v th nk nc up G T nt a b || kq v th nk nc up G T nt b a)) := by
  have e1 : (a * 24 + b) / 24 = a := by omega
  have e2 : (a * 24 + b) % 24 = b := by omega
  simp only [pj, e1, e2]
/-- the first join that can be done: the table behind it -/
def jN (v : Nat → Bool) (th : Nat → Int32) (nk nc : Nat) (up : Nat → Nat → Bool) (G : Nat → Nat → Int32) (s : (Nat → Nat → Nat) × Nat) : Option ((Nat → Nat → Nat) × Nat) :=
  let m := ff (pj v th nk nc up G s.1 s.2) (s.2 * 24)
  if m < s.2 * 24 then some (if kq v th nk nc up G s.1 s.2 (m / 24) (m % 24) then jT s.1 up nk (m / 24) (m % 24) else jT s.1 up nk (m % 24) (m / 24), s.2 - 1) else none
theorem jN_none {v : Nat → Bool} {th : Nat → Int32} {nk nc : Nat} {up : Nat → Nat → Bool} {G : Nat → Nat → Int32} {T : Nat → Nat → Nat} {nt : Nat} (h : ∀ m, m < nt * 24 → pj v th nk nc up G T nt m = false) : jN v th nk nc up G (T, nt) = none := by
  have : ff (pj v th nk nc up G T nt) (nt * 24) = nt * 24 := ff_none h
  simp [jN, this]
theorem jN_some {v : Nat → Bool} {th : Nat → Int32} {nk nc : Nat} {up : Nat → Nat → Bool} {G : Nat → Nat → Int32} {T : Nat → Nat → Nat} {nt a b : Nat} (hb : b < nt) (hn : nt ≤ 24) (hab : a < b) (hT : T 3 a = T 3 b) (hq : (kq v th nk nc up G T nt a b || kq v th nk nc up G T nt b a) = true) (h : ∀ m, m < a * 24 + b → pj v th nk nc up G T nt m = false) : jN v th nk nc up G (T, nt) = some (if kq v th nk nc up G T nt a b then jT T up nk a b else jT T up nk b a, nt - 1) := by
  have hlt : a * 24 + b < nt * 24 := by omega
  have hp : pj v th nk nc up G T nt (a * 24 + b) = true := by
    rw [pj_at (by omega)]; simp [hab, hb, hT, hq]
  have e : ff (pj v th nk nc up G T nt) (nt * 24) = a * 24 + b := ff_eq hlt hp h
  have e1 : (a * 24 + b) / 24 = a := by omega
  have e2 : (a * 24 + b) % 24 = b := by omega
  simp only [jN, e, e1, e2, if_pos hlt]
def jLp (f : (Nat → Nat → Nat) × Nat → Option ((Nat → Nat → Nat) × Nat)) : Nat → ((Nat → Nat → Nat) × Nat) × Nat → ((Nat → Nat → Nat) × Nat) × Nat
  | 0, s => s
  | n + 1, s => match f s.1 with
    | none => s
    | some t => jLp f n (t, s.2 + 1)
theorem jLp_le {f : (Nat → Nat → Nat) × Nat → Option ((Nat → Nat → Nat) × Nat)} {n : Nat} {s : ((Nat → Nat → Nat) × Nat) × Nat} : (jLp f n s).2 ≤ s.2 + n := by
  induction n generalizing s with
  | zero => simp [jLp]
  | succ n ih =>
    simp only [jLp]
    split
    · omega
    · rename_i t _; exact Nat.le_trans (ih (s := (t, s.2 + 1))) (by simp only; omega)
theorem dlp_le {u : Nat → Bool} {n : Nat} {s : (Nat → Nat → Nat) × Nat} : (dlp u n s).2 ≤ s.2 := by
  induction n generalizing s with
  | zero => simp [dlp]
  | succ n ih =>
    simp only [dlp]
    refine Nat.le_trans ih ?_
    split
    · exact Nat.le_refl _
    · simp only; omega
/-- what a round of improving makes of a table, and how much it changes -/
noncomputable def dR (nk nc : Nat) (fo th tg : Nat → Int32) (up : Nat → Nat → Bool) (s : (Nat → Nat → Nat) × Nat) : (Nat → Nat → Nat) × Nat := dlp (fun e => an (US nk nc fo th tg s.1 s.2 up e) nc) s.2 s
noncomputable def sR (nk nc : Nat) (fo th tg : Nat → Int32) (up : Nat → Nat → Bool) (s : (Nat → Nat → Nat) × Nat) : (Nat → Nat → Nat) × Nat := (shT (US nk nc fo th tg s.1 s.2 up) nc s.1, s.2)
noncomputable def sRc (nk nc : Nat) (fo th tg : Nat → Int32) (up : Nat → Nat → Bool) (s : (Nat → Nat → Nat) × Nat) : Nat := it (shN (US nk nc fo th tg s.1 s.2 up) nc s.1) s.2 0
noncomputable def jR (nk nc : Nat) (fo th tg : Nat → Int32) (up : Nat → Nat → Bool) (s : (Nat → Nat → Nat) × Nat) : ((Nat → Nat → Nat) × Nat) × Nat := jLp (jN (RB nk nc fo th tg s.1 s.2 up) th nk nc up (gl s.1 s.2 up)) 24 (s, 0)
noncomputable def rR (nk nc : Nat) (fo th tg : Nat → Int32) (up : Nat → Nat → Bool) (s : (Nat → Nat → Nat) × Nat) : ((Nat → Nat → Nat) × Nat) × Nat :=
  let s1 := dR nk nc fo th tg up s
  let s2 := sR nk nc fo th tg up s1
  let s3 := jR nk nc fo th tg up s2
  (s3.1, (s.2 - s1.2) + sRc nk nc fo th tg up s1 + s3.2)
def iL (f : (Nat → Nat → Nat) × Nat → ((Nat → Nat → Nat) × Nat) × Nat) : Nat → ((Nat → Nat → Nat) × Nat) × Nat → ((Nat → Nat → Nat) × Nat) × Nat
  | 0, s => s
  | n + 1, s => if (f s.1).2 = 0 then ((f s.1).1, s.2) else iL f n ((f s.1).1, s.2 + 1)
theorem sRc_le {nk nc : Nat} {fo th tg : Nat → Int32} {up : Nat → Nat → Bool} {s : (Nat → Nat → Nat) × Nat} : sRc nk nc fo th tg up s ≤ s.2 := by
  have := it_le (f := shN (US nk nc fo th tg s.1 s.2 up) nc s.1) (n := s.2) (s := 0) (m := 1) (fun i x _ => by simp only [shN]; split <;> omega)
  simpa [sRc] using this

/-! sweeping, runs, the checksum -/
theorem hasI_nI {y n : Nat} (hy : y < 2 ^ 31) (hn : n < 2 ^ 31) : hasI (nI y) n = decide (y < n) := by
  have h1 : ¬ nI y < 0 := nI_pos hy
  simp only [hasI, h1, decide_false, Bool.not_false, Bool.true_and]
  by_cases c : y < n
  · rw [decide_eq_true c, decide_eq_false (fun q => by rw [nI_leI hn hy] at q; omega)]; rfl
  · rw [decide_eq_false c, decide_eq_true ((nI_leI hn hy).mpr (by omega))]; rfl
theorem hasI_m1 (n : Nat) : hasI (-1) n = false := by
  have : ((-1 : Int32) < 0) := by decide
  simp [hasI, this]
def rmN (v : Nat → Bool) (nc n : Nat) : Nat := ct (fun i => decide (i < nc) && !v i) n
/-- the table with the numbers of the swept code -/
def rnT (w : Nat → Nat) (T : Nat → Nat → Nat) : Nat → Nat → Nat := fun f e => if f = 2 then T 2 e else T f e - w (T f e)
def swT (w : Nat → Nat) (T : Nat → Nat → Nat) (nt : Nat) : (Nat → Nat → Nat) × Nat := dlp (fun e => decide (rnT w T 0 e < rnT w T 1 e)) nt (rnT w T, nt)
theorem okT_rn {nk nt : Nat} {w : Nat → Nat} {T : Nat → Nat → Nat} (h : okT nk nt T) : okT nk nt (rnT w T) := by
  intro e he
  obtain ⟨h0, h1, h2, h3⟩ := h e he
  simp only [rnT]
  refine ⟨?_, ?_, ?_, ?_⟩ <;> simp <;> omega
def mS (T D : Nat → Nat → Nat) (y : Nat) : Nat → Nat → Nat := fun f e => if e < y then T f e else D f e
theorem rT_mS {n z : Nat} {w : Nat → Nat} {tb te tk tt : Nat → Int32} {T D : Nat → Nat → Nat} (h : rT n tb te tk tt (mS T D (z + 1))) (hd : ∀ f, D f z = rnT w T f z) : rT n (upd tb z (nI (T 0 z - w (T 0 z)))) (upd te z (nI (T 1 z - w (T 1 z)))) tk (upd tt z (nI (T 3 z - w (T 3 z)))) (mS T D z) := by
  intro e he
  have h1 := h e he
  by_cases c : e = z
  · subst c
    simp only [mS, show e < e + 1 by omega, if_true] at h1
    simp [upd, mS, hd, rnT, h1]
  · simp only [upd, if_neg c, mS] at h1 ⊢
    by_cases d : e < z
    · simp only [d, show e < z + 1 by omega, if_true] at h1 ⊢; exact h1
    · simp only [d, show ¬ e < z + 1 by omega, if_false] at h1 ⊢; exact h1
theorem mS_del {T D : Nat → Nat → Nat} {z : Nat} : dT (mS T D z) z = mS T (dT D z) z := by
  funext f j
  simp only [dT, mS]
  by_cases c : j < z
  · simp [c]
  · simp [c, show ¬ j + 1 < z by omega]
def tgr (w : Nat → Nat) (t : Int32) : Int32 := if t = -1 then -1 else nI (t.toNatClampNeg - w t.toNatClampNeg)
/-- a step of sweeping the code -/
def swG (v : Nat → Bool) (w : Nat → Nat) (i : Nat) (s : (Nat → Int32) × (Nat → Int32) × (Nat → Int32) × Nat) : (Nat → Int32) × (Nat → Int32) × (Nat → Int32) × Nat :=
  if v i then (upd s.1 s.2.2.2 (s.1 i), upd s.2.1 s.2.2.2 (s.2.1 i), upd s.2.2.1 s.2.2.2 (tgr w (s.2.2.1 i)), s.2.2.2 + 1) else s
def swC (v : Nat → Bool) (w : Nat → Nat) (nc : Nat) (fo th tg : Nat → Int32) : (Nat → Int32) × (Nat → Int32) × (Nat → Int32) × Nat := it (swG v w) nc (fo, th, tg, 0)
/-- what the swept rows hold, when y instructions were looked at -/
def swI (v : Nat → Bool) (w : Nat → Nat) (nc y : Nat) (fo th tg f1 t1 g1 : Nat → Int32) (n : Nat) : Prop :=
  n ≤ y ∧ (∀ j, y ≤ j → f1 j = fo j ∧ t1 j = th j ∧ g1 j = tg j) ∧ ∀ j, j < n → ∃ q, q < nc ∧ f1 j = fo q ∧ t1 j = th q ∧ g1 j = tgr w (tg q)
theorem swI_s {v : Nat → Bool} {w : Nat → Nat} {nc y n : Nat} {fo th tg f1 t1 g1 : Nat → Int32} (h : swI v w nc y fo th tg f1 t1 g1 n) (hy : y < nc) : swI v w nc (y + 1) fo th tg (upd f1 n (f1 y)) (upd t1 n (t1 y)) (upd g1 n (tgr w (g1 y))) (n + 1) := by
  obtain ⟨h1, h2, h3⟩ := h
  refine ⟨by omega, fun j hj => ?_, fun j hj => ?_⟩
  · simp only [upd, if_neg (show ¬ j = n by omega)]; exact h2 j (by omega)
  · by_cases c : j = n
    · subst c
      have := h2 y (by omega)
      exact ⟨y, hy, by simp [upd, this.1], by simp [upd, this.2.1], by simp [upd, this.2.2]⟩
    · simp only [upd, if_neg c]; exact h3 j (by omega)
theorem swI_0 {v : Nat → Bool} {w : Nat → Nat} {nc y n : Nat} {fo th tg f1 t1 g1 : Nat → Int32} (h : swI v w nc y fo th tg f1 t1 g1 n) : swI v w nc (y + 1) fo th tg f1 t1 g1 n := ⟨by have := h.1; omega, fun j hj => h.2.1 j (by omega), h.2.2⟩
theorem tgr_m1 {w : Nat → Nat} {t : Int32} (h : t = -1) : -1 = tgr w t := by simp [tgr, h]
theorem tgr_at {w : Nat → Nat} {n : Nat} (h : n < 2 ^ 31) : nI (n - w n) = tgr w (nI n) := by
  simp only [tgr, if_neg (nI_ne_m1 h), nI_clamp h]
theorem okC_sw {nk nc n : Nat} {v : Nat → Bool} {w : Nat → Nat} {fo th tg f1 t1 g1 : Nat → Int32} (h : okC nk nc fo th tg) (hs : swI v w nc nc fo th tg f1 t1 g1 n) : okC nk n f1 t1 g1 := by
  obtain ⟨h1, h2⟩ := h
  refine ⟨by have := hs.1; omega, fun j hj => ?_⟩
  obtain ⟨q, hq, e1, e2, e3⟩ := hs.2.2 j hj
  obtain ⟨a, b, c, d⟩ := h2 q hq
  rw [e1, e2, e3]
  refine ⟨?_, b, c, d⟩
  rcases a with ⟨a1, a2⟩ | ⟨a1, t, a2, a3⟩
  · exact Or.inl ⟨a1, (tgr_m1 a2).symm⟩
  · refine Or.inr ⟨a1, t - w t, by omega, ?_⟩
    rw [a3, ← tgr_at (by omega)]
/-! runs -/
def bcE (x : Int32) : Int32 :=
  let i1 := x - ((x.toUInt32 >>> ((1 : Int32).toUInt32 &&& Int32.toUInt32 31)).toInt32 &&& 1431655765)
  let i2 := (i1 &&& 858993459) + ((i1.toUInt32 >>> ((2 : Int32).toUInt32 &&& Int32.toUInt32 31)).toInt32 &&& 858993459)
  let i3 := (i2 + (i2.toUInt32 >>> ((4 : Int32).toUInt32 &&& Int32.toUInt32 31)).toInt32) &&& 252645135
  let i4 := i3 + (i3.toUInt32 >>> ((8 : Int32).toUInt32 &&& Int32.toUInt32 31)).toInt32
  let i5 := i4 + (i4.toUInt32 >>> ((16 : Int32).toUInt32 &&& Int32.toUInt32 31)).toInt32
  i5 &&& 63
def bc (x : Int32) : Nat := ct (bt x) 8
theorem bc_ok : ∀ n, n < 256 → bcE (nI n) = nI (bc (nI n)) := by decide +kernel
theorem bc_le (x : Int32) : bc x ≤ 8 := ct_le _ _
/-- the number of the kind of an option -/
def kO (p : Nat → Bool) (n j : Nat) : Nat := if ff (fun k => p k && decide (ct p k = j)) n < n then ff (fun k => p k && decide (ct p k = j)) n else 0
theorem kO_hit {p : Nat → Bool} {n j y : Nat} (hy : y < n) (hp : p y = true) (hc : ct p y = j) (hlt : ∀ k, k < y → (p k && decide (ct p k = j)) = false) : nI y = nI (kO p n j) := by
  have : ff (fun k => p k && decide (ct p k = j)) n = y := ff_eq hy (by simp [hp, hc]) hlt
  simp [kO, this, hy]
theorem kO_no {p : Nat → Bool} {n j : Nat} (hlt : ∀ k, k < n → (p k && decide (ct p k = j)) = false) : 0 = nI (kO p n j) := by
  have : ff (fun k => p k && decide (ct p k = j)) n = n := ff_none hlt
  simp [kO, this]; rfl
theorem kO_lt {p : Nat → Bool} {n j : Nat} (hn : 0 < n) : kO p n j < n := by
  simp only [kO]; split <;> omega
abbrev RS : Type := Int32 × Nat × Nat × Int32 × Int32 × Int64
/-- what is behind throwing the kind k from i: where it goes on, taken, escaped, way -/
def thS (T : Nat → Nat → Nat) (nt : Nat) (up : Nat → Nat → Bool) (i k : Nat) (tc es : Int32) (wy : Int64) : Int32 × Int32 × Int32 × Int64 :=
  if tkf T nt up i k < nt then (nI (T 3 (tkf T nt up i k)), tc + 1, es, wy * 31 + 10 + (nI k).toInt64) else (-1, tc, nI k, wy * 31 + 10 + (nI k).toInt64)
/-- what is behind executing i with the option o -/
def exS (fo th tg : Nat → Int32) (nk : Nat) (T : Nat → Nat → Nat) (nt : Nat) (up : Nat → Nat → Bool) (i o : Nat) (tc es : Int32) (wy : Int64) : Int32 × Int32 × Int32 × Int64 :=
  if fo i = 3 then (-1, tc, es, wy * 31 + (fo i).toInt64)
  else if o < noN (fo i) then (nnx (fo i) (tg i) i o, tc, es, wy * 31 + (fo i).toInt64)
  else thS T nt up i (kO (bt (th i)) nk (o - noN (fo i))) tc es (wy * 31 + (fo i).toInt64)
def opN (fo th : Nat → Int32) (i : Nat) : Nat := noN (fo i) + bc (th i)
def stS (fo th tg : Nat → Int32) (nk : Nat) (T : Nat → Nat → Nat) (nt : Nat) (up : Nat → Nat → Bool) (s : RS) : RS :=
  let i := s.1.toNatClampNeg
  let m := opN fo th i
  let r := exS fo th tg nk T nt up i (s.2.1 % m) s.2.2.2.1 s.2.2.2.2.1 s.2.2.2.2.2
  (r.1, s.2.1 / m, s.2.2.1 + 1, r.2.1, r.2.2.1, r.2.2.2)
def rnS (nc : Nat) (f : RS → RS) : Nat → RS → RS
  | 0, s => s
  | n + 1, s => if hasI s.1 nc then rnS nc f n (f s) else s
def ouS (nc : Nat) (s : RS) : Int32 := if s.2.2.2.2.1 = -1 then (if hasI s.1 nc then 2 else 0) else 1
theorem noN_le (x : Int32) : noN x ≤ 2 := by simp only [noN]; split <;> (try split) <;> omega
theorem bc_pos {x : Int32} {k : Nat} (hk : k < 8) (h : bt x k = true) : 0 < bc x := by
  have : ∀ n, k < n → 0 < ct (bt x) n := by
    intro n
    induction n with
    | zero => omega
    | succ n ih =>
      intro q
      simp only [ct]
      by_cases c : k = n
      · subst c; simp [h]
      · have := ih (by omega); omega
  exact this 8 hk
theorem opN_pos {nk nc : Nat} {fo th tg : Nat → Int32} (h : okC nk nc fo th tg) (hk : nk ≤ 8) {i : Nat} (hi : i < nc) : 0 < opN fo th i := by
  obtain ⟨a, b, c, d⟩ := h.2 i hi
  simp only [opN]
  by_cases q : fo i = 4
  · obtain ⟨k, h1, h2⟩ := d q
    have := bc_pos (by omega) h2; omega
  · have : 0 < noN (fo i) := by simp only [noN, q, if_false]; split <;> omega
    omega
/-- where a run goes on stays a number, or ends -/
def okA (x : Int32) : Prop := x = -1 ∨ ∃ j, j < 49 ∧ x = nI j
/-! the checksum -/
def dgK (pa : Nat → Int32) (nk : Nat) (d : Int64) : Int64 := it (fun j d => d * 31 + (pa (j + 1)).toInt64) (nk - 1) d
def dgC (fo th tg : Nat → Int32) (nc : Nat) (d : Int64) : Int64 := it (fun i d => ((d * 31 + (fo i).toInt64) * 31 + (th i).toInt64) * 31 + (tg i).toInt64) nc d
def dgT (T : Nat → Nat → Nat) (nt : Nat) (d : Int64) : Int64 := it (fun e d => (((d * 31 + (nI (T 0 e)).toInt64) * 31 + (nI (T 1 e)).toInt64) * 31 + (nI (T 2 e)).toInt64) * 31 + (nI (T 3 e)).toInt64) nt d
def dgA (nk : Nat) (pa : Nat → Int32) (nc : Nat) (fo th tg : Nat → Int32) (nt : Nat) (T : Nat → Nat → Nat) (ex tc es : Int32) : Int64 :=
  ((dgT T nt (dgC fo th tg nc (dgK pa nk (137 * 31 + (nI nk).toInt64) * 31 + (nI nc).toInt64) * 31 + (nI nt).toInt64) * 31 + ex.toInt64) * 31 + tc.toInt64) * 31 + es.toInt64

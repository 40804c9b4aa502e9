/-! counting and looking through -/
def an (p : Nat → Bool) : Nat → Bool
  | 0 => false
  | n + 1 => an p n || p n
def al (p : Nat → Bool) : Nat → Bool
  | 0 => true
  | n + 1 => al p n && p n
def lb (p : Nat → Bool) : Nat → Nat
  | 0 => 0
  | n + 1 => if p n then n + 1 else lb p n
def it {σ : Type} (f : Nat → σ → σ) : Nat → σ → σ
  | 0, s => s
  | n + 1, s => f n (it f n s)
theorem an_iff {p : Nat → Bool} {n : Nat} : an p n = true ↔ ∃ k, k < n ∧ p k = true := by
  induction n with
  | zero => simp [an]
  | succ n ih =>
    simp only [an, Bool.or_eq_true, ih]
    constructor
    · rintro (⟨k, h1, h2⟩ | h)
      · exact ⟨k, by omega, h2⟩
      · exact ⟨n, by omega, h⟩
    · rintro ⟨k, h1, h2⟩
      by_cases c : k = n
      · subst c; exact Or.inr h2
      · exact Or.inl ⟨k, by omega, h2⟩
theorem al_iff {p : Nat → Bool} {n : Nat} : al p n = true ↔ ∀ k, k < n → p k = true := by
  induction n with
  | zero => simp [al]
  | succ n ih =>
    simp only [al, Bool.and_eq_true, ih]
    constructor
    · rintro ⟨h1, h2⟩ k hk
      by_cases c : k = n
      · subst c; exact h2
      · exact h1 k (by omega)
    · intro h; exact ⟨fun k hk => h k (by omega), h n (by omega)⟩
theorem al_f {p : Nat → Bool} {n k : Nat} (hk : k < n) (h : p k = false) : al p n = false := by
  cases e : al p n
  · rfl
  · rw [al_iff.mp e k hk] at h; cases h
theorem an_f {p : Nat → Bool} {n : Nat} : an p n = false ↔ ∀ k, k < n → p k = false := by
  constructor
  · intro h k hk
    cases e : p k
    · rfl
    · rw [an_iff.mpr ⟨k, hk, e⟩] at h; cases h
  · intro h
    cases e : an p n
    · rfl
    · obtain ⟨k, h1, h2⟩ := an_iff.mp e; rw [h k h1] at h2; cases h2
theorem lb_pos {p : Nat → Bool} {n : Nat} : 0 < lb p n ↔ an p n = true := by
  induction n with
  | zero => simp [lb, an]
  | succ n ih =>
    simp only [lb, an]
    split
    · rename_i h; simp [h]
    · rename_i h; rw [ih]; simp [h]
theorem lb_le {p : Nat → Bool} {n : Nat} : lb p n ≤ n := by
  induction n with
  | zero => simp [lb]
  | succ n ih => simp only [lb]; split <;> omega
theorem ff_an {p : Nat → Bool} {n : Nat} : ff p n < n ↔ an p n = true := by
  rw [an_iff]
  constructor
  · intro h; exact ⟨_, h, ff_at h⟩
  · rintro ⟨k, h1, h2⟩
    rcases Nat.lt_or_ge (ff p n) n with q | q
    · exact q
    · have := ff_min (p := p) (n := n) (j := k) (by omega); rw [h2] at this; cases this
theorem ff_s {p : Nat → Bool} {n : Nat} : ff p (n + 1) = if an p n then ff p n else if p n then n else n + 1 := by
  simp only [ff]
  by_cases c : an p n = true
  · rw [if_pos c, if_pos (ff_an.mpr c)]
  · rw [if_neg c, if_neg (fun q => c (ff_an.mp q))]
theorem it_le {f : Nat → Nat → Nat} {n s m : Nat} (h : ∀ i x, i < n → f i x ≤ x + m) : it f n s ≤ s + n * m := by
  induction n with
  | zero => simp [it]
  | succ n ih =>
    simp only [it]
    have h1 := h n (it f n s) (by omega)
    have h2 := ih (fun i x hi => h i x (by omega))
    rw [Nat.add_mul, Nat.one_mul]; omega
theorem it_ge {f : Nat → Nat → Nat} {n s : Nat} (h : ∀ i x, i < n → x ≤ f i x) : s ≤ it f n s := by
  induction n with
  | zero => simp [it]
  | succ n ih =>
    simp only [it]
    exact Nat.le_trans (ih (fun i x hi => h i x (by omega))) (h n _ (by omega))
theorem it_id {σ : Type} {f : Nat → σ → σ} {n : Nat} {s : σ} (h : ∀ i x, i < n → f i x = x) : it f n s = s := by
  induction n with
  | zero => rfl
  | succ n ih => simp only [it]; rw [ih (fun i x hi => h i x (by omega)), h n _ (by omega)]
theorem it_congr {σ : Type} {f g : Nat → σ → σ} {n : Nat} {s : σ} (h : ∀ i x, i < n → f i x = g i x) : it f n s = it g n s := by
  induction n with
  | zero => rfl
  | succ n ih => simp only [it]; rw [ih (fun i x hi => h i x (by omega)), h n _ (by omega)]
/-- the entry e takes an error that the reached instruction i can throw -/
noncomputable def US (nk nc : Nat) (fo th tg : Nat → Int32) (T : Nat → Nat → Nat) (nt : Nat) (up : Nat → Nat → Bool) (e i : Nat) : Bool := RB nk nc fo th tg T nt up i && an (fun k => bt (th i) k && decide (tkf T nt up i k = e)) nk
/-- the rows of first and last uses, when i instructions were looked at, and some kinds of the next -/
def u3 (nt : Nat) (us : Nat → Nat → Bool) (i : Nat) (b : Nat → Bool) (fu bl : Nat → Int32) : Prop := ∀ e, e < nt → bl e = nI (if b e then i + 1 else lb (us e) i) ∧ ((b e = true ∨ an (us e) i = true) → fu e = nI (if an (us e) i then ff (us e) i else i))
def uF (nt : Nat) (us : Nat → Nat → Bool) (n : Nat) (fu bl : Nat → Int32) : Prop := ∀ e, e < nt → bl e = nI (lb (us e) n) ∧ (an (us e) n = true → fu e = nI (ff (us e) n))
theorem u3_0 {nt : Nat} {us : Nat → Nat → Bool} {fu bl : Nat → Int32} (h : ∀ j, j < 24 → bl j = 0) (hn : nt ≤ 24) : u3 nt us 0 (fun _ => false) fu bl := by
  intro e he
  exact ⟨by rw [h e (by omega)]; rfl, fun q => by simp [an] at q⟩
theorem u3_congr {nt : Nat} {us : Nat → Nat → Bool} {i : Nat} {b c : Nat → Bool} {fu bl : Nat → Int32} (h : u3 nt us i b fu bl) (hb : ∀ e, e < nt → c e = b e) : u3 nt us i c fu bl := by
  intro e he; rw [hb e he]; exact h e he
theorem u3_next {nt : Nat} {us : Nat → Nat → Bool} {i : Nat} {b : Nat → Bool} {fu bl : Nat → Int32} (h : u3 nt us i b fu bl) (hb : ∀ e, e < nt → b e = us e i) : u3 nt us (i + 1) (fun _ => false) fu bl := by
  intro e he
  obtain ⟨h1, h2⟩ := h e he
  rw [hb e he] at h1 h2
  refine ⟨?_, fun q => ?_⟩
  · rw [h1]; simp [lb]
  · simp only [Bool.false_eq_true, false_or, an, Bool.or_eq_true] at q
    have h3 := h2 (by rcases q with q | q; exact Or.inr q; exact Or.inl q)
    rw [h3, ff_s]
    by_cases c : an (us e) i = true
    · simp [an, c]
    · have : us e i = true := by rcases q with q | q; exact absurd q c; exact q
      simp [an, c, this]
theorem u3_note {nt : Nat} {us : Nat → Nat → Bool} {i : Nat} {b : Nat → Bool} {fu bl : Nat → Int32} {x : Nat} (h : u3 nt us i b fu bl) (hx : x < nt) (hi : i < 48) : u3 nt us i (fun e => b e || decide (e = x)) (if 0 < bl x then fu else upd fu x (nI i)) (upd bl x (nI (i + 1))) := by
  intro e he
  obtain ⟨h1, h2⟩ := h e he
  by_cases c : e = x
  · subst c
    refine ⟨by simp [upd], fun _ => ?_⟩
    have hl := lb_le (p := us e) (n := i)
    by_cases d : 0 < bl e
    · rw [if_pos d]
      rw [h1] at d
      have d2 := (nI_ltI (a := 0) (by omega) (by split <;> omega)).mp d
      apply h2
      by_cases q : b e = true
      · exact Or.inl q
      · rw [if_neg q] at d2; exact Or.inr (lb_pos.mp d2)
    · rw [if_neg d]
      have d2 : ¬ an (us e) i = true := fun q => d (by
        rw [h1]
        refine (nI_ltI (a := 0) (by omega) (by split <;> omega)).mpr ?_
        split
        · omega
        · exact lb_pos.mpr q)
      simp [upd, d2]
  · refine ⟨by simp only [upd, if_neg c, decide_eq_false c, Bool.or_false]; exact h1, fun q => ?_⟩
    simp only [decide_eq_false c, Bool.or_false] at q
    have h3 := h2 q
    split
    · exact h3
    · simp only [upd, if_neg c]; exact h3
theorem u3_end {nt : Nat} {us : Nat → Nat → Bool} {i : Nat} {fu bl : Nat → Int32} (h : u3 nt us i (fun _ => false) fu bl) : uF nt us i fu bl := by
  intro e he
  obtain ⟨h1, h2⟩ := h e he
  exact ⟨by simpa using h1, fun q => by have := h2 (Or.inr q); simpa [q] using this⟩
theorem uF_has {nt : Nat} {us : Nat → Nat → Bool} {n : Nat} {fu bl : Nat → Int32} (h : uF nt us n fu bl) {e : Nat} (he : e < nt) (hn : n ≤ 48) : decide (0 < bl e) = an (us e) n := by
  have hl := lb_le (p := us e) (n := n)
  rw [(h e he).1]
  by_cases c : an (us e) n = true
  · rw [c]; exact decide_eq_true ((nI_ltI (a := 0) (by omega) (by omega)).mpr (lb_pos.mpr c))
  · rw [Bool.not_eq_true] at c
    rw [c]
    refine decide_eq_false (fun q => ?_)
    have := lb_pos.mp ((nI_ltI (a := 0) (by omega) (by omega)).mp q)
    rw [c] at this; cases this
def bU (v : Nat → Bool) (th : Nat → Int32) (f : Nat → Nat → Nat) (i k e : Nat) : Bool := v i && an (fun k => bt (th i) k && decide (f i k = e)) k
theorem bU_s0 {v : Nat → Bool} {th : Nat → Int32} {f : Nat → Nat → Nat} {i k e : Nat} (h : (v i && bt (th i) k) = false) : bU v th f i (k + 1) e = bU v th f i k e := by
  simp only [bU, an]
  cases c : v i
  · rfl
  · rw [c] at h; simp at h; simp [h]
theorem bU_s1 {v : Nat → Bool} {th : Nat → Int32} {f : Nat → Nat → Nat} {i k e : Nat} (h : (v i && bt (th i) k) = true) : bU v th f i (k + 1) e = (bU v th f i k e || decide (e = f i k)) := by
  simp only [Bool.and_eq_true] at h
  simp only [bU, an, h.1, h.2, Bool.true_and]
  congr 1
  exact decide_eq_decide.mpr eq_comm
/-- dropping: from the last entry on -/
def dlp (u : Nat → Bool) : Nat → (Nat → Nat → Nat) × Nat → (Nat → Nat → Nat) × Nat
  | 0, s => s
  | e + 1, s => dlp u e (if u e then s else (dT s.1 e, s.2 - 1))
/-- shrinking -/
noncomputable def shT (us : Nat → Nat → Bool) (n : Nat) (T : Nat → Nat → Nat) : Nat → Nat → Nat := fun f e => if an (us e) n then (if f = 0 then ff (us e) n else if f = 1 then lb (us e) n else T f e) else T f e
def shC (us : Nat → Nat → Bool) (n : Nat) (T : Nat → Nat → Nat) (e : Nat) : Bool := an (us e) n && !(decide (T 0 e = ff (us e) n) && decide (T 1 e = lb (us e) n))
theorem zz_decm (z : Nat) : nI z + Int32.ofInt (-1) = nI z - 1 := by
  have e1 : Int32.ofInt (-1) = -1 := by decide
  rw [e1, ← Int32.sub_eq_add_neg]
theorem zz_cdt {y : Nat} (hy : y < 2 ^ 31) (h : nI y - 1 < 0) : y = 0 := by
  rcases Nat.eq_zero_or_pos y with q | q
  · exact q
  · rw [zz_pred q] at h
    exact absurd h (nI_pos (by omega))
theorem zz_cdf {y : Nat} (h : ¬ nI y - 1 < 0) : 0 < y := by
  rcases Nat.eq_zero_or_pos y with q | q
  · subst q; exact absurd (by decide) h
  · exact q
theorem zz_subn {a b : Nat} (h : b ≤ a) : nI a - nI b = nI (a - b) := by
  unfold nI
  rw [Int32.ofNat_sub _ _ h]
/-- leaving, parts -/
def lvG (v : Nat → Bool) (th : Nat → Int32) (f : Nat → Nat → Nat) (nt i k : Nat) (s : Int32) : Int32 := if (v i && bt (th i) k) && !decide (f i k < nt) then s ||| (1 <<< (nI k &&& 31)) else s
def lvI (v : Nat → Bool) (th : Nat → Int32) (f : Nat → Nat → Nat) (nt nk n : Nat) : Int32 := it (fun i s => it (lvG v th f nt i) nk s) n 0
def smK (G : Nat → Nat → Int32) (nk i : Nat) : Bool := al (fun k => decide (G i k = G (i - 1) k)) nk
def ptG (G : Nat → Nat → Int32) (nk i s : Nat) : Nat := if decide (i = 0) || !smK G nk i then s + 1 else s
def ptN (G : Nat → Nat → Int32) (nk n : Nat) : Nat := it (ptG G nk) n 0

/-! improving comes to its end -/
theorem upd_same {f : Nat → Int32} {k : Nat} {x : Int32} (h : f k = x) : upd f k x = f := by
  funext j
  simp only [upd]
  split
  · rename_i q; rw [q, h]
  · rfl
def fin9 (f : (Nat → Nat → Nat) × Nat → ((Nat → Nat → Nat) × Nat) × Nat) : Nat → (Nat → Nat → Nat) × Nat → Prop
  | 0, s => (f s).2 = 0
  | k + 1, s => (f s).2 = 0 ∨ fin9 f k (f s).1
theorem fin9_up {f : (Nat → Nat → Nat) × Nat → ((Nat → Nat → Nat) × Nat) × Nat} {k : Nat} : ∀ {s : (Nat → Nat → Nat) × Nat}, fin9 f k s → fin9 f (k + 1) s := by
  induction k with
  | zero => intro s h; exact Or.inl h
  | succ k ih =>
    intro s h
    rcases h with q | q
    · exact Or.inl q
    · exact Or.inr (ih q)
theorem fin9_mono {f : (Nat → Nat → Nat) × Nat → ((Nat → Nat → Nat) × Nat) × Nat} {k n : Nat} {s : (Nat → Nat → Nat) × Nat} (h : fin9 f k s) (hn : k ≤ n) : fin9 f n s := by
  induction n with
  | zero => rw [show k = 0 from by omega] at h; exact h
  | succ n ih =>
    by_cases c : k = n + 1
    · rw [c] at h; exact h
    · exact fin9_up (ih (by omega))
theorem dlp_same {u : Nat → Bool} {k : Nat} : ∀ {s : (Nat → Nat → Nat) × Nat}, k ≤ s.2 → (dlp u k s).2 = s.2 → dlp u k s = s ∧ ∀ e, e < k → u e = true := by
  induction k with
  | zero => intro s _ _; exact ⟨rfl, fun e he => absurd he (Nat.not_lt_zero e)⟩
  | succ k ih =>
    intro s hk h
    simp only [dlp] at h ⊢
    by_cases c : u k = true
    · rw [if_pos c] at h ⊢
      obtain ⟨h1, h2⟩ := ih (s := s) (by omega) h
      exact ⟨h1, fun e he => by
        by_cases d : e = k
        · rw [d]; exact c
        · exact h2 e (by omega)⟩
    · rw [if_neg c] at h
      have := dlp_le (u := u) (n := k) (s := (dT s.1 k, s.2 - 1))
      simp only at this; omega
theorem dlp_all {u : Nat → Bool} {k : Nat} {s : (Nat → Nat → Nat) × Nat} (h : ∀ e, e < k → u e = true) : dlp u k s = s := by
  induction k with
  | zero => rfl
  | succ k ih =>
    simp only [dlp]
    rw [if_pos (h k (by omega))]
    exact ih (fun e he => h e (by omega))
theorem jLp_cnt {f : (Nat → Nat → Nat) × Nat → Option ((Nat → Nat → Nat) × Nat)} (hf : ∀ s t, f s = some t → 0 < s.2 ∧ t.2 = s.2 - 1) {n : Nat} : ∀ {s : ((Nat → Nat → Nat) × Nat) × Nat}, (jLp f n s).1.2 + (jLp f n s).2 = s.1.2 + s.2 ∧ s.2 ≤ (jLp f n s).2 ∧ ((jLp f n s).2 = s.2 → jLp f n s = s) := by
  induction n with
  | zero => intro s; exact ⟨rfl, Nat.le_refl _, fun _ => rfl⟩
  | succ n ih =>
    intro s
    simp only [jLp]
    split
    · exact ⟨rfl, Nat.le_refl _, fun _ => rfl⟩
    · rename_i t ht
      obtain ⟨h1, h2⟩ := hf _ _ ht
      obtain ⟨a, b, c⟩ := ih (s := (t, s.2 + 1))
      simp only at a b
      exact ⟨by omega, by omega, fun q => by omega⟩
theorem jR_cnt {nk nc : Nat} {fo th tg : Nat → Int32} {up : Nat → Nat → Bool} {s : (Nat → Nat → Nat) × Nat} : (jR nk nc fo th tg up s).1.2 + (jR nk nc fo th tg up s).2 = s.2 ∧ ((jR nk nc fo th tg up s).2 = 0 → (jR nk nc fo th tg up s).1 = s) := by
  have := jLp_cnt (f := jN (RB nk nc fo th tg s.1 s.2 up) th nk nc up (gl s.1 s.2 up)) (fun a b hab => by
    obtain ⟨a1, a2⟩ := a
    obtain ⟨b1, b2⟩ := b
    exact jN_pos hab) (n := 24) (s := (s, 0))
  simp only [Nat.add_zero] at this
  exact ⟨this.1, fun q => by simp only [jR] at q ⊢; rw [this.2.2 q]⟩
section Shr
variable {nk nc nt : Nat} {fo th tg : Nat → Int32} {T : Nat → Nat → Nat} {up : Nat → Nat → Bool}
theorem US_tp {e i : Nat} (h : US nk nc fo th tg T nt up e i = true) (he : e < nt) : T 0 e ≤ i ∧ i < T 1 e ∧ i < nc := by
  simp only [US, Bool.and_eq_true] at h
  obtain ⟨h1, h2⟩ := h
  obtain ⟨k, hk, h3⟩ := an_iff.mp h2
  simp only [Bool.and_eq_true, decide_eq_true_eq] at h3
  have h4 : tkf T nt up i k < nt := by rw [h3.2]; exact he
  have h5 := ff_at (p := tp T up i k) (n := nt) h4
  rw [show ff (tp T up i k) nt = e from h3.2] at h5
  simp only [tp, Bool.and_eq_true, decide_eq_true_eq] at h5
  exact ⟨h5.1.1, h5.1.2, rB_lt h1⟩
theorem lb_last {p : Nat → Bool} {n : Nat} (h : 0 < lb p n) : p (lb p n - 1) = true ∧ lb p n ≤ n := by
  induction n with
  | zero => simp [lb] at h
  | succ n ih =>
    simp only [lb] at h ⊢
    split
    · rename_i q; exact ⟨by simpa using q, Nat.le_refl _⟩
    · rename_i q
      rw [if_neg q] at h
      obtain ⟨a, b⟩ := ih h
      exact ⟨a, by omega⟩
theorem lb_ge {p : Nat → Bool} {n i : Nat} (hi : i < n) (h : p i = true) : i < lb p n := by
  induction n with
  | zero => omega
  | succ n ih =>
    simp only [lb]
    split
    · omega
    · rename_i q
      by_cases c : i = n
      · rw [c] at h; exact absurd h q
      · exact ih (by omega)
theorem ff_first {p : Nat → Bool} {n i : Nat} (h : p i = true) : ff p n ≤ i := by
  rcases Nat.lt_or_ge i (ff p n) with q | q
  · rw [ff_min q] at h; cases h
  · exact q
theorem sh_tp {i k j : Nat} (hj : j < nt) (h : tp T up i k j = false) : tp (shT (US nk nc fo th tg T nt up) nc T) up i k j = false := by
  by_cases c : an (US nk nc fo th tg T nt up j) nc = true
  · have h2 : shT (US nk nc fo th tg T nt up) nc T 2 j = T 2 j := by simp [shT]
    cases e : up k (T 2 j)
    · exact tp_2 (by rw [h2]; exact e)
    · have h0 : shT (US nk nc fo th tg T nt up) nc T 0 j = ff (US nk nc fo th tg T nt up j) nc := by simp [shT, c]
      have h1 : shT (US nk nc fo th tg T nt up) nc T 1 j = lb (US nk nc fo th tg T nt up j) nc := by simp [shT, c]
      have f1 := US_tp (ff_at (ff_an.mpr c)) hj
      have f2 := US_tp (lb_last (lb_pos.mpr c)).1 hj
      have f3 := lb_pos.mpr c
      simp only [tp, e, Bool.and_true, Bool.and_eq_false_iff, decide_eq_false_iff_not] at h
      rcases h with q | q
      · exact tp_0 (by rw [h0]; omega)
      · exact tp_1 (by rw [h1]; omega)
  · have h0 : ∀ f, shT (US nk nc fo th tg T nt up) nc T f j = T f j := shT_un (by simpa using c)
    simp only [tp] at h ⊢
    rw [h0, h0, h0]; exact h
theorem sh_tk {i k : Nat} (hR : RB nk nc fo th tg T nt up i = true) (hk : k < nk) (hb : bt (th i) k = true) : tkf (shT (US nk nc fo th tg T nt up) nc T) nt up i k = tkf T nt up i k := by
  rcases Nat.lt_or_ge (tkf T nt up i k) nt with q | q
  · have hu : US nk nc fo th tg T nt up (tkf T nt up i k) i = true := by
      simp only [US, Bool.and_eq_true]
      exact ⟨hR, an_iff.mpr ⟨k, hk, by simp [hb]⟩⟩
    have hi := rB_lt hR
    have c : an (US nk nc fo th tg T nt up (tkf T nt up i k)) nc = true := an_iff.mpr ⟨i, hi, hu⟩
    have h5 : tp T up i k (tkf T nt up i k) = true := ff_at q
    simp only [tp, Bool.and_eq_true, decide_eq_true_eq] at h5
    refine ff_eq q (tp_t ?_ ?_ ?_) (fun j hj => sh_tp (by omega) (ff_min hj))
    · rw [show shT (US nk nc fo th tg T nt up) nc T 0 (tkf T nt up i k) = ff (US nk nc fo th tg T nt up (tkf T nt up i k)) nc from by simp [shT, c]]
      exact ff_first hu
    · rw [show shT (US nk nc fo th tg T nt up) nc T 1 (tkf T nt up i k) = lb (US nk nc fo th tg T nt up (tkf T nt up i k)) nc from by simp [shT, c]]
      exact lb_ge hi hu
    · rw [show shT (US nk nc fo th tg T nt up) nc T 2 (tkf T nt up i k) = T 2 (tkf T nt up i k) from by simp [shT]]
      exact h5.2
  · have hall : ∀ j, j < nt → tp T up i k j = false := fun j hj => ff_min (n := nt) (show j < ff (tp T up i k) nt from by have : tkf T nt up i k = ff (tp T up i k) nt := rfl; omega)
    have e1 : tkf T nt up i k = nt := ff_none hall
    rw [e1]
    exact ff_none (fun j hj => sh_tp hj (hall j hj))
theorem sh_gl {i k : Nat} (hR : RB nk nc fo th tg T nt up i = true) (hk : k < nk) (hb : bt (th i) k = true) : gl (shT (US nk nc fo th tg T nt up) nc T) nt up i k = gl T nt up i k := by
  simp only [gl, sh_tk hR hk hb]
  split
  · rw [show shT (US nk nc fo th tg T nt up) nc T 3 (tkf T nt up i k) = T 3 (tkf T nt up i k) from by simp [shT]]
  · rfl
theorem sh_ed {i j : Nat} (hR : RB nk nc fo th tg T nt up i = true) : ed nk fo th tg (gl (shT (US nk nc fo th tg T nt up) nc T) nt up) i j ↔ ed nk fo th tg (gl T nt up) i j := by
  constructor
  · rintro (h | h | ⟨k, h1, h2, h3⟩)
    · exact Or.inl h
    · exact Or.inr (Or.inl h)
    · exact Or.inr (Or.inr ⟨k, h1, h2, by rw [← sh_gl hR h1 h2]; exact h3⟩)
  · rintro (h | h | ⟨k, h1, h2, h3⟩)
    · exact Or.inl h
    · exact Or.inr (Or.inl h)
    · exact Or.inr (Or.inr ⟨k, h1, h2, by rw [sh_gl hR h1 h2]; exact h3⟩)
theorem sh_RB : RB nk nc fo th tg (shT (US nk nc fo th tg T nt up) nc T) nt up = RB nk nc fo th tg T nt up := by
  funext i
  have h1 : RB nk nc fo th tg (shT (US nk nc fo th tg T nt up) nc T) nt up i = true → RB nk nc fo th tg T nt up i = true :=
    rB_least (fun q => rB_0 q) (fun x y hx q he hy => rB_step hx q ((sh_ed q).mp he) hy)
  have h2 : RB nk nc fo th tg T nt up i = true → (RB nk nc fo th tg (shT (US nk nc fo th tg T nt up) nc T) nt up i && RB nk nc fo th tg T nt up i) = true :=
    rB_least (v := fun j => RB nk nc fo th tg (shT (US nk nc fo th tg T nt up) nc T) nt up j && RB nk nc fo th tg T nt up j)
      (fun q => by simp only [Bool.and_eq_true]; exact ⟨rB_0 q, rB_0 q⟩)
      (fun x y hx q he hy => by
        simp only [Bool.and_eq_true] at q ⊢
        exact ⟨rB_step hx q.1 ((sh_ed q.2).mpr he) hy, rB_step hx q.2 he hy⟩)
  cases e : RB nk nc fo th tg T nt up i
  · cases e2 : RB nk nc fo th tg (shT (US nk nc fo th tg T nt up) nc T) nt up i
    · rfl
    · rw [h1 e2] at e; cases e
  · have := h2 e
    simp only [Bool.and_eq_true] at this
    exact this.1
theorem sh_US : US nk nc fo th tg (shT (US nk nc fo th tg T nt up) nc T) nt up = US nk nc fo th tg T nt up := by
  funext e i
  simp only [US]
  rw [sh_RB]
  cases c : RB nk nc fo th tg T nt up i
  · rfl
  · simp only [Bool.true_and]
    have : ∀ n, n ≤ nk → an (fun k => bt (th i) k && decide (tkf (shT (US nk nc fo th tg T nt up) nc T) nt up i k = e)) n = an (fun k => bt (th i) k && decide (tkf T nt up i k = e)) n := by
      intro n
      induction n with
      | zero => intro _; rfl
      | succ n ih =>
        intro hn
        simp only [an]
        rw [ih (by omega)]
        cases d : bt (th i) n
        · rfl
        · rw [sh_tk c (by omega) d]
    exact this nk (Nat.le_refl _)
end Shr
theorem rR_fin {nk nc : Nat} {fo th tg : Nat → Int32} {up : Nat → Nat → Bool} : ∀ (n : Nat) (T : Nat → Nat → Nat) (nt : Nat), nt ≤ n → fin9 (rR nk nc fo th tg up) (nt + 1) (T, nt) := by
  intro n
  induction n with
  | zero =>
    intro T nt h
    by_cases c : (rR nk nc fo th tg up (T, nt)).2 = 0
    · exact Or.inl c
    · exfalso
      have h1 : (dR nk nc fo th tg up (T, nt)).2 ≤ nt := dlp_le
      have h2 := sRc_le (nk := nk) (nc := nc) (fo := fo) (th := th) (tg := tg) (up := up) (s := dR nk nc fo th tg up (T, nt))
      have h3 := (jR_cnt (nk := nk) (nc := nc) (fo := fo) (th := th) (tg := tg) (up := up) (s := sR nk nc fo th tg up (dR nk nc fo th tg up (T, nt)))).1
      have h4 : (sR nk nc fo th tg up (dR nk nc fo th tg up (T, nt))).2 = (dR nk nc fo th tg up (T, nt)).2 := rfl
      simp only [rR] at c
      omega
  | succ n ih =>
    intro T nt h
    by_cases c : (rR nk nc fo th tg up (T, nt)).2 = 0
    · exact Or.inl c
    · refine Or.inr ?_
      have h1 : (dR nk nc fo th tg up (T, nt)).2 ≤ nt := dlp_le
      have h3 := jR_cnt (nk := nk) (nc := nc) (fo := fo) (th := th) (tg := tg) (up := up) (s := sR nk nc fo th tg up (dR nk nc fo th tg up (T, nt)))
      have h4 : (sR nk nc fo th tg up (dR nk nc fo th tg up (T, nt))).2 = (dR nk nc fo th tg up (T, nt)).2 := rfl
      have h5 : (rR nk nc fo th tg up (T, nt)).1 = (jR nk nc fo th tg up (sR nk nc fo th tg up (dR nk nc fo th tg up (T, nt)))).1 := rfl
      rcases Nat.lt_or_ge ((rR nk nc fo th tg up (T, nt)).1).2 nt with q | q
      · exact fin9_mono (ih (rR nk nc fo th tg up (T, nt)).1.1 (rR nk nc fo th tg up (T, nt)).1.2 (by omega)) (by omega)
      · -- only shrunk
        rw [h5] at q
        have e1 : (dR nk nc fo th tg up (T, nt)).2 = nt := by omega
        have e2 : (jR nk nc fo th tg up (sR nk nc fo th tg up (dR nk nc fo th tg up (T, nt)))).2 = 0 := by omega
        obtain ⟨d1, d2⟩ := dlp_same (u := fun e => an (US nk nc fo th tg T nt up e) nc) (k := nt) (s := (T, nt)) (Nat.le_refl _) e1
        have d3 : dR nk nc fo th tg up (T, nt) = (T, nt) := d1
        have d4 := h3.2 e2
        rw [d3] at e2 d4 h5
        have d5 : (rR nk nc fo th tg up (T, nt)).1 = (shT (US nk nc fo th tg T nt up) nc T, nt) := by rw [h5, d4]; rfl
        rw [d5]
        have s1 : dR nk nc fo th tg up (shT (US nk nc fo th tg T nt up) nc T, nt) = (shT (US nk nc fo th tg T nt up) nc T, nt) := by
          simp only [dR]
          rw [sh_US]
          exact dlp_all d2
        have s2 : sR nk nc fo th tg up (shT (US nk nc fo th tg T nt up) nc T, nt) = (shT (US nk nc fo th tg T nt up) nc T, nt) := by
          simp only [sR]
          rw [sh_US]
          congr 1
          funext f e
          by_cases c9 : an (US nk nc fo th tg T nt up e) nc = true
          · simp only [shT, c9, if_true]
            by_cases f0 : f = 0
            · simp [f0]
            · by_cases f1 : f = 1
              · simp [f1]
              · simp [f0, f1]
          · simp only [shT, c9]; rfl
        have s3 : sRc nk nc fo th tg up (shT (US nk nc fo th tg T nt up) nc T, nt) = 0 := by
          simp only [sRc]
          rw [sh_US]
          refine it_id (fun e x _ => ?_)
          have : shC (US nk nc fo th tg T nt up) nc (shT (US nk nc fo th tg T nt up) nc T) e = false := by
            by_cases c9 : an (US nk nc fo th tg T nt up e) nc = true
            · simp [shC, shT, c9]
            · simp [shC, c9]
          simp [shN, this]
        refine fin9_mono (k := 0) ?_ (Nat.zero_le _)
        show (rR nk nc fo th tg up (shT (US nk nc fo th tg T nt up) nc T, nt)).2 = 0
        simp only [rR]
        rw [s1, s2, s3]
        have e3 : (jR nk nc fo th tg up (shT (US nk nc fo th tg T nt up) nc T, nt)).2 = 0 := e2
        omega

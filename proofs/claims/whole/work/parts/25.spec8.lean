/-! the calls from outside -/
theorem zz_out3 {x : Int32} (h0 : ¬ x = 0) (h1 : ¬ x = 1) (h2 : ¬ x = 2) : x.toInt < 0 ∨ 2 < x.toInt := by
  have a := zz_tn (n := 0) (by decide) h0
  have b := zz_tn (n := 1) (by decide) h1
  have c := zz_tn (n := 2) (by decide) h2
  omega
theorem zz_out4 {x : Int32} (h0 : ¬ x = 0) (h1 : ¬ x = 1) (h2 : ¬ x = 2) (h3 : ¬ x = 3) : x.toInt < 0 ∨ 3 < x.toInt := by
  have a := zz_tn (n := 0) (by decide) h0
  have b := zz_tn (n := 1) (by decide) h1
  have c := zz_tn (n := 2) (by decide) h2
  have d := zz_tn (n := 3) (by decide) h3
  omega
theorem hasI_n3 {x : Int32} (h0 : ¬ x = 0) (h1 : ¬ x = 1) (h2 : ¬ x = 2) : hasI x 3 = false := by
  cases e : hasI x 3
  · rfl
  · obtain ⟨i, hi, rfl⟩ := hasI_at (by omega) e
    rcases (show i = 0 ∨ i = 1 ∨ i = 2 by omega) with rfl | rfl | rfl
    · exact absurd rfl h0
    · exact absurd rfl h1
    · exact absurd rfl h2
theorem hasI_n4 {x : Int32} (h0 : ¬ x = 0) (h1 : ¬ x = 1) (h2 : ¬ x = 2) (h3 : ¬ x = 3) : hasI x 4 = false := by
  cases e : hasI x 4
  · rfl
  · obtain ⟨i, hi, rfl⟩ := hasI_at (by omega) e
    rcases (show i = 0 ∨ i = 1 ∨ i = 2 ∨ i = 3 by omega) with rfl | rfl | rfl | rfl
    · exact absurd rfl h0
    · exact absurd rfl h1
    · exact absurd rfl h2
    · exact absurd rfl h3
def insV (fo th tg : Nat → Int32) (i : Nat) (w : Int32) : Int32 := if w = 0 then fo i else if w = 1 then th i else tg i
def entV (T : Nat → Nat → Nat) (i : Nat) (w : Int32) : Int32 := if w = 0 then nI (T 0 i) else if w = 1 then nI (T 1 i) else if w = 2 then nI (T 2 i) else nI (T 3 i)
theorem okC_app {nk nc : Nat} {fo th tg : Nat → Int32} (h : okC nk nc fo th tg) (hn : nc < 48) {f t g : Int32} (hf : (f = 0 ∨ f = 3 ∨ f = 4) ∧ g = -1 ∨ (f = 1 ∨ f = 2) ∧ ∃ t, t < 48 ∧ g = nI t) (ht : ∃ n, n < 256 ∧ t = nI n) (hb : ∀ k, nk ≤ k → k < 8 → bt t k = false) (h4 : f = 4 → ∃ k, k < nk ∧ bt t k = true) : okC nk (nc + 1) (upd fo nc f) (upd th nc t) (upd tg nc g) := by
  refine ⟨by omega, fun i hi => ?_⟩
  by_cases c : i = nc
  · subst c; simp only [upd, if_true]; exact ⟨hf, ht, hb, h4⟩
  · simp only [upd, if_neg c]; exact h.2 i (by omega)
theorem kset_spec {x : Int32} {nk : Nat} (hk : nk ≤ 8) (h : decide (x >>> (nI nk &&& 31) = 0) = true) : (∃ n, n < 256 ∧ x = nI n) ∧ ∀ k, nk ≤ k → k < 8 → bt x k = false := by
  have h1 := of_decide_eq_true h
  have hz : ∀ j, nk ≤ j → j < 32 → bt x j = false := fun j h2 h3 => by
    have h4 := b_sshr nk (by omega) x (i := j - nk) (by omega)
    rw [h1, b_0, if_pos (by omega), show nk + (j - nk) = j from by omega] at h4
    exact h4.symm
  refine ⟨⟨x.toBitVec.toNat % 256, Nat.mod_lt _ (by omega), ?_⟩, fun k h2 h3 => hz k h2 (by omega)⟩
  apply b_ext
  intro i hi
  have e1 : bt (nI (x.toBitVec.toNat % 256)) i = (x.toBitVec.toNat % 2 ^ 8).testBit i := by
    show (BitVec.ofNat 32 (x.toBitVec.toNat % 256)).getLsbD i = _
    rw [BitVec.getLsbD_ofNat]; simp [hi]
  rw [e1, Nat.testBit_mod_two_pow]
  by_cases c : i < 8
  · rw [decide_eq_true c, Bool.true_and]; rfl
  · rw [decide_eq_false c, Bool.false_and]; exact hz i (by omega) hi
theorem pw_nI : ∀ k, k < 8 → (1 : Int32) <<< (nI k &&& 31) = nI (2 ^ k) ∧ 2 ^ k < 256 := by decide +kernel
theorem okT_up {nk nt : Nat} {T : Nat → Nat → Nat} (h : okT nk nt T) : okT (nk + 1) nt T := fun e he => by
  have := h e he; omega
theorem okC_up {nk nc : Nat} {fo th tg : Nat → Int32} (h : okC nk nc fo th tg) : okC (nk + 1) nc fo th tg := by
  refine ⟨h.1, fun i hi => ?_⟩
  obtain ⟨a, b, c, d⟩ := h.2 i hi
  exact ⟨a, b, fun k h1 h2 => c k (by omega) h2, fun q => by obtain ⟨k, h1, h2⟩ := d q; exact ⟨k, by omega, h2⟩⟩
def aT (T : Nat → Nat → Nat) (nt b e k g : Nat) : Nat → Nat → Nat := fun f j => if j = nt then (if f = 0 then b else if f = 1 then e else if f = 2 then k else g) else T f j
theorem rT_add {nt b e k g : Nat} {tb te tk tt : Nat → Int32} {T : Nat → Nat → Nat} (h : rT nt tb te tk tt T) : rT (nt + 1) (upd tb nt (nI b)) (upd te nt (nI e)) (upd tk nt (nI k)) (upd tt nt (nI g)) (aT T nt b e k g) := by
  intro j hj
  by_cases c : j = nt
  · subst c; simp [upd, aT]
  · simp only [upd, if_neg c, aT]; exact h j (by omega)
theorem okT_add {nk nt b e k g : Nat} {T : Nat → Nat → Nat} (h : okT nk nt T) (hb : b ≤ 48) (he : e ≤ 48) (hk : k < nk) (hg : g < 48) : okT nk (nt + 1) (aT T nt b e k g) := by
  intro j hj
  by_cases c : j = nt
  · subst c; simp [aT]; omega
  · simp only [aT, if_neg c]; exact h j (by omega)
def eOK (f t g : Int32) : Bool := (!decide (f < 0) && !decide (48 < t) && decide (f < t)) && hasI g 48
def rOK (c : Int64) (m : Int32) : Bool := !decide (c < 0) && !decide (m < 0) && !decide (500 < m)
theorem lN_ne0 {m : Nat} (h : 0 < m) (hm : m < 2 ^ 31) : ¬ lN m = 0 := fun q => by
  have := (lN_eq (a := m) (b := 0) hm (by omega)).mp q
  omega
theorem lg_lt0 {c : Int64} : lg_cmp c 0 < 0 ↔ c < 0 := by
  unfold lg_cmp
  by_cases h1 : c > 0
  · rw [if_pos h1]
    constructor
    · intro q; exact absurd q (by decide)
    · intro q; simp only [gt_iff_lt, Int64.lt_iff_toInt_lt] at h1 q; omega
  · rw [if_neg h1]
    by_cases h2 : c = 0
    · subst h2; simp
    · rw [if_neg h2]
      constructor
      · intro _
        simp only [gt_iff_lt, Int64.lt_iff_toInt_lt] at h1 ⊢
        have : c.toInt ≠ (0 : Int64).toInt := fun q => h2 (Int64.toInt_inj.mp q)
        omega
      · intro _; decide
theorem lN_of {c : Int64} (h : ¬ c < 0) : ∃ X, X < 2 ^ 63 ∧ c = lN X ∧ X = c.toInt.toNat := by
  refine ⟨c.toInt.toNat, ?_, ?_, rfl⟩
  · have h1 := Int64.toInt_lt c
    simp only [Int64.lt_iff_toInt_lt] at h
    have : (0 : Int64).toInt = 0 := by decide
    omega
  · have h2 : 0 ≤ c.toInt := by
      simp only [Int64.lt_iff_toInt_lt] at h
      have : (0 : Int64).toInt = 0 := by decide
      omega
    have h1 := Int64.toInt_lt c
    apply Int64.toInt_inj.mp
    unfold lN
    rw [Int64.toInt_ofNat_of_lt (by omega)]
    omega
theorem rnS_s {nc M y : Nat} {f : RS → RS} {s : RS} (h : y < M) (hs : hasI s.1 nc = true) : rnS nc f (M - y) s = rnS nc f (M - (y + 1)) (f s) := by
  rw [show M - y = (M - (y + 1)) + 1 from by omega]
  simp only [rnS, if_pos hs]
theorem rnS_0 {nc n : Nat} {f : RS → RS} {s : RS} (hs : hasI s.1 nc = false) : rnS nc f n s = s := by
  cases n with
  | zero => rfl
  | succ n => simp [rnS, hs]

/-! small rows of my own: numbers, booleans, worlds -/
section ZZ
variable {p : Program} {l : Launch} {e : Env} {R : Room} {s : State} {m : MethodId} {args : Array Value} {below : List Frame} {meth : Method} {c : Code} {H : Heap} {locs : List Loc} {cells slots : Nat} {Q : State → Prop} {pc : Nat} {ls : Array Slot} {rest : List Value}
theorem zz_top {x y : Int32} (h : x = y) (k : W p l e R s m args below meth c H locs cells slots Q (F0 m pc ls (.int y :: rest))) : W p l e R s m args below meth c H locs cells slots Q (F0 m pc ls (.int x :: rest)) := by rw [h]; exact k
theorem zz_topl {x y : Int64} (h : x = y) (k : W p l e R s m args below meth c H locs cells slots Q (F0 m pc ls (.long y :: rest))) : W p l e R s m args below meth c H locs cells slots Q (F0 m pc ls (.long x :: rest)) := by rw [h]; exact k
theorem zz_hl {H' : Heap} {locs' : List Loc} {g : JFrame} (h1 : H = H') (h2 : locs = locs') (k : W p l e R s m args below meth c H locs cells slots Q g) : W p l e R s m args below meth c H' locs' cells slots Q g := by subst h1; subst h2; exact k
theorem zz_unbase {g : JFrame} (k : W p l e R s m args below meth c H locs cells slots Q g) : W p l e R (s.setDrawn s.drawn) m args below meth c H locs cells slots Q g := k
end ZZ
theorem zz_inc (x k : Nat) : nI x + Int32.ofInt k = nI (x + k) := by
  show nI x + nI k = nI (x + k)
  exact nI_add x k
theorem zz_dec (x : Nat) : nI (x + 1) + Int32.ofInt (-1) = nI x := by
  have e1 : Int32.ofInt (-1) = -1 := by decide
  rw [e1, ← Int32.sub_eq_add_neg]
  exact nI_pred x
theorem zz_mul (a b : Nat) : nI a * nI b = nI (a * b) := by
  unfold nI
  exact (Int32.ofNat_mul a b).symm
theorem zz_ltt {a b : Nat} (ha : a < 2 ^ 31) (hb : b < 2 ^ 31) : nI a < nI b ↔ a < b := nI_ltI ha hb
theorem zz_ltf {a b : Nat} (ha : a < 2 ^ 31) (hb : b < 2 ^ 31) : ¬ nI a < nI b ↔ b ≤ a := by rw [nI_ltI ha hb]; omega
theorem zz_let {a b : Nat} (ha : a < 2 ^ 31) (hb : b < 2 ^ 31) : nI a ≤ nI b ↔ a ≤ b := nI_leI ha hb
theorem zz_lef {a b : Nat} (ha : a < 2 ^ 31) (hb : b < 2 ^ 31) : ¬ nI a ≤ nI b ↔ b < a := by rw [nI_leI ha hb]; omega
theorem zz_get {a b : Nat} (ha : a < 2 ^ 31) (hb : b < 2 ^ 31) : nI b ≤ nI a ↔ b ≤ a := nI_leI hb ha
theorem zz_gef {a b : Nat} (ha : a < 2 ^ 31) (hb : b < 2 ^ 31) : ¬ nI b ≤ nI a ↔ a < b := by rw [nI_leI hb ha]; omega
theorem zz_gtt {a b : Nat} (ha : a < 2 ^ 31) (hb : b < 2 ^ 31) : nI b < nI a ↔ b < a := nI_ltI hb ha
theorem zz_gtf {a b : Nat} (ha : a < 2 ^ 31) (hb : b < 2 ^ 31) : ¬ nI b < nI a ↔ a ≤ b := by rw [nI_ltI hb ha]; omega
theorem zz_eqt {a b : Nat} (ha : a < 2 ^ 31) (hb : b < 2 ^ 31) : nI a = nI b ↔ a = b := nI_eq ha hb
theorem zz_eqf {a b : Nat} (ha : a < 2 ^ 31) (hb : b < 2 ^ 31) : ¬ nI a = nI b ↔ ¬ a = b := by rw [nI_eq ha hb]
theorem zz_net {a b : Nat} (ha : a < 2 ^ 31) (hb : b < 2 ^ 31) : ¬ nI a = nI b ↔ ¬ a = b := by rw [nI_eq ha hb]
theorem zz_nef {a b : Nat} (ha : a < 2 ^ 31) (hb : b < 2 ^ 31) : nI a = nI b ↔ a = b := nI_eq ha hb
/-- a boolean as the machine holds it -/
def bI (b : Bool) : Int32 := if b = true then 1 else 0
theorem zb_0 {b : Bool} : bI b = 0 ↔ b = false := by cases b <;> decide
theorem zb_1 {b : Bool} : ¬ bI b = 0 ↔ b = true := by cases b <;> decide
theorem zb_t {b : Bool} (h : b = true) : (1 : Int32) = bI b := by rw [h]; rfl
theorem zb_f {b : Bool} (h : b = false) : (0 : Int32) = bI b := by rw [h]; rfl
theorem zz_nb (b : Bool) : narrow .boolean (.int (bI b)) = .int (bI b) := by cases b <;> rfl
theorem zz_nz0 : vp_nar .boolean 0 = 0 := by decide +kernel
theorem zz_nz1 : vp_nar .boolean 1 = 1 := by decide +kernel
theorem zz_nar {b : Bool} : vp_nar .boolean (bI b) = bI b := by cases b <;> decide +kernel
theorem zz_ty {D : va_G} {cl : List vw_C} {tys : List (ClassId × FieldType)} {s : State} (h : va_K D cl tys s) (i j : Nat) {a b : ClassId} {ty : FieldType} (hi : tys[i]? = some (a, ty)) (hj : tys[j]? = some (b, ty)) (ht : ∀ c, va_RA s c ty → s.vm.findClass ("[" ++ ty.toString) = some c) : a = b := by
  have h1 := ht _ (h.2 i _ hi).2
  have h2 := ht _ (h.2 j _ hj).2
  rw [h1] at h2
  exact Option.some.inj h2
theorem zz_cI {D : va_G} {cl : List vw_C} {cI cZ cJ cA : ClassId} {s : State} (h : va_K D cl ([(cI, .int), (cZ, .boolean), (cJ, .long)] ++ [(cA, .int)]) s) : cA = cI := zz_ty h 3 0 rfl rfl (fun _ q => q)
theorem zz_cZ {D : va_G} {cl : List vw_C} {cI cZ cJ cA : ClassId} {s : State} (h : va_K D cl ([(cI, .int), (cZ, .boolean), (cJ, .long)] ++ [(cA, .boolean)]) s) : cA = cZ := zz_ty h 3 1 rfl rfl (fun _ q => q)
theorem zz_cJ {D : va_G} {cl : List vw_C} {cI cZ cJ cA : ClassId} {s : State} (h : va_K D cl ([(cI, .int), (cZ, .boolean), (cJ, .long)] ++ [(cA, .long)]) s) : cA = cJ := zz_ty h 3 2 rfl rfl (fun _ q => q)
theorem zz_tn {x : Int32} {n : Int} (hn : (Int32.ofInt n).toInt = n) (h : ¬ x = Int32.ofInt n) : ¬ n = x.toInt := fun q => h (Int32.toInt_inj.mp (by rw [← q, hn]))
theorem zz_min {a b : Nat} (ha : a < 2 ^ 31) (hb : b < 2 ^ 31) : (if nI b < nI a then nI b else nI a) = nI (min a b) := by
  by_cases h : b < a
  · rw [if_pos ((nI_ltI hb ha).mpr h), Nat.min_eq_right (by omega)]
  · rw [if_neg (fun q => h ((nI_ltI hb ha).mp q)), Nat.min_eq_left (by omega)]
theorem zz_max {a b : Nat} (ha : a < 2 ^ 31) (hb : b < 2 ^ 31) : (if nI a < nI b then nI b else nI a) = nI (max a b) := by
  by_cases h : a < b
  · rw [if_pos ((nI_ltI ha hb).mpr h), Nat.max_eq_right (by omega)]
  · rw [if_neg (fun q => h ((nI_ltI ha hb).mp q)), Nat.max_eq_left (by omega)]
/-- the links of nest mates -/
def zn_l : List Cond := [.fieldLinkNest "HandlerOptimizer" 226 "HandlerOptimizer$Kinds" "parents" "[I" "HandlerOptimizer", .fieldLinkNest "HandlerOptimizer$Table" 32 "HandlerOptimizer$Kinds" "families" "[I" "HandlerOptimizer", .fieldLinkNest "HandlerOptimizer" 76 "HandlerOptimizer$Kinds" "count" "I" "HandlerOptimizer", .fieldLinkNest "HandlerOptimizer" 103 "HandlerOptimizer$Code" "forms" "[I" "HandlerOptimizer", .fieldLinkNest "HandlerOptimizer" 106 "HandlerOptimizer$Code" "thrown" "[I" "HandlerOptimizer", .fieldLinkNest "HandlerOptimizer" 109 "HandlerOptimizer$Code" "targets" "[I" "HandlerOptimizer", .fieldLinkNest "HandlerOptimizer" 99 "HandlerOptimizer$Code" "count" "I" "HandlerOptimizer", .fieldLinkNest "HandlerOptimizer" 135 "HandlerOptimizer$Table" "begins" "[I" "HandlerOptimizer", .fieldLinkNest "HandlerOptimizer" 138 "HandlerOptimizer$Table" "ends" "[I" "HandlerOptimizer", .fieldLinkNest "HandlerOptimizer" 141 "HandlerOptimizer$Table" "kinds" "[I" "HandlerOptimizer", .fieldLinkNest "HandlerOptimizer" 143 "HandlerOptimizer$Table" "targets" "[I" "HandlerOptimizer", .fieldLinkNest "HandlerOptimizer" 134 "HandlerOptimizer$Table" "count" "I" "HandlerOptimizer", .methodLinkNest "HandlerOptimizer" 11 ⟨"HandlerOptimizer$Kinds", "<init>", "()V"⟩ "HandlerOptimizer", .methodLinkNest "HandlerOptimizer" 18 ⟨"HandlerOptimizer$Code", "<init>", "()V"⟩ "HandlerOptimizer", .methodLinkNest "HandlerOptimizer" 25 ⟨"HandlerOptimizer$Table", "<init>", "()V"⟩ "HandlerOptimizer", .methodLinkNest "HandlerOptimizer" 208 ⟨"HandlerOptimizer$Code", "has", "(I)Z"⟩ "HandlerOptimizer", .methodLinkNest "HandlerOptimizer" 256 ⟨"HandlerOptimizer$Code", "canThrow", "(II)Z"⟩ "HandlerOptimizer", .methodLinkNest "HandlerOptimizer" 259 ⟨"HandlerOptimizer$Table", "goal", "(LHandlerOptimizer$Kinds;II)I"⟩ "HandlerOptimizer", .methodLinkNest "HandlerOptimizer" 146 ⟨"HandlerOptimizer$Table", "firstTaker", "(LHandlerOptimizer$Kinds;II)I"⟩ "HandlerOptimizer", .methodLinkNest "HandlerOptimizer" 131 ⟨"HandlerOptimizer$Table", "delete", "(I)V"⟩ "HandlerOptimizer", .methodLinkNest "HandlerOptimizer" 269 ⟨"HandlerOptimizer$Table", "copyAll", "(LHandlerOptimizer$Table;)V"⟩ "HandlerOptimizer", .methodLinkNest "HandlerOptimizer" 83 ⟨"HandlerOptimizer$Kinds", "lowestAbove", "(II)I"⟩ "HandlerOptimizer", .methodLinkNest "HandlerOptimizer" 93 ⟨"HandlerOptimizer$Code", "append", "(III)I"⟩ "HandlerOptimizer", .methodLinkNest "HandlerOptimizer" 229 ⟨"HandlerOptimizer$Kinds", "has", "(I)Z"⟩ "HandlerOptimizer", .methodLinkNest "HandlerOptimizer" 61 ⟨"HandlerOptimizer$Kinds", "isFull", "()Z"⟩ "HandlerOptimizer", .methodLinkNest "HandlerOptimizer" 72 ⟨"HandlerOptimizer$Kinds", "append", "(I)I"⟩ "HandlerOptimizer", .methodLinkNest "HandlerOptimizer" 79 ⟨"HandlerOptimizer$Kinds", "isInFamily", "(II)Z"⟩ "HandlerOptimizer", .methodLinkNest "HandlerOptimizer" 232 ⟨"HandlerOptimizer$Kinds", "hasAll", "(I)Z"⟩ "HandlerOptimizer", .methodLinkNest "HandlerOptimizer" 244 ⟨"HandlerOptimizer$Code", "isFull", "()Z"⟩ "HandlerOptimizer", .methodLinkNest "HandlerOptimizer" 122 ⟨"HandlerOptimizer$Table", "isFull", "()Z"⟩ "HandlerOptimizer", .methodLinkNest "HandlerOptimizer" 125 ⟨"HandlerOptimizer$Table", "append", "(IIII)I"⟩ "HandlerOptimizer", .methodLinkNest "HandlerOptimizer" 241 ⟨"HandlerOptimizer$Table", "has", "(I)Z"⟩ "HandlerOptimizer", .methodLinkNest "HandlerOptimizer" 211 ⟨"HandlerOptimizer$Code", "normalOptions", "(I)I"⟩ "HandlerOptimizer", .methodLinkNest "HandlerOptimizer" 287 ⟨"HandlerOptimizer$Code", "normalNext", "(II)I"⟩ "HandlerOptimizer"]
def zn_is (w : Cond) : Bool := match w with | .fieldLinkNest _ _ _ _ _ _ => true | .methodLinkNest _ _ _ _ => true | _ => false
theorem zn_l_is : ∀ w ∈ zn_l, zn_is w = true := by decide +kernel
theorem zn_on : ∀ w ∈ zn_l, w.onTables = true := by decide +kernel
def zn (U : State) : Prop := ∀ w ∈ zn_l, va_Nw w U
theorem zn_warm1 {w : Cond} {s U : State} (h : zn_is w = true) (hW : s.WarmedH U.vm) (hZ : va_Nw w s) : va_Nw w U := by
  unfold zn_is at h
  split at h
  · exact va_Nw.warmF hW hZ
  · exact va_Nw.warmM hW hZ
  · cases h
theorem zn_warm {s U : State} (hW : s.WarmedH U.vm) (h : zn s) : zn U := fun w hw => zn_warm1 (zn_l_is w hw) hW (h w hw)
theorem zn_same {s U : State} (hv : s.vm = U.vm) (h : zn s) : zn U := fun w hw => va_Nw.same (zn_on w hw) hv (h w hw)
/-- what a method that only reads is given -/
def zPre (D : va_G) (tys : List (ClassId × FieldType)) (ws : va_W) (U : State) : Prop := va_P D vwCl ws U.heap ∧ va_K D vwCl tys U ∧ zn U
/-- what a method that writes is given -/
def zWr (D : va_G) (tys : List (ClassId × FieldType)) (ws : va_W) (sz : Nat) (U : State) : Prop := U.heap.size = sz ∧ zPre D tys ws U ∧ va_D (fun _ => True) ws
/-- what it gives back -/
def zWo (D : va_G) (tys : List (ClassId × FieldType)) (ws : va_W) (A : Nat → Prop) (t : State) : Prop := va_P D vwCl ws t.heap ∧ va_K D vwCl tys t ∧ va_D A ws
theorem zPre_call {D : va_G} {tys : List (ClassId × FieldType)} {ws : va_W} {U : State} {g : JFrame} {mk : MethodId} {a : Array Value} (h : zPre D tys ws U) : zPre D tys ws (U.calling g mk a) := by
  obtain ⟨h1, h2, h3⟩ := h
  exact ⟨h1, va_K.moved (u := U) (U := U.calling g mk a) (Vm.Alike.refl U.vm) h2, zn_same (s := U) (U := U.calling g mk a) rfl h3⟩
theorem zPre_blind {av : List Value} {D : va_G} {tys : List (ClassId × FieldType)} {ws : va_W} : FrameBlind (va_Pc av (zPre D tys ws)) := fun a U g mk q => ⟨q.1, zPre_call q.2⟩
theorem zWr_blind {av : List Value} {D : va_G} {tys : List (ClassId × FieldType)} {ws : va_W} {sz : Nat} : FrameBlind (va_Pc av (zWr D tys ws sz)) := fun a U g mk q => ⟨q.1, q.2.1, zPre_call q.2.2.1, q.2.2.2⟩
theorem zPre_at {av : List Value} {D : va_G} {tys : List (ClassId × FieldType)} {ws : va_W} {s : State} {H : Heap} (hP : va_P D vwCl ws H) (hK : va_K D vwCl tys s) (hn : zn s) : ∀ U : State, U.heap = H → s.WarmedH U.vm → va_Pc av (zPre D tys ws) av.toArray U := fun U hU hW => ⟨rfl, by rw [hU]; exact hP, va_K.moved hW.alike hK, zn_warm hW hn⟩
theorem zWr_at {av : List Value} {D : va_G} {tys : List (ClassId × FieldType)} {ws : va_W} {s : State} {H : Heap} (hP : va_P D vwCl ws H) (hK : va_K D vwCl tys s) (hn : zn s) (hD : va_D (fun _ => True) ws) : ∀ U : State, U.heap = H → s.WarmedH U.vm → va_Pc av (zWr D tys ws H.size) av.toArray U := fun U hU hW => ⟨rfl, by rw [hU], (zPre_at (av := av) hP hK hn U hU hW).2, hD⟩
theorem zkeep {D : va_G} {ws : va_W} {H H1 : Heap} (h : va_P D vwCl ws H) (hk : ∀ q : Nat, q < H.size → ¬ (fun _ : Nat => False) q → H1[q]? = H[q]?) : va_P D vwCl ws H1 := h.kept (fun k q hq => hk q.1 ((h k q hq).lt) (fun f => f))
/-- the kinds: the object, parents, families -/
def wK (k0 k1 k2 : Nat) (cI : ClassId) (nk : Nat) (pa fa : Nat → Int32) : va_W := [(k0, .inr (1, [.ref k1, .ref k2, .int (nI nk)])), (k1, .inl (cI, 8, .inl pa)), (k2, .inl (cI, 8, .inl fa))]
/-- the code: the object, forms, thrown, targets -/
def wC (c0 c1 c2 c3 : Nat) (cI : ClassId) (nc : Nat) (fo th tg : Nat → Int32) : va_W := [(c0, .inr (0, [.ref c1, .ref c2, .ref c3, .int (nI nc)])), (c1, .inl (cI, 48, .inl fo)), (c2, .inl (cI, 48, .inl th)), (c3, .inl (cI, 48, .inl tg))]
/-- a table: the object, begins, ends, kinds, targets -/
def wT (t0 t1 t2 t3 t4 : Nat) (cI : ClassId) (nt : Nat) (tb te tk tt : Nat → Int32) : va_W := [(t0, .inr (2, [.ref t1, .ref t2, .ref t3, .ref t4, .int (nI nt)])), (t1, .inl (cI, 24, .inl tb)), (t2, .inl (cI, 24, .inl te)), (t3, .inl (cI, 24, .inl tk)), (t4, .inl (cI, 24, .inl tt))]
/-! the words for the state: what the class and the reference both compute -/
/-- whether x is a number below n -/
def hasI (x : Int32) (n : Nat) : Bool := !decide (x < 0) && !decide (nI n ≤ x)
/-! bits: the first rows of laws/BITS.to-paste -/
def bt (x : Int32) (i : Nat) : Bool := x.toBitVec.getLsbD i
theorem b_ext {x y : Int32} (h : ∀ i, i < 32 → bt x i = bt y i) : x = y := Int32.toBitVec_inj.mp (BitVec.eq_of_getLsbD_eq (fun i hi => h i hi))
theorem b_or (x y : Int32) (i : Nat) : bt (x ||| y) i = (bt x i || bt y i) := by unfold bt; rw [Int32.toBitVec_or, BitVec.getLsbD_or]
theorem b_and (x y : Int32) (i : Nat) : bt (x &&& y) i = (bt x i && bt y i) := by unfold bt; rw [Int32.toBitVec_and, BitVec.getLsbD_and]
theorem b_0 (i : Nat) : bt 0 i = false := BitVec.getLsbD_zero
theorem s_l : ∀ n, n < 32 → ((nI n &&& 31).toBitVec.smod 32).toNat = n := by decide +kernel
theorem b_shl (n : Nat) (hn : n < 32) (x : Int32) {i : Nat} (hi : i < 32) : bt (x <<< (nI n &&& 31)) i = (decide (n ≤ i) && bt x (i - n)) := by
  unfold bt
  rw [Int32.toBitVec_shiftLeft]
  show (x.toBitVec <<< ((nI n &&& 31).toBitVec.smod 32).toNat).getLsbD i = _
  rw [s_l n hn, BitVec.getLsbD_shiftLeft]
  rcases Nat.lt_or_ge i n with h | h
  · simp [h, Nat.not_le.mpr h]
  · simp [h, hi]
theorem b_sshr (n : Nat) (hn : n < 32) (x : Int32) {i : Nat} (hi : i < 32) : bt (x >>> (nI n &&& 31)) i = if n + i < 32 then bt x (n + i) else bt x 31 := by
  unfold bt
  rw [Int32.toBitVec_shiftRight]
  show (x.toBitVec.sshiftRight ((nI n &&& 31).toBitVec.smod 32).toNat).getLsbD i = _
  rw [s_l n hn, BitVec.getLsbD_sshiftRight, BitVec.msb_eq_getLsbD_last]
  simp [hi]
theorem b_one : ∀ i, i < 32 → bt 1 i = decide (i = 0) := by decide +kernel
/-- bit k of x, as the machine tests it -/
theorem bt_z {x : Int32} {k : Nat} (hk : k < 32) : ((x >>> (nI k &&& 31)) &&& 1) = bI (bt x k) := by
  apply b_ext
  intro i hi
  rw [b_and, b_one i hi]
  rcases Nat.eq_zero_or_pos i with q | q
  · subst q
    rw [b_sshr k hk x (by omega), if_pos (by omega)]
    cases hb : bt x (k + 0) <;> simp_all [bI] <;> decide
  · rw [decide_eq_false (by omega), Bool.and_false]
    cases bt x k
    · exact (b_0 i).symm
    · show false = bt 1 i
      rw [b_one i hi, decide_eq_false (by omega)]
theorem b_pow (n : Nat) (hn : n < 32) {i : Nat} (hi : i < 32) : bt ((1 : Int32) <<< (nI n &&& 31)) i = decide (i = n) := by
  rw [b_shl n hn 1 hi]
  rcases Nat.lt_or_ge i n with h | h
  · rw [decide_eq_false (by omega), decide_eq_false (by omega)]; rfl
  · rw [decide_eq_true h, b_one _ (by omega), Bool.true_and]
    by_cases q : i = n
    · rw [decide_eq_true q, decide_eq_true (by omega)]
    · rw [decide_eq_false q, decide_eq_false (by omega)]
/-- the first number below n with p, else n -/
def ff (p : Nat → Bool) : Nat → Nat
  | 0 => 0
  | n + 1 => if ff p n < n then ff p n else if p n then n else n + 1
theorem ff_le (p : Nat → Bool) (n : Nat) : ff p n ≤ n := by
  induction n with
  | zero => exact Nat.le_refl _
  | succ n ih => simp only [ff]; split <;> (try split) <;> omega
theorem ff_min {p : Nat → Bool} {n j : Nat} (h : j < ff p n) : p j = false := by
  induction n generalizing j with
  | zero => simp [ff] at h
  | succ n ih =>
    have hl := ff_le p n
    simp only [ff] at h
    split at h
    · exact ih h
    · rename_i h1
      split at h
      · exact ih (by omega)
      · rename_i h2
        rcases Nat.lt_or_ge j n with q | q
        · exact ih (by omega)
        · have : j = n := by omega
          rw [this]; simpa using h2
theorem ff_at {p : Nat → Bool} {n : Nat} (h : ff p n < n) : p (ff p n) = true := by
  induction n with
  | zero => simp [ff] at h
  | succ n ih =>
    have hl := ff_le p n
    simp only [ff] at h ⊢
    split
    · rename_i h1; exact ih h1
    · rename_i h1
      split
      · rename_i h2; exact h2
      · rename_i h2; simp [h1, h2] at h
theorem ff_none {p : Nat → Bool} {n : Nat} (h : ∀ j, j < n → p j = false) : ff p n = n := by
  rcases Nat.lt_or_ge (ff p n) n with q | q
  · have := ff_at q; rw [h _ q] at this; cases this
  · have := ff_le p n; omega
theorem ff_eq {p : Nat → Bool} {n e : Nat} (he : e < n) (hp : p e = true) (hlt : ∀ j, j < e → p j = false) : ff p n = e := by
  rcases Nat.lt_trichotomy (ff p n) e with q | q | q
  · have := ff_at (p := p) (n := n) (by omega); rw [hlt _ q] at this; cases this
  · exact q
  · have := ff_min q; rw [hp] at this; cases this
/-- an entry e of the table T takes an error of kind k at i -/
def tp (T : Nat → Nat → Nat) (up : Nat → Nat → Bool) (i k e : Nat) : Bool := decide (T 0 e ≤ i) && decide (i < T 1 e) && up k (T 2 e)
def tkf (T : Nat → Nat → Nat) (nt : Nat) (up : Nat → Nat → Bool) (i k : Nat) : Nat := ff (tp T up i k) nt
def tkI (T : Nat → Nat → Nat) (nt : Nat) (up : Nat → Nat → Bool) (i k : Nat) : Int32 := if tkf T nt up i k < nt then nI (tkf T nt up i k) else -1
def gl (T : Nat → Nat → Nat) (nt : Nat) (up : Nat → Nat → Bool) (i k : Nat) : Int32 := if tkf T nt up i k < nt then nI (T 3 (tkf T nt up i k)) else -1
/-- four rows hold the table T, below nt -/
def rT (nt : Nat) (tb te tk tt : Nat → Int32) (T : Nat → Nat → Nat) : Prop := ∀ e, e < nt → tb e = nI (T 0 e) ∧ te e = nI (T 1 e) ∧ tk e = nI (T 2 e) ∧ tt e = nI (T 3 e)
def okT (nk nt : Nat) (T : Nat → Nat → Nat) : Prop := ∀ e, e < nt → T 0 e ≤ 48 ∧ T 1 e ≤ 48 ∧ T 2 e < nk ∧ T 3 e < 48
/-- the families, and the rows of those above, hold the order of the kinds -/
def rF (nk : Nat) (fa : Nat → Int32) (up : Nat → Nat → Bool) : Prop := ∀ h, h < nk → ∀ k, k < 8 → bt (fa h) k = up k h
def rA (nk : Nat) (ab : Nat → Int32) (up : Nat → Nat → Bool) : Prop := ∀ k, k < nk → ∀ h, h < 8 → bt (ab k) h = up k h
/-- an order of kinds: a kind is below none that came later -/
def okU (nk : Nat) (up : Nat → Nat → Bool) : Prop := ∀ k h, up k h = true → k < nk ∧ h ≤ k
theorem tkI_some {T : Nat → Nat → Nat} {nt : Nat} {up : Nat → Nat → Bool} {i k e : Nat} (he : e < nt) (hp : tp T up i k e = true) (hlt : ∀ j, j < e → tp T up i k j = false) : nI e = tkI T nt up i k := by
  have h : tkf T nt up i k = e := ff_eq he hp hlt
  simp [tkI, h, he]
theorem tkI_none {T : Nat → Nat → Nat} {nt : Nat} {up : Nat → Nat → Bool} {i k : Nat} (hlt : ∀ j, j < nt → tp T up i k j = false) : -1 = tkI T nt up i k := by
  have h : tkf T nt up i k = nt := ff_none hlt
  simp [tkI, h]
theorem tp_0 {T : Nat → Nat → Nat} {up : Nat → Nat → Bool} {i k e : Nat} (h : i < T 0 e) : tp T up i k e = false := by simp [tp]; omega
theorem tp_1 {T : Nat → Nat → Nat} {up : Nat → Nat → Bool} {i k e : Nat} (h : T 1 e ≤ i) : tp T up i k e = false := by simp [tp]; omega
theorem tp_2 {T : Nat → Nat → Nat} {up : Nat → Nat → Bool} {i k e : Nat} (h : up k (T 2 e) = false) : tp T up i k e = false := by simp [tp, h]
theorem tp_t {T : Nat → Nat → Nat} {up : Nat → Nat → Bool} {i k e : Nat} (h0 : T 0 e ≤ i) (h1 : i < T 1 e) (h : up k (T 2 e) = true) : tp T up i k e = true := by simp [tp, h, h0, h1]
theorem bt_f {x : Int32} {k : Nat} (hk : k < 32) (h : (x >>> (nI k &&& 31)) &&& 1 = 0) : bt x k = false := by rw [bt_z hk] at h; exact zb_0.mp h
theorem bt_t {x : Int32} {k : Nat} (hk : k < 32) (h : ¬ (x >>> (nI k &&& 31)) &&& 1 = 0) : bt x k = true := by rw [bt_z hk] at h; exact zb_1.mp h
theorem tkI_lt {T : Nat → Nat → Nat} {nt : Nat} {up : Nat → Nat → Bool} {i k : Nat} (hn : nt < 2 ^ 31) (h : ¬ tkI T nt up i k = -1) : tkf T nt up i k < nt := by
  rcases Nat.lt_or_ge (tkf T nt up i k) nt with q | q
  · exact q
  · exact absurd (by simp [tkI, Nat.not_lt.mpr q]) h
theorem tkI_at {T : Nat → Nat → Nat} {nt : Nat} {up : Nat → Nat → Bool} {i k : Nat} (h : tkf T nt up i k < nt) : tkI T nt up i k = nI (tkf T nt up i k) := by simp [tkI, h]
theorem nI_ne_m1 {n : Nat} (h : n < 2 ^ 31) : ¬ nI n = -1 := fun q => by
  have := nI_pos' h
  rw [q] at this
  exact absurd this (by decide)
theorem tkI_m1 {T : Nat → Nat → Nat} {nt : Nat} {up : Nat → Nat → Bool} {i k : Nat} (hn : nt < 2 ^ 31) (h : tkI T nt up i k = -1) : ¬ tkf T nt up i k < nt := fun q => by
  rw [tkI_at q] at h
  exact nI_ne_m1 (by omega) h
theorem zz_pred {n : Nat} (h : 0 < n) : nI n - 1 = nI (n - 1) := by
  obtain ⟨k, rfl⟩ : ∃ k, n = k + 1 := ⟨n - 1, by omega⟩
  exact nI_pred k
theorem zz_dec1 {n : Nat} (h : 0 < n) : nI n + Int32.ofInt (-1) = nI (n - 1) := by
  obtain ⟨k, rfl⟩ : ∃ k, n = k + 1 := ⟨n - 1, by omega⟩
  exact zz_dec k
/-- the table without the entry ei -/
def dT (T : Nat → Nat → Nat) (ei : Nat) : Nat → Nat → Nat := fun f j => if j < ei then T f j else T f (j + 1)
/-- on the way there: the entries behind it have come down as far as y -/
def mxT (T : Nat → Nat → Nat) (ei y : Nat) : Nat → Nat → Nat := fun f j => if j < y then dT T ei f j else T f j
theorem rT_set {nt : Nat} {tb te tk tt : Nat → Int32} {T U : Nat → Nat → Nat} {q : Nat} {b e k t : Int32} (h : rT nt tb te tk tt T) (hU : ∀ f j, j ≠ q → U f j = T f j) (hq : b = nI (U 0 q) ∧ e = nI (U 1 q) ∧ k = nI (U 2 q) ∧ t = nI (U 3 q)) : rT nt (upd tb q b) (upd te q e) (upd tk q k) (upd tt q t) U := by
  intro j hj
  by_cases c : j = q
  · subst c; simp only [upd, if_true]; exact hq
  · simp only [upd, if_neg c, hU _ _ c]; exact h j hj
theorem rT_del {nt : Nat} {tb te tk tt : Nat → Int32} {T : Nat → Nat → Nat} {ei y : Nat} (h : rT nt tb te tk tt (mxT T ei y)) (hy : ei ≤ y) (hn : y + 1 < nt) : rT nt (upd tb y (tb (y + 1))) (upd te y (te (y + 1))) (upd tk y (tk (y + 1))) (upd tt y (tt (y + 1))) (mxT T ei (y + 1)) := by
  have h1 := h (y + 1) hn
  refine rT_set h (fun f j hj => ?_) ?_
  · simp only [mxT]
    by_cases c : j < y
    · rw [if_pos c, if_pos (by omega)]
    · rw [if_neg c, if_neg (by omega)]
  · simp only [mxT, dT] at h1 ⊢
    simpa [Nat.not_lt.mpr hy, show ¬ y + 1 < y by omega] using h1
theorem rT_start {nt : Nat} {tb te tk tt : Nat → Int32} {T : Nat → Nat → Nat} {ei : Nat} (h : rT nt tb te tk tt T) : rT nt tb te tk tt (mxT T ei ei) := by
  intro j hj
  have e : ∀ f, mxT T ei ei f j = T f j := fun f => by
    simp only [mxT, dT]
    by_cases c : j < ei <;> simp [c]
  rw [e, e, e, e]; exact h j hj
theorem rT_end {nt : Nat} {tb te tk tt : Nat → Int32} {T : Nat → Nat → Nat} {ei y : Nat} (h : rT nt tb te tk tt (mxT T ei y)) (hy : nt ≤ y + 1) : rT (nt - 1) tb te tk tt (dT T ei) := by
  intro j hj
  have e : ∀ f, mxT T ei y f j = dT T ei f j := fun f => by
    simp only [mxT]; rw [if_pos (by omega)]
  have h1 := h j (by omega)
  rw [e, e, e, e] at h1; exact h1
theorem okT_del {nk nt : Nat} {T : Nat → Nat → Nat} {ei : Nat} (h : okT nk nt T) : okT nk (nt - 1) (dT T ei) := by
  intro j hj
  simp only [dT]
  by_cases c : j < ei
  · simp only [c, if_true]; exact h j (by omega)
  · simp only [c, if_false]; exact h (j + 1) (by omega)
/-- rows that agree with others below n -/
def ag (n : Nat) (f g : Nat → Int32) : Prop := ∀ j, j < n → f j = g j
theorem ag_s {n : Nat} {f g : Nat → Int32} (h : ag n f g) : ag (n + 1) (upd f n (g n)) g := by
  intro j hj
  by_cases c : j = n
  · subst c; simp [upd]
  · simp only [upd, if_neg c]; exact h j (by omega)
theorem rT_ag {nt : Nat} {tb te tk tt ub ue uk ut : Nat → Int32} {T : Nat → Nat → Nat} (h : rT nt ub ue uk ut T) (h1 : ag nt tb ub) (h2 : ag nt te ue) (h3 : ag nt tk uk) (h4 : ag nt tt ut) : rT nt tb te tk tt T := by
  intro j hj
  rw [h1 j hj, h2 j hj, h3 j hj, h4 j hj]; exact h j hj
/-- one kind more -/
def upN (up : Nat → Nat → Bool) (nk par : Nat) : Nat → Nat → Bool := fun k h => if k = nk then (decide (h = nk) || up par h) else up k h
theorem okU_up {nk par : Nat} {up : Nat → Nat → Bool} (h : okU nk up) (hp : par < nk) : okU (nk + 1) (upN up nk par) := by
  intro k q hq
  simp only [upN] at hq
  by_cases c : k = nk
  · rw [if_pos c] at hq
    rcases Bool.or_eq_true _ _ ▸ hq with e | e
    · have := of_decide_eq_true e; omega
    · have := h _ _ e; omega
  · rw [if_neg c] at hq
    have := h _ _ hq; omega
/-- the families on the way there -/
def fm (up : Nat → Nat → Bool) (nk par y : Nat) (f : Nat → Int32) : Prop := ∀ h, h < nk → ∀ k, k < 8 → bt (f h) k = (up k h || (decide (k = nk) && decide (h < y) && up par h))
theorem fm_0 {up : Nat → Nat → Bool} {nk par : Nat} {f : Nat → Int32} (h : rF nk f up) : fm up nk par 0 f := fun q hq k hk => by rw [h q hq k hk]; simp
theorem fm_par {up : Nat → Nat → Bool} {nk par y : Nat} {f : Nat → Int32} (h : fm up nk par y f) (hy : y < nk) (hp : par < nk) (hk : nk ≤ 8) : bt (f y) par = up par y := by
  rw [h y hy par (by omega), decide_eq_false (by omega)]; simp
theorem fm_f {up : Nat → Nat → Bool} {nk par y : Nat} {f : Nat → Int32} (h : fm up nk par y f) (hu : up par y = false) : fm up nk par (y + 1) f := by
  intro q hq k hk
  rw [h q hq k hk]
  by_cases c : q = y
  · subst c; simp [hu]
  · rw [show decide (q < y + 1) = decide (q < y) from by by_cases d : q < y <;> simp [d] <;> omega]
theorem fm_t {up : Nat → Nat → Bool} {nk par y : Nat} {f : Nat → Int32} (h : fm up nk par y f) (hu : up par y = true) (hy : y < nk) (hnk : nk ≤ 8) : fm up nk par (y + 1) (upd f y (f y ||| (1 <<< (nI nk &&& 31)))) := by
  intro q hq k hk
  by_cases c : q = y
  · subst c
    simp only [upd, if_true, b_or]
    rw [h q hq k hk, b_pow nk (by omega) (by omega)]
    simp [hu]
  · simp only [upd, if_neg c]
    rw [h q hq k hk, show decide (q < y + 1) = decide (q < y) from by by_cases d : q < y <;> simp [d] <;> omega]
theorem fm_end {up : Nat → Nat → Bool} {nk par : Nat} {f : Nat → Int32} (h : fm up nk par nk f) (ho : okU nk up) (hnk : nk < 8) : rF (nk + 1) (upd f nk (1 <<< (nI nk &&& 31))) (upN up nk par) := by
  intro q hq k hk
  by_cases c : q = nk
  · subst c
    simp only [upd, if_true]
    rw [b_pow q (by omega) (by omega)]
    simp only [upN]
    by_cases d : k = q
    · simp [d]
    · rw [if_neg d, decide_eq_false d]
      cases e : up k q
      · rfl
      · have := ho _ _ e; omega
  · simp only [upd, if_neg c, upN]
    rw [h q (by omega) k hk]
    by_cases d : k = nk
    · subst d
      cases e : up k q
      · simp [show q < k by omega, c]
      · have := ho _ _ e; omega
    · simp [d]
/-- the greatest number below n with p, else 0 -/
def lf (p : Nat → Bool) : Nat → Nat
  | 0 => 0
  | n + 1 => if p n then n else lf p n
theorem lf_eq {p : Nat → Bool} {n h : Nat} (hh : h < n) (hp : p h = true) (hgt : ∀ j, h < j → j < n → p j = false) : lf p n = h := by
  induction n with
  | zero => omega
  | succ n ih =>
    simp only [lf]
    by_cases c : h = n
    · subst c; simp [hp]
    · rw [hgt n (by omega) (by omega)]
      exact ih (by omega) (fun j h1 h2 => hgt j h1 (by omega))
theorem lf_none {p : Nat → Bool} {n : Nat} (hgt : ∀ j, 0 < j → j < n → p j = false) : lf p n = 0 := by
  induction n with
  | zero => rfl
  | succ n ih =>
    simp only [lf]
    by_cases c : n = 0
    · subst c; simp [lf]
    · rw [hgt n (by omega) (by omega)]
      exact ih (fun j h1 h2 => hgt j h1 (by omega))
theorem lf_lt {p : Nat → Bool} {n : Nat} (hn : 0 < n) : lf p n < n := by
  induction n with
  | zero => omega
  | succ n ih =>
    simp only [lf]
    split
    · omega
    · by_cases c : n = 0
      · subst c; simp [lf]
      · have := ih (by omega); omega
/-- the lowest kind that is a or above it, and b or above it -/
def lw (up : Nat → Nat → Bool) (nk a b : Nat) : Nat := lf (fun h => up a h && up b h) nk
theorem lw_hit {up : Nat → Nat → Bool} {nk a b y : Nat} (hy : y < nk) (h1 : up a y = true) (h2 : up b y = true) (hgt : ∀ j, y < j → j < nk → (up a j && up b j) = false) : nI y = nI (lw up nk a b) := by
  rw [lw, lf_eq hy (by simp [h1, h2]) hgt]
theorem lw_no {up : Nat → Nat → Bool} {nk a b : Nat} (hgt : ∀ j, 0 < j → j < nk → (up a j && up b j) = false) : 0 = nI (lw up nk a b) := by
  rw [lw, lf_none hgt]; rfl
theorem lw_init {up : Nat → Nat → Bool} {nk a b : Nat} (ho : okU nk up) : ∀ j, min a b < j → j < nk → (up a j && up b j) = false := by
  intro j h1 h2
  cases e : up a j
  · rfl
  · cases f : up b j
    · rfl
    · have := ho _ _ e; have := ho _ _ f; omega
theorem lw_step {up : Nat → Nat → Bool} {nk a b y : Nat} (hgt : ∀ j, y < j → j < nk → (up a j && up b j) = false) (h : (up a y && up b y) = false) : ∀ j, y - 1 < j → j < nk → (up a j && up b j) = false := by
  intro j h1 h2
  by_cases c : j = y
  · subst c; exact h
  · exact hgt j (by omega) h2
def noN (x : Int32) : Nat := if x = 2 then 2 else if x = 4 then 0 else 1
def nnx (x t : Int32) (i o : Nat) : Int32 := if x = 1 ∨ 0 < o then t else nI (i + 1)

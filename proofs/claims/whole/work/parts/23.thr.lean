/-! what a method that throws is given: the texts, the classes of the exceptions, two statics of Throwable -/
def zw_l : List Cond := [.declares (Bundle.initS "java/lang/RuntimeException"), .declares (Bundle.initS "java/lang/Exception"), .declares (Bundle.initS Bundle.tN), .castable "java/lang/IndexOutOfBoundsException" "java/lang/IndexOutOfBoundsException", .castable "java/lang/IllegalArgumentException" "java/lang/IllegalArgumentException", .castable "java/lang/IllegalStateException" "java/lang/IllegalStateException"]
def zs_l : List (Nat × String) := [(67, "there are 8 kinds"), (114, "what is not 0 to 2"), (119, "no range"), (123, "there are 24 entries"), (144, "what is not 0 to 3"), (194, "choices or most out of range"), (230, "no such kind"), (235, "no set of kinds"), (237, "target is not 0 to 47"), (239, "no such instruction"), (242, "no such entry"), (245, "there are 48 instructions")]
def zt (U : State) : Prop := (∀ w ∈ zw_l, va_Nw w U) ∧ ∀ q ∈ zs_l, ∃ sa, vk_R RX3 q.1 q.2 sa U
def zw_is (w : Cond) : Bool := match w with | .declares _ => true | .castable _ _ => true | _ => false
theorem zw_l_is : ∀ w ∈ zw_l, zw_is w = true := by decide +kernel
theorem zw_on : ∀ w ∈ zw_l, w.onTables = true := by decide +kernel
theorem zw_warm1 {w : Cond} {s U : State} (h : zw_is w = true) (hW : s.WarmedH U.vm) (hZ : va_Nw w s) : va_Nw w U := by
  unfold zw_is at h
  split at h
  · exact va_Nw.warmD hW hZ
  · exact va_Nw.warmC hW hZ
  · cases h
theorem zt_warm {s U : State} (hW : s.WarmedH U.vm) (h : zt s) : zt U := ⟨fun w hw => zw_warm1 (zw_l_is w hw) hW (h.1 w hw), fun q hq => by obtain ⟨sa, h9⟩ := h.2 q hq; exact ⟨sa, vk_R.warm hW h9⟩⟩
theorem zt_use {args : Array Value} {s : State} (h : zt s) : ∀ w ∈ zw_l, w.before args s = true := fun w hw => va_Nw.use (zw_on w hw) (h.1 w hw)
theorem zt_same {s U : State} (hv : s.vm = U.vm) (h : zt s) : zt U := ⟨fun w hw => va_Nw.same (zw_on w hw) hv (h.1 w hw), fun q hq => by obtain ⟨sa, h9⟩ := h.2 q hq; exact ⟨sa, vk_R.same hv.symm h9⟩⟩
def zU (A : Nat → Prop) (U : State) (H : Heap) : Prop := vx_Zq Bundle.tN "UNASSIGNED_STACK" Bundle.steD A U H ∧ vx_Zq Bundle.tN "SUPPRESSED_SENTINEL" Bundle.listD A U H
def zTr (D : va_G) (tys : List (ClassId × FieldType)) (ws : va_W) (sz : Nat) (U : State) : Prop := zWr D tys ws sz U ∧ zt U ∧ zU (va_A ws sz) U U.heap
theorem zTr_blind {av : List Value} {D : va_G} {tys : List (ClassId × FieldType)} {ws : va_W} {sz : Nat} : FrameBlind (va_Pc av (zTr D tys ws sz)) := fun a U g mk q => ⟨q.1, ⟨q.2.1.1, zPre_call q.2.1.2.1, q.2.1.2.2⟩, zt_same (s := U) (U := U.calling g mk a) rfl q.2.2.1, vx_Zq.moved (u := U) (U := U.calling g mk a) (Vm.Alike.refl U.vm) q.2.2.2.1, vx_Zq.moved (u := U) (U := U.calling g mk a) (Vm.Alike.refl U.vm) q.2.2.2.2⟩
theorem zU_at {A B : Nat → Prop} {s U : State} {H : Heap} {locs : List Loc} (h : zU A s s.heap) (hS : va_S A s.heap H locs) (hF : ∀ q, B q → A q) (hv : s.vm.Alike U.vm) : zU B U H :=
  ⟨vx_Zq.moved hv ((h.1.kept (fun a ha hn => hS.2.1 a ha hn)).narrow hF), vx_Zq.moved hv ((h.2.kept (fun a ha hn => hS.2.1 a ha hn)).narrow hF)⟩
theorem zTr_at {av : List Value} {D : va_G} {tys : List (ClassId × FieldType)} {ws : va_W} {s : State} {H : Heap} {A : Nat → Prop} {locs : List Loc} (hP : va_P D vwCl ws H) (hK : va_K D vwCl tys s) (hn : zn s) (hD : va_D (fun _ => True) ws) (hzt : zt s) (hzu : zU A s s.heap) (hS : va_S A s.heap H locs) (hF : ∀ q, va_A ws H.size q → A q) : ∀ U : State, U.heap = H → s.WarmedH U.vm → va_Pc av (zTr D tys ws H.size) av.toArray U := fun U hU hW => ⟨rfl, (zWr_at (av := av) hP hK hn hD U hU hW).2, zt_warm hW hzt, by rw [hU]; exact zU_at hzu hS hF hW.alike⟩
theorem zz_thr {A : Nat → Prop} {s t : State} {H : Heap} {locs : List Loc} (hS : va_S A s.heap H locs) (hz : H.size ≤ t.heap.size) (hk : ∀ q : Nat, q < H.size → t.heap[q]? = H[q]?) : va_F A s t :=
  ⟨Nat.le_trans hS.1 hz, fun q h1 h2 => (hk q (Nat.lt_of_lt_of_le h1 hS.1)).trans (hS.2.1 q h1 h2)⟩
theorem zz_keep2 {D : va_G} {ws : va_W} {H H1 : Heap} (h : va_P D vwCl ws H) (hk : ∀ q : Nat, q < H.size → H1[q]? = H[q]?) : va_P D vwCl ws H1 := h.kept (fun k q hq => hk q.1 ((h k q hq).lt))
theorem hasI_lt {x : Int32} {n : Nat} (h0 : ¬ x < 0) (h : x < nI n) : hasI x n = true := by
  simp only [hasI, h0, decide_false, Bool.not_false, Bool.true_and]
  rw [decide_eq_false (Int32.not_le.mpr h)]; rfl
theorem hasI_ge {x : Int32} {n : Nat} (h : ¬ x < nI n) : hasI x n = false := by
  simp only [hasI]
  rw [decide_eq_true (Int32.not_lt.mp h)]; simp

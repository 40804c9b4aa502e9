/-- the exceptions are of classes apart -/
def zc (U : State) : Prop := va_Nc "java/lang/IllegalStateException" "java/lang/IndexOutOfBoundsException" U ∧ va_Nc "java/lang/IllegalStateException" "java/lang/IllegalArgumentException" U ∧ va_Nc "java/lang/IllegalArgumentException" "java/lang/IndexOutOfBoundsException" U
theorem zc_moved {s U : State} (hv : s.vm.Alike U.vm) (h : zc s) : zc U := ⟨va_Nc.moved hv h.1, va_Nc.moved hv h.2.1, va_Nc.moved hv h.2.2⟩
def zTl (D : va_G) (tys : List (ClassId × FieldType)) (ws : va_W) (sz : Nat) (U : State) : Prop := zTr D tys ws sz U ∧ zc U
theorem zTl_blind {av : List Value} {D : va_G} {tys : List (ClassId × FieldType)} {ws : va_W} {sz : Nat} : FrameBlind (va_Pc av (zTl D tys ws sz)) := fun a U g mk q => ⟨q.1, (zTr_blind (av := av) a U g mk ⟨q.1, q.2.1⟩).2, zc_moved (s := U) (U := U.calling g mk a) (Vm.Alike.refl U.vm) q.2.2⟩
theorem zTl_at {av : List Value} {D : va_G} {tys : List (ClassId × FieldType)} {ws : va_W} {s : State} {H : Heap} {A : Nat → Prop} {locs : List Loc} (hP : va_P D vwCl ws H) (hK : va_K D vwCl tys s) (hn : zn s) (hD : va_D (fun _ => True) ws) (hzt : zt s) (hzu : zU A s s.heap) (hS : va_S A s.heap H locs) (hF : ∀ q, va_A ws H.size q → A q) (hc : zc s) : ∀ U : State, U.heap = H → s.WarmedH U.vm → va_Pc av (zTl D tys ws H.size) av.toArray U := fun U hU hW => ⟨rfl, (zTr_at (av := av) hP hK hn hD hzt hzu hS hF U hU hW).2, zc_moved hW.alike hc⟩
def bL (b : Bool) : Int64 := if b = true then 1 else 0
theorem bL_t {b : Bool} (h : b = true) : (1 : Int64) = bL b := by rw [h]; rfl
theorem bL_f {b : Bool} (h : b = false) : (0 : Int64) = bL b := by rw [h]; rfl

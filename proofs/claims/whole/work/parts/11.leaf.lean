/-- whether x is a number below n -/
def hasI (x : Int32) (n : Nat) : Bool := decide (0 ≤ x) && decide (x < nI n)

set_option maxHeartbeats 4000000 in
set_option maxRecDepth 100000 in
/-- whether x is a number from 0 to nk - 1 -/
theorem c_X1_has (l : Launch) (dC : Nat → ClassId) (dI : Nat → Nat → Nat) (cI cZ cJ : ClassId) (k0 : Nat) (k1 : Nat) (k2 : Nat) (nk : Nat) (pa : Nat → Int32) (fa : Nat → Int32) (x : Int32) (hn9 : nk ≤ 8) : Met l yX1_has wsX1_has ({ frames := 0, cells := 0, slots := 0, locals := 0 } : Room) (va_Pc [.ref k0, .int x] (zPre (dC, dI) [(cI, .int), (cZ, .boolean), (cJ, .long)] (wK k0 k1 k2 cI nk pa fa))) (va_Qi (fun (r : Int32) (_ : Unit) => r = bI (hasI x nk)) (fun _ _ => True) (fun _ => False)) 0 0 (fun _ => False) := by
  refine Met.ofW (cc := cX1_has) (maxL := 2) (ret := (some .boolean)) (by decide) rfl ?_
  intro p e s m args below meth c s₁ B hml hv
  obtain ⟨hav, hP, hK, hn⟩ := hv
  have hx := B.exec
  have hb := B.bytes
  have hr := B.returns
  have hts := atoms_spec (ws := wsX1_has) B.pre
  have hown : s.vm.findClass RX1 = some m.cls := findClass_of_methodNamed B.named
  have hlocks := B.notSynchronized
  have hS : va_S (fun _ => False) s.heap s.heap [] := va_S.rf
  generalize hQ : MQ below (va_Qi (fun (r : Int32) (_ : Unit) => r = bI (hasI x nk)) (fun _ _ => True) (fun _ => False)) args s 0 0 (fun _ => False) = Q
  refine W.eq (g2 := entryFrame m ([.ref k0, .int x] : List Value).toArray 2) (by rw [hav]) ?_
  have hl := lv_entry ([.ref k0, .int x]) (n := 2) (Nat.le_of_ble_eq_true rfl)
  rw [lg_entry_eq]
  generalize (lg_sl ([.ref k0, .int x]) ++ List.replicate (2 - (lg_sl ([.ref k0, .int x])).length) Slot.unset).toArray = ls at hl ⊢
  have hl : lv_has ls 2 [(0, .ref k0), (1, .int x)] := hl
  obtain ⟨H, hH⟩ : ∃ H, H = s.heap := ⟨_, rfl⟩
  obtain ⟨locs, hlo⟩ : ∃ q : List Loc, q = [] := ⟨_, rfl⟩
  have hP : va_P (dC, dI) vwCl (wK k0 k1 k2 cI nk pa fa) H := by rw [hH]; exact hP
  have hS : va_S (fun _ => False) s.heap H locs := by rw [hH, hlo]; exact hS
  refine zz_hl hH hlo ?_
  refine lv_iload_n hx hb dX1_has_0 rfl (lv_at hl 1 rfl) ?_
  refine lv_if_lt (tgt := 16) hx hb dX1_has_1 (by decide) (fun c_1 => ?_) (fun c_1 => ?_)
  · skip
    refine lv_iconst (v := 0) hx hb dX1_has_16 (by decide) ?_
    rw [← hQ]
    exact W.zret (v := 0) hx hb hr rfl (fun t ht hW => ⟨⟨0, (), rfl, (by simp [hasI, bI, *]), trivial⟩, hS.F ht⟩) hS.2.2 dX1_has_17
  · skip
    refine lv_iload_n hx hb dX1_has_4 rfl (lv_at hl 1 rfl) ?_
    refine lv_aload_n hx hb dX1_has_5 rfl (lv_at hl 0 rfl) ?_
    refine va_get (D := (dC, dI)) (ci := 1) (v := .int (nI nk)) (C := RX1) (T := TX1) (N := 3) hx hb hts (by decide +kernel) hown hK hP 0 rfl rfl 2 (by decide) (hts (.fieldLink RX1 18 "HandlerOptimizer$Kinds" "count" "I") (by decide +kernel)) (fun _ h9 => h9) rfl dX1_has_6 ?_
    refine lv_icmp_ge (tgt := 16) hx hb dX1_has_9 (by decide) (fun c_2 => ?_) (fun c_2 => ?_)
    · skip
      refine lv_iconst (v := 0) hx hb dX1_has_16 (by decide) ?_
      rw [← hQ]
      exact W.zret (v := 0) hx hb hr rfl (fun t ht hW => ⟨⟨0, (), rfl, (by simp [hasI, bI, *]), trivial⟩, hS.F ht⟩) hS.2.2 dX1_has_17
    · skip
      refine lv_iconst (v := 1) hx hb dX1_has_12 (by decide) ?_
      refine lv_goto (tgt := 17) hx hb dX1_has_13 (by decide) ?_
      rw [← hQ]
      exact W.zret (v := 1) hx hb hr rfl (fun t ht hW => ⟨⟨1, (), rfl, (by simp [hasI, bI, *]), trivial⟩, hS.F ht⟩) hS.2.2 dX1_has_17

set_option maxHeartbeats 4000000 in
set_option maxRecDepth 100000 in
/-- whether x is a number from 0 to nc - 1 -/
theorem c_X0_has (l : Launch) (dC : Nat → ClassId) (dI : Nat → Nat → Nat) (cI cZ cJ : ClassId) (c0 : Nat) (c1 : Nat) (c2 : Nat) (c3 : Nat) (nc : Nat) (fo : Nat → Int32) (th : Nat → Int32) (tg : Nat → Int32) (x : Int32) (hn9 : nc ≤ 48) : Met l yX0_has wsX0_has ({ frames := 0, cells := 0, slots := 0, locals := 0 } : Room) (va_Pc [.ref c0, .int x] (zPre (dC, dI) [(cI, .int), (cZ, .boolean), (cJ, .long)] (wC c0 c1 c2 c3 cI nc fo th tg))) (va_Qi (fun (r : Int32) (_ : Unit) => r = bI (hasI x nc)) (fun _ _ => True) (fun _ => False)) 0 0 (fun _ => False) := by
  refine Met.ofW (cc := cX0_has) (maxL := 2) (ret := (some .boolean)) (by decide) rfl ?_
  intro p e s m args below meth c s₁ B hml hv
  obtain ⟨hav, hP, hK, hn⟩ := hv
  have hx := B.exec
  have hb := B.bytes
  have hr := B.returns
  have hts := atoms_spec (ws := wsX0_has) B.pre
  have hown : s.vm.findClass RX0 = some m.cls := findClass_of_methodNamed B.named
  have hlocks := B.notSynchronized
  have hS : va_S (fun _ => False) s.heap s.heap [] := va_S.rf
  generalize hQ : MQ below (va_Qi (fun (r : Int32) (_ : Unit) => r = bI (hasI x nc)) (fun _ _ => True) (fun _ => False)) args s 0 0 (fun _ => False) = Q
  refine W.eq (g2 := entryFrame m ([.ref c0, .int x] : List Value).toArray 2) (by rw [hav]) ?_
  have hl := lv_entry ([.ref c0, .int x]) (n := 2) (Nat.le_of_ble_eq_true rfl)
  rw [lg_entry_eq]
  generalize (lg_sl ([.ref c0, .int x]) ++ List.replicate (2 - (lg_sl ([.ref c0, .int x])).length) Slot.unset).toArray = ls at hl ⊢
  have hl : lv_has ls 2 [(0, .ref c0), (1, .int x)] := hl
  obtain ⟨H, hH⟩ : ∃ H, H = s.heap := ⟨_, rfl⟩
  obtain ⟨locs, hlo⟩ : ∃ q : List Loc, q = [] := ⟨_, rfl⟩
  have hP : va_P (dC, dI) vwCl (wC c0 c1 c2 c3 cI nc fo th tg) H := by rw [hH]; exact hP
  have hS : va_S (fun _ => False) s.heap H locs := by rw [hH, hlo]; exact hS
  refine zz_hl hH hlo ?_
  refine lv_iload_n hx hb dX0_has_0 rfl (lv_at hl 1 rfl) ?_
  refine lv_if_lt (tgt := 16) hx hb dX0_has_1 (by decide) (fun c_1 => ?_) (fun c_1 => ?_)
  · skip
    refine lv_iconst (v := 0) hx hb dX0_has_16 (by decide) ?_
    rw [← hQ]
    exact W.zret (v := 0) hx hb hr rfl (fun t ht hW => ⟨⟨0, (), rfl, (by simp [hasI, bI, *]), trivial⟩, hS.F ht⟩) hS.2.2 dX0_has_17
  · skip
    refine lv_iload_n hx hb dX0_has_4 rfl (lv_at hl 1 rfl) ?_
    refine lv_aload_n hx hb dX0_has_5 rfl (lv_at hl 0 rfl) ?_
    refine va_get (D := (dC, dI)) (ci := 0) (v := .int (nI nc)) (C := RX0) (T := TX0) (N := 4) hx hb hts (by decide +kernel) hown hK hP 0 rfl rfl 3 (by decide) (hts (.fieldLink RX0 21 "HandlerOptimizer$Code" "count" "I") (by decide +kernel)) (fun _ h9 => h9) rfl dX0_has_6 ?_
    refine lv_icmp_ge (tgt := 16) hx hb dX0_has_9 (by decide) (fun c_2 => ?_) (fun c_2 => ?_)
    · skip
      refine lv_iconst (v := 0) hx hb dX0_has_16 (by decide) ?_
      rw [← hQ]
      exact W.zret (v := 0) hx hb hr rfl (fun t ht hW => ⟨⟨0, (), rfl, (by simp [hasI, bI, *]), trivial⟩, hS.F ht⟩) hS.2.2 dX0_has_17
    · skip
      refine lv_iconst (v := 1) hx hb dX0_has_12 (by decide) ?_
      refine lv_goto (tgt := 17) hx hb dX0_has_13 (by decide) ?_
      rw [← hQ]
      exact W.zret (v := 1) hx hb hr rfl (fun t ht hW => ⟨⟨1, (), rfl, (by simp [hasI, bI, *]), trivial⟩, hS.F ht⟩) hS.2.2 dX0_has_17

set_option maxHeartbeats 4000000 in
set_option maxRecDepth 100000 in
/-- whether x is a number from 0 to nt - 1 -/
theorem c_X2_has (l : Launch) (dC : Nat → ClassId) (dI : Nat → Nat → Nat) (cI cZ cJ : ClassId) (t0 : Nat) (t1 : Nat) (t2 : Nat) (t3 : Nat) (t4 : Nat) (nt : Nat) (tb : Nat → Int32) (te : Nat → Int32) (tk : Nat → Int32) (tt : Nat → Int32) (x : Int32) (hn9 : nt ≤ 24) : Met l yX2_has wsX2_has ({ frames := 0, cells := 0, slots := 0, locals := 0 } : Room) (va_Pc [.ref t0, .int x] (zPre (dC, dI) [(cI, .int), (cZ, .boolean), (cJ, .long)] (wT t0 t1 t2 t3 t4 cI nt tb te tk tt))) (va_Qi (fun (r : Int32) (_ : Unit) => r = bI (hasI x nt)) (fun _ _ => True) (fun _ => False)) 0 0 (fun _ => False) := by
  refine Met.ofW (cc := cX2_has) (maxL := 2) (ret := (some .boolean)) (by decide) rfl ?_
  intro p e s m args below meth c s₁ B hml hv
  obtain ⟨hav, hP, hK, hn⟩ := hv
  have hx := B.exec
  have hb := B.bytes
  have hr := B.returns
  have hts := atoms_spec (ws := wsX2_has) B.pre
  have hown : s.vm.findClass RX2 = some m.cls := findClass_of_methodNamed B.named
  have hlocks := B.notSynchronized
  have hS : va_S (fun _ => False) s.heap s.heap [] := va_S.rf
  generalize hQ : MQ below (va_Qi (fun (r : Int32) (_ : Unit) => r = bI (hasI x nt)) (fun _ _ => True) (fun _ => False)) args s 0 0 (fun _ => False) = Q
  refine W.eq (g2 := entryFrame m ([.ref t0, .int x] : List Value).toArray 2) (by rw [hav]) ?_
  have hl := lv_entry ([.ref t0, .int x]) (n := 2) (Nat.le_of_ble_eq_true rfl)
  rw [lg_entry_eq]
  generalize (lg_sl ([.ref t0, .int x]) ++ List.replicate (2 - (lg_sl ([.ref t0, .int x])).length) Slot.unset).toArray = ls at hl ⊢
  have hl : lv_has ls 2 [(0, .ref t0), (1, .int x)] := hl
  obtain ⟨H, hH⟩ : ∃ H, H = s.heap := ⟨_, rfl⟩
  obtain ⟨locs, hlo⟩ : ∃ q : List Loc, q = [] := ⟨_, rfl⟩
  have hP : va_P (dC, dI) vwCl (wT t0 t1 t2 t3 t4 cI nt tb te tk tt) H := by rw [hH]; exact hP
  have hS : va_S (fun _ => False) s.heap H locs := by rw [hH, hlo]; exact hS
  refine zz_hl hH hlo ?_
  refine lv_iload_n hx hb dX2_has_0 rfl (lv_at hl 1 rfl) ?_
  refine lv_if_lt (tgt := 16) hx hb dX2_has_1 (by decide) (fun c_1 => ?_) (fun c_1 => ?_)
  · skip
    refine lv_iconst (v := 0) hx hb dX2_has_16 (by decide) ?_
    rw [← hQ]
    exact W.zret (v := 0) hx hb hr rfl (fun t ht hW => ⟨⟨0, (), rfl, (by simp [hasI, bI, *]), trivial⟩, hS.F ht⟩) hS.2.2 dX2_has_17
  · skip
    refine lv_iload_n hx hb dX2_has_4 rfl (lv_at hl 1 rfl) ?_
    refine lv_aload_n hx hb dX2_has_5 rfl (lv_at hl 0 rfl) ?_
    refine va_get (D := (dC, dI)) (ci := 2) (v := .int (nI nt)) (C := RX2) (T := TX2) (N := 5) hx hb hts (by decide +kernel) hown hK hP 0 rfl rfl 4 (by decide) (hts (.fieldLink RX2 24 "HandlerOptimizer$Table" "count" "I") (by decide +kernel)) (fun _ h9 => h9) rfl dX2_has_6 ?_
    refine lv_icmp_ge (tgt := 16) hx hb dX2_has_9 (by decide) (fun c_2 => ?_) (fun c_2 => ?_)
    · skip
      refine lv_iconst (v := 0) hx hb dX2_has_16 (by decide) ?_
      rw [← hQ]
      exact W.zret (v := 0) hx hb hr rfl (fun t ht hW => ⟨⟨0, (), rfl, (by simp [hasI, bI, *]), trivial⟩, hS.F ht⟩) hS.2.2 dX2_has_17
    · skip
      refine lv_iconst (v := 1) hx hb dX2_has_12 (by decide) ?_
      refine lv_goto (tgt := 17) hx hb dX2_has_13 (by decide) ?_
      rw [← hQ]
      exact W.zret (v := 1) hx hb hr rfl (fun t ht hW => ⟨⟨1, (), rfl, (by simp [hasI, bI, *]), trivial⟩, hS.F ht⟩) hS.2.2 dX2_has_17

set_option maxHeartbeats 4000000 in
set_option maxRecDepth 100000 in
/-- whether x is a number from 0 to nk - 1 -/
theorem c_X1_has (l : Launch) (dC : Nat → ClassId) (dI : Nat → Nat → Nat) (cI cZ cJ : ClassId) (k0 : Nat) (k1 : Nat) (k2 : Nat) (nk : Nat) (pa : Nat → Int32) (fa : Nat → Int32) (x : Int32) : Met l yX1_has wsX1_has ({ frames := 0, cells := 0, slots := 0, locals := 0 } : Room) (va_Pc [.ref k0, .int x] (zPre (dC, dI) [(cI, .int), (cZ, .boolean), (cJ, .long)] (wK k0 k1 k2 cI nk pa fa))) (va_Qi (fun (r : Int32) (_ : Unit) => r = bI (hasI x nk)) (fun _ _ => True) (fun _ => False)) 0 0 (fun _ => False) := by
  refine Met.ofW (cc := cX1_has) (maxL := 2) (ret := (some .boolean)) (by decide) rfl ?_
  intro p e s m args below meth c s₁ B hml hv
  obtain ⟨hav, hP, hK, hn⟩ := hv
  have hx := B.exec
  have hb := B.bytes
  have hr := B.returns
  have hts := atoms_spec (ws := wsX1_has) B.pre
  have hown : s.vm.findClass RX1 = some m.cls := findClass_of_methodNamed B.named
  have hlocks := B.notSynchronized
  have hS : va_S (fun _ => False) s.heap s.heap [] := va_S.rf
  generalize hQ : MQ below (va_Qi (fun (r : Int32) (_ : Unit) => r = bI (hasI x nk)) (fun _ _ => True) (fun _ => False)) args s 0 0 (fun _ => False) = Q
  refine W.eq (g2 := entryFrame m ([.ref k0, .int x] : List Value).toArray 2) (by rw [hav]) ?_
  have hl := lv_entry ([.ref k0, .int x]) (n := 2) (Nat.le_of_ble_eq_true rfl)
  rw [lg_entry_eq]
  generalize (lg_sl ([.ref k0, .int x]) ++ List.replicate (2 - (lg_sl ([.ref k0, .int x])).length) Slot.unset).toArray = ls at hl ⊢
  have hl : lv_has ls 2 [(0, .ref k0), (1, .int x)] := hl
  obtain ⟨H, hH⟩ : ∃ H, H = s.heap := ⟨_, rfl⟩
  obtain ⟨locs, hlo⟩ : ∃ q : List Loc, q = [] := ⟨_, rfl⟩
  have hP : va_P (dC, dI) vwCl (wK k0 k1 k2 cI nk pa fa) H := by rw [hH]; exact hP
  have hS : va_S (fun _ => False) s.heap H locs := by rw [hH, hlo]; exact hS
  refine zz_hl hH hlo ?_
  refine lv_iload_n hx hb dX1_has_0 rfl (lv_at hl 1 rfl) ?_
  refine lv_if_lt (tgt := 16) hx hb dX1_has_1 (by decide) (fun c_1 => ?_) (fun c_1 => ?_)
  · skip
    skip
    refine lv_iconst (v := 0) hx hb dX1_has_16 (by decide) ?_
    rw [← hQ]
    exact W.zret (v := 0) hx hb hr rfl (fun t ht hW => ⟨⟨0, (), rfl, (by simp [hasI, bI, *]), trivial⟩, hS.F ht⟩) hS.2.2 dX1_has_17
  · skip
    skip
    refine lv_iload_n hx hb dX1_has_4 rfl (lv_at hl 1 rfl) ?_
    refine lv_aload_n hx hb dX1_has_5 rfl (lv_at hl 0 rfl) ?_
    refine va_get (D := (dC, dI)) (ci := 1) (v := .int (nI nk)) (C := RX1) (T := TX1) (N := 3) hx hb hts (by decide +kernel) hown hK hP 0 rfl rfl 2 (by decide) (hts (.fieldLink RX1 18 "HandlerOptimizer$Kinds" "count" "I") (by decide +kernel)) (fun _ h9 => h9) rfl dX1_has_6 ?_
    refine lv_icmp_ge (tgt := 16) hx hb dX1_has_9 (by decide) (fun c_2 => ?_) (fun c_2 => ?_)
    · skip
      skip
      refine lv_iconst (v := 0) hx hb dX1_has_16 (by decide) ?_
      rw [← hQ]
      exact W.zret (v := 0) hx hb hr rfl (fun t ht hW => ⟨⟨0, (), rfl, (by simp [hasI, bI, *]), trivial⟩, hS.F ht⟩) hS.2.2 dX1_has_17
    · skip
      skip
      refine lv_iconst (v := 1) hx hb dX1_has_12 (by decide) ?_
      refine lv_goto (tgt := 17) hx hb dX1_has_13 (by decide) ?_
      rw [← hQ]
      exact W.zret (v := 1) hx hb hr rfl (fun t ht hW => ⟨⟨1, (), rfl, (by simp [hasI, bI, *]), trivial⟩, hS.F ht⟩) hS.2.2 dX1_has_17

set_option maxHeartbeats 4000000 in
set_option maxRecDepth 100000 in
/-- whether x is a number from 0 to nc - 1 -/
theorem c_X0_has (l : Launch) (dC : Nat → ClassId) (dI : Nat → Nat → Nat) (cI cZ cJ : ClassId) (c0 : Nat) (c1 : Nat) (c2 : Nat) (c3 : Nat) (nc : Nat) (fo : Nat → Int32) (th : Nat → Int32) (tg : Nat → Int32) (x : Int32) : Met l yX0_has wsX0_has ({ frames := 0, cells := 0, slots := 0, locals := 0 } : Room) (va_Pc [.ref c0, .int x] (zPre (dC, dI) [(cI, .int), (cZ, .boolean), (cJ, .long)] (wC c0 c1 c2 c3 cI nc fo th tg))) (va_Qi (fun (r : Int32) (_ : Unit) => r = bI (hasI x nc)) (fun _ _ => True) (fun _ => False)) 0 0 (fun _ => False) := by
  refine Met.ofW (cc := cX0_has) (maxL := 2) (ret := (some .boolean)) (by decide) rfl ?_
  intro p e s m args below meth c s₁ B hml hv
  obtain ⟨hav, hP, hK, hn⟩ := hv
  have hx := B.exec
  have hb := B.bytes
  have hr := B.returns
  have hts := atoms_spec (ws := wsX0_has) B.pre
  have hown : s.vm.findClass RX0 = some m.cls := findClass_of_methodNamed B.named
  have hlocks := B.notSynchronized
  have hS : va_S (fun _ => False) s.heap s.heap [] := va_S.rf
  generalize hQ : MQ below (va_Qi (fun (r : Int32) (_ : Unit) => r = bI (hasI x nc)) (fun _ _ => True) (fun _ => False)) args s 0 0 (fun _ => False) = Q
  refine W.eq (g2 := entryFrame m ([.ref c0, .int x] : List Value).toArray 2) (by rw [hav]) ?_
  have hl := lv_entry ([.ref c0, .int x]) (n := 2) (Nat.le_of_ble_eq_true rfl)
  rw [lg_entry_eq]
  generalize (lg_sl ([.ref c0, .int x]) ++ List.replicate (2 - (lg_sl ([.ref c0, .int x])).length) Slot.unset).toArray = ls at hl ⊢
  have hl : lv_has ls 2 [(0, .ref c0), (1, .int x)] := hl
  obtain ⟨H, hH⟩ : ∃ H, H = s.heap := ⟨_, rfl⟩
  obtain ⟨locs, hlo⟩ : ∃ q : List Loc, q = [] := ⟨_, rfl⟩
  have hP : va_P (dC, dI) vwCl (wC c0 c1 c2 c3 cI nc fo th tg) H := by rw [hH]; exact hP
  have hS : va_S (fun _ => False) s.heap H locs := by rw [hH, hlo]; exact hS
  refine zz_hl hH hlo ?_
  refine lv_iload_n hx hb dX0_has_0 rfl (lv_at hl 1 rfl) ?_
  refine lv_if_lt (tgt := 16) hx hb dX0_has_1 (by decide) (fun c_1 => ?_) (fun c_1 => ?_)
  · skip
    skip
    refine lv_iconst (v := 0) hx hb dX0_has_16 (by decide) ?_
    rw [← hQ]
    exact W.zret (v := 0) hx hb hr rfl (fun t ht hW => ⟨⟨0, (), rfl, (by simp [hasI, bI, *]), trivial⟩, hS.F ht⟩) hS.2.2 dX0_has_17
  · skip
    skip
    refine lv_iload_n hx hb dX0_has_4 rfl (lv_at hl 1 rfl) ?_
    refine lv_aload_n hx hb dX0_has_5 rfl (lv_at hl 0 rfl) ?_
    refine va_get (D := (dC, dI)) (ci := 0) (v := .int (nI nc)) (C := RX0) (T := TX0) (N := 4) hx hb hts (by decide +kernel) hown hK hP 0 rfl rfl 3 (by decide) (hts (.fieldLink RX0 21 "HandlerOptimizer$Code" "count" "I") (by decide +kernel)) (fun _ h9 => h9) rfl dX0_has_6 ?_
    refine lv_icmp_ge (tgt := 16) hx hb dX0_has_9 (by decide) (fun c_2 => ?_) (fun c_2 => ?_)
    · skip
      skip
      refine lv_iconst (v := 0) hx hb dX0_has_16 (by decide) ?_
      rw [← hQ]
      exact W.zret (v := 0) hx hb hr rfl (fun t ht hW => ⟨⟨0, (), rfl, (by simp [hasI, bI, *]), trivial⟩, hS.F ht⟩) hS.2.2 dX0_has_17
    · skip
      skip
      refine lv_iconst (v := 1) hx hb dX0_has_12 (by decide) ?_
      refine lv_goto (tgt := 17) hx hb dX0_has_13 (by decide) ?_
      rw [← hQ]
      exact W.zret (v := 1) hx hb hr rfl (fun t ht hW => ⟨⟨1, (), rfl, (by simp [hasI, bI, *]), trivial⟩, hS.F ht⟩) hS.2.2 dX0_has_17

set_option maxHeartbeats 4000000 in
set_option maxRecDepth 100000 in
/-- whether x is a number from 0 to nt - 1 -/
theorem c_X2_has (l : Launch) (dC : Nat → ClassId) (dI : Nat → Nat → Nat) (cI cZ cJ : ClassId) (t0 : Nat) (t1 : Nat) (t2 : Nat) (t3 : Nat) (t4 : Nat) (nt : Nat) (tb : Nat → Int32) (te : Nat → Int32) (tk : Nat → Int32) (tt : Nat → Int32) (x : Int32) : Met l yX2_has wsX2_has ({ frames := 0, cells := 0, slots := 0, locals := 0 } : Room) (va_Pc [.ref t0, .int x] (zPre (dC, dI) [(cI, .int), (cZ, .boolean), (cJ, .long)] (wT t0 t1 t2 t3 t4 cI nt tb te tk tt))) (va_Qi (fun (r : Int32) (_ : Unit) => r = bI (hasI x nt)) (fun _ _ => True) (fun _ => False)) 0 0 (fun _ => False) := by
  refine Met.ofW (cc := cX2_has) (maxL := 2) (ret := (some .boolean)) (by decide) rfl ?_
  intro p e s m args below meth c s₁ B hml hv
  obtain ⟨hav, hP, hK, hn⟩ := hv
  have hx := B.exec
  have hb := B.bytes
  have hr := B.returns
  have hts := atoms_spec (ws := wsX2_has) B.pre
  have hown : s.vm.findClass RX2 = some m.cls := findClass_of_methodNamed B.named
  have hlocks := B.notSynchronized
  have hS : va_S (fun _ => False) s.heap s.heap [] := va_S.rf
  generalize hQ : MQ below (va_Qi (fun (r : Int32) (_ : Unit) => r = bI (hasI x nt)) (fun _ _ => True) (fun _ => False)) args s 0 0 (fun _ => False) = Q
  refine W.eq (g2 := entryFrame m ([.ref t0, .int x] : List Value).toArray 2) (by rw [hav]) ?_
  have hl := lv_entry ([.ref t0, .int x]) (n := 2) (Nat.le_of_ble_eq_true rfl)
  rw [lg_entry_eq]
  generalize (lg_sl ([.ref t0, .int x]) ++ List.replicate (2 - (lg_sl ([.ref t0, .int x])).length) Slot.unset).toArray = ls at hl ⊢
  have hl : lv_has ls 2 [(0, .ref t0), (1, .int x)] := hl
  obtain ⟨H, hH⟩ : ∃ H, H = s.heap := ⟨_, rfl⟩
  obtain ⟨locs, hlo⟩ : ∃ q : List Loc, q = [] := ⟨_, rfl⟩
  have hP : va_P (dC, dI) vwCl (wT t0 t1 t2 t3 t4 cI nt tb te tk tt) H := by rw [hH]; exact hP
  have hS : va_S (fun _ => False) s.heap H locs := by rw [hH, hlo]; exact hS
  refine zz_hl hH hlo ?_
  refine lv_iload_n hx hb dX2_has_0 rfl (lv_at hl 1 rfl) ?_
  refine lv_if_lt (tgt := 16) hx hb dX2_has_1 (by decide) (fun c_1 => ?_) (fun c_1 => ?_)
  · skip
    skip
    refine lv_iconst (v := 0) hx hb dX2_has_16 (by decide) ?_
    rw [← hQ]
    exact W.zret (v := 0) hx hb hr rfl (fun t ht hW => ⟨⟨0, (), rfl, (by simp [hasI, bI, *]), trivial⟩, hS.F ht⟩) hS.2.2 dX2_has_17
  · skip
    skip
    refine lv_iload_n hx hb dX2_has_4 rfl (lv_at hl 1 rfl) ?_
    refine lv_aload_n hx hb dX2_has_5 rfl (lv_at hl 0 rfl) ?_
    refine va_get (D := (dC, dI)) (ci := 2) (v := .int (nI nt)) (C := RX2) (T := TX2) (N := 5) hx hb hts (by decide +kernel) hown hK hP 0 rfl rfl 4 (by decide) (hts (.fieldLink RX2 24 "HandlerOptimizer$Table" "count" "I") (by decide +kernel)) (fun _ h9 => h9) rfl dX2_has_6 ?_
    refine lv_icmp_ge (tgt := 16) hx hb dX2_has_9 (by decide) (fun c_2 => ?_) (fun c_2 => ?_)
    · skip
      skip
      refine lv_iconst (v := 0) hx hb dX2_has_16 (by decide) ?_
      rw [← hQ]
      exact W.zret (v := 0) hx hb hr rfl (fun t ht hW => ⟨⟨0, (), rfl, (by simp [hasI, bI, *]), trivial⟩, hS.F ht⟩) hS.2.2 dX2_has_17
    · skip
      skip
      refine lv_iconst (v := 1) hx hb dX2_has_12 (by decide) ?_
      refine lv_goto (tgt := 17) hx hb dX2_has_13 (by decide) ?_
      rw [← hQ]
      exact W.zret (v := 1) hx hb hr rfl (fun t ht hW => ⟨⟨1, (), rfl, (by simp [hasI, bI, *]), trivial⟩, hS.F ht⟩) hS.2.2 dX2_has_17

set_option maxHeartbeats 4000000 in
set_option maxRecDepth 100000 in
theorem c_X1_isFull (l : Launch) (dC : Nat → ClassId) (dI : Nat → Nat → Nat) (cI cZ cJ : ClassId) (k0 : Nat) (k1 : Nat) (k2 : Nat) (nk : Nat) (pa : Nat → Int32) (fa : Nat → Int32) (hn9 : nk ≤ 8) : Met l yX1_isFull wsX1_isFull ({ frames := 0, cells := 0, slots := 0, locals := 0 } : Room) (va_Pc [.ref k0] (zPre (dC, dI) [(cI, .int), (cZ, .boolean), (cJ, .long)] (wK k0 k1 k2 cI nk pa fa))) (va_Qi (fun (r : Int32) (_ : Unit) => r = bI (decide (8 ≤ nk))) (fun _ _ => True) (fun _ => False)) 0 0 (fun _ => False) := by
  refine Met.ofW (cc := cX1_isFull) (maxL := 1) (ret := (some .boolean)) (by decide) rfl ?_
  intro p e s m args below meth c s₁ B hml hv
  obtain ⟨hav, hP, hK, hn⟩ := hv
  have hx := B.exec
  have hb := B.bytes
  have hr := B.returns
  have hts := atoms_spec (ws := wsX1_isFull) B.pre
  have hown : s.vm.findClass RX1 = some m.cls := findClass_of_methodNamed B.named
  have hlocks := B.notSynchronized
  have hS : va_S (fun _ => False) s.heap s.heap [] := va_S.rf
  generalize hQ : MQ below (va_Qi (fun (r : Int32) (_ : Unit) => r = bI (decide (8 ≤ nk))) (fun _ _ => True) (fun _ => False)) args s 0 0 (fun _ => False) = Q
  refine W.eq (g2 := entryFrame m ([.ref k0] : List Value).toArray 1) (by rw [hav]) ?_
  have hl := lv_entry ([.ref k0]) (n := 1) (Nat.le_of_ble_eq_true rfl)
  rw [lg_entry_eq]
  generalize (lg_sl ([.ref k0]) ++ List.replicate (1 - (lg_sl ([.ref k0])).length) Slot.unset).toArray = ls at hl ⊢
  have hl : lv_has ls 1 [(0, .ref k0)] := hl
  obtain ⟨H, hH⟩ : ∃ H, H = s.heap := ⟨_, rfl⟩
  obtain ⟨locs, hlo⟩ : ∃ q : List Loc, q = [] := ⟨_, rfl⟩
  have hP : va_P (dC, dI) vwCl (wK k0 k1 k2 cI nk pa fa) H := by rw [hH]; exact hP
  have hS : va_S (fun _ => False) s.heap H locs := by rw [hH, hlo]; exact hS
  refine zz_hl hH hlo ?_
  refine lv_aload_n hx hb dX1_isFull_0 rfl (lv_at hl 0 rfl) ?_
  refine va_get (D := (dC, dI)) (ci := 1) (v := .int (nI nk)) (C := RX1) (T := TX1) (N := 3) hx hb hts (by decide +kernel) hown hK hP 0 rfl rfl 2 (by decide) (hts (.fieldLink RX1 18 "HandlerOptimizer$Kinds" "count" "I") (by decide +kernel)) (fun _ h9 => h9) rfl dX1_isFull_1 ?_
  refine lv_bipush (v := 8) hx hb dX1_isFull_4 (by decide) ?_
  refine lv_icmp_lt (tgt := 13) hx hb dX1_isFull_6 (by decide) (fun c_1 => ?_) (fun c_1 => ?_)
  · skip
    have c_1 := (zz_ltt (a := nk) (b := 8) (by omega) (by omega)).mp c_1
    refine lv_iconst (v := 0) hx hb dX1_isFull_13 (by decide) ?_
    rw [← hQ]
    exact W.zret (v := 0) hx hb hr rfl (fun t ht hW => ⟨⟨0, (), rfl, (by simp [bI, Nat.not_le, *]), trivial⟩, hS.F ht⟩) hS.2.2 dX1_isFull_14
  · skip
    have c_1 := (zz_ltf (a := nk) (b := 8) (by omega) (by omega)).mp c_1
    refine lv_iconst (v := 1) hx hb dX1_isFull_9 (by decide) ?_
    refine lv_goto (tgt := 14) hx hb dX1_isFull_10 (by decide) ?_
    rw [← hQ]
    exact W.zret (v := 1) hx hb hr rfl (fun t ht hW => ⟨⟨1, (), rfl, (by simp [bI, Nat.not_le, *]), trivial⟩, hS.F ht⟩) hS.2.2 dX1_isFull_14

set_option maxHeartbeats 4000000 in
set_option maxRecDepth 100000 in
theorem c_X0_isFull (l : Launch) (dC : Nat → ClassId) (dI : Nat → Nat → Nat) (cI cZ cJ : ClassId) (c0 : Nat) (c1 : Nat) (c2 : Nat) (c3 : Nat) (nc : Nat) (fo : Nat → Int32) (th : Nat → Int32) (tg : Nat → Int32) (hn9 : nc ≤ 48) : Met l yX0_isFull wsX0_isFull ({ frames := 0, cells := 0, slots := 0, locals := 0 } : Room) (va_Pc [.ref c0] (zPre (dC, dI) [(cI, .int), (cZ, .boolean), (cJ, .long)] (wC c0 c1 c2 c3 cI nc fo th tg))) (va_Qi (fun (r : Int32) (_ : Unit) => r = bI (decide (48 ≤ nc))) (fun _ _ => True) (fun _ => False)) 0 0 (fun _ => False) := by
  refine Met.ofW (cc := cX0_isFull) (maxL := 1) (ret := (some .boolean)) (by decide) rfl ?_
  intro p e s m args below meth c s₁ B hml hv
  obtain ⟨hav, hP, hK, hn⟩ := hv
  have hx := B.exec
  have hb := B.bytes
  have hr := B.returns
  have hts := atoms_spec (ws := wsX0_isFull) B.pre
  have hown : s.vm.findClass RX0 = some m.cls := findClass_of_methodNamed B.named
  have hlocks := B.notSynchronized
  have hS : va_S (fun _ => False) s.heap s.heap [] := va_S.rf
  generalize hQ : MQ below (va_Qi (fun (r : Int32) (_ : Unit) => r = bI (decide (48 ≤ nc))) (fun _ _ => True) (fun _ => False)) args s 0 0 (fun _ => False) = Q
  refine W.eq (g2 := entryFrame m ([.ref c0] : List Value).toArray 1) (by rw [hav]) ?_
  have hl := lv_entry ([.ref c0]) (n := 1) (Nat.le_of_ble_eq_true rfl)
  rw [lg_entry_eq]
  generalize (lg_sl ([.ref c0]) ++ List.replicate (1 - (lg_sl ([.ref c0])).length) Slot.unset).toArray = ls at hl ⊢
  have hl : lv_has ls 1 [(0, .ref c0)] := hl
  obtain ⟨H, hH⟩ : ∃ H, H = s.heap := ⟨_, rfl⟩
  obtain ⟨locs, hlo⟩ : ∃ q : List Loc, q = [] := ⟨_, rfl⟩
  have hP : va_P (dC, dI) vwCl (wC c0 c1 c2 c3 cI nc fo th tg) H := by rw [hH]; exact hP
  have hS : va_S (fun _ => False) s.heap H locs := by rw [hH, hlo]; exact hS
  refine zz_hl hH hlo ?_
  refine lv_aload_n hx hb dX0_isFull_0 rfl (lv_at hl 0 rfl) ?_
  refine va_get (D := (dC, dI)) (ci := 0) (v := .int (nI nc)) (C := RX0) (T := TX0) (N := 4) hx hb hts (by decide +kernel) hown hK hP 0 rfl rfl 3 (by decide) (hts (.fieldLink RX0 21 "HandlerOptimizer$Code" "count" "I") (by decide +kernel)) (fun _ h9 => h9) rfl dX0_isFull_1 ?_
  refine lv_bipush (v := 48) hx hb dX0_isFull_4 (by decide) ?_
  refine lv_icmp_lt (tgt := 13) hx hb dX0_isFull_6 (by decide) (fun c_1 => ?_) (fun c_1 => ?_)
  · skip
    have c_1 := (zz_ltt (a := nc) (b := 48) (by omega) (by omega)).mp c_1
    refine lv_iconst (v := 0) hx hb dX0_isFull_13 (by decide) ?_
    rw [← hQ]
    exact W.zret (v := 0) hx hb hr rfl (fun t ht hW => ⟨⟨0, (), rfl, (by simp [bI, Nat.not_le, *]), trivial⟩, hS.F ht⟩) hS.2.2 dX0_isFull_14
  · skip
    have c_1 := (zz_ltf (a := nc) (b := 48) (by omega) (by omega)).mp c_1
    refine lv_iconst (v := 1) hx hb dX0_isFull_9 (by decide) ?_
    refine lv_goto (tgt := 14) hx hb dX0_isFull_10 (by decide) ?_
    rw [← hQ]
    exact W.zret (v := 1) hx hb hr rfl (fun t ht hW => ⟨⟨1, (), rfl, (by simp [bI, Nat.not_le, *]), trivial⟩, hS.F ht⟩) hS.2.2 dX0_isFull_14

set_option maxHeartbeats 4000000 in
set_option maxRecDepth 100000 in
theorem c_X2_isFull (l : Launch) (dC : Nat → ClassId) (dI : Nat → Nat → Nat) (cI cZ cJ : ClassId) (t0 : Nat) (t1 : Nat) (t2 : Nat) (t3 : Nat) (t4 : Nat) (nt : Nat) (tb : Nat → Int32) (te : Nat → Int32) (tk : Nat → Int32) (tt : Nat → Int32) (hn9 : nt ≤ 24) : Met l yX2_isFull wsX2_isFull ({ frames := 0, cells := 0, slots := 0, locals := 0 } : Room) (va_Pc [.ref t0] (zPre (dC, dI) [(cI, .int), (cZ, .boolean), (cJ, .long)] (wT t0 t1 t2 t3 t4 cI nt tb te tk tt))) (va_Qi (fun (r : Int32) (_ : Unit) => r = bI (decide (24 ≤ nt))) (fun _ _ => True) (fun _ => False)) 0 0 (fun _ => False) := by
  refine Met.ofW (cc := cX2_isFull) (maxL := 1) (ret := (some .boolean)) (by decide) rfl ?_
  intro p e s m args below meth c s₁ B hml hv
  obtain ⟨hav, hP, hK, hn⟩ := hv
  have hx := B.exec
  have hb := B.bytes
  have hr := B.returns
  have hts := atoms_spec (ws := wsX2_isFull) B.pre
  have hown : s.vm.findClass RX2 = some m.cls := findClass_of_methodNamed B.named
  have hlocks := B.notSynchronized
  have hS : va_S (fun _ => False) s.heap s.heap [] := va_S.rf
  generalize hQ : MQ below (va_Qi (fun (r : Int32) (_ : Unit) => r = bI (decide (24 ≤ nt))) (fun _ _ => True) (fun _ => False)) args s 0 0 (fun _ => False) = Q
  refine W.eq (g2 := entryFrame m ([.ref t0] : List Value).toArray 1) (by rw [hav]) ?_
  have hl := lv_entry ([.ref t0]) (n := 1) (Nat.le_of_ble_eq_true rfl)
  rw [lg_entry_eq]
  generalize (lg_sl ([.ref t0]) ++ List.replicate (1 - (lg_sl ([.ref t0])).length) Slot.unset).toArray = ls at hl ⊢
  have hl : lv_has ls 1 [(0, .ref t0)] := hl
  obtain ⟨H, hH⟩ : ∃ H, H = s.heap := ⟨_, rfl⟩
  obtain ⟨locs, hlo⟩ : ∃ q : List Loc, q = [] := ⟨_, rfl⟩
  have hP : va_P (dC, dI) vwCl (wT t0 t1 t2 t3 t4 cI nt tb te tk tt) H := by rw [hH]; exact hP
  have hS : va_S (fun _ => False) s.heap H locs := by rw [hH, hlo]; exact hS
  refine zz_hl hH hlo ?_
  refine lv_aload_n hx hb dX2_isFull_0 rfl (lv_at hl 0 rfl) ?_
  refine va_get (D := (dC, dI)) (ci := 2) (v := .int (nI nt)) (C := RX2) (T := TX2) (N := 5) hx hb hts (by decide +kernel) hown hK hP 0 rfl rfl 4 (by decide) (hts (.fieldLink RX2 24 "HandlerOptimizer$Table" "count" "I") (by decide +kernel)) (fun _ h9 => h9) rfl dX2_isFull_1 ?_
  refine lv_bipush (v := 24) hx hb dX2_isFull_4 (by decide) ?_
  refine lv_icmp_lt (tgt := 13) hx hb dX2_isFull_6 (by decide) (fun c_1 => ?_) (fun c_1 => ?_)
  · skip
    have c_1 := (zz_ltt (a := nt) (b := 24) (by omega) (by omega)).mp c_1
    refine lv_iconst (v := 0) hx hb dX2_isFull_13 (by decide) ?_
    rw [← hQ]
    exact W.zret (v := 0) hx hb hr rfl (fun t ht hW => ⟨⟨0, (), rfl, (by simp [bI, Nat.not_le, *]), trivial⟩, hS.F ht⟩) hS.2.2 dX2_isFull_14
  · skip
    have c_1 := (zz_ltf (a := nt) (b := 24) (by omega) (by omega)).mp c_1
    refine lv_iconst (v := 1) hx hb dX2_isFull_9 (by decide) ?_
    refine lv_goto (tgt := 14) hx hb dX2_isFull_10 (by decide) ?_
    rw [← hQ]
    exact W.zret (v := 1) hx hb hr rfl (fun t ht hW => ⟨⟨1, (), rfl, (by simp [bI, Nat.not_le, *]), trivial⟩, hS.F ht⟩) hS.2.2 dX2_isFull_14

set_option maxHeartbeats 4000000 in
set_option maxRecDepth 100000 in
theorem c_X1_hasAll (l : Launch) (dC : Nat → ClassId) (dI : Nat → Nat → Nat) (cI cZ cJ : ClassId) (k0 : Nat) (k1 : Nat) (k2 : Nat) (nk : Nat) (pa : Nat → Int32) (fa : Nat → Int32) (x : Int32) : Met l yX1_hasAll wsX1_hasAll ({ frames := 0, cells := 0, slots := 0, locals := 0 } : Room) (va_Pc [.ref k0, .int x] (zPre (dC, dI) [(cI, .int), (cZ, .boolean), (cJ, .long)] (wK k0 k1 k2 cI nk pa fa))) (va_Qi (fun (r : Int32) (_ : Unit) => r = bI (decide (x >>> (nI nk &&& 31) = 0))) (fun _ _ => True) (fun _ => False)) 0 0 (fun _ => False) := by
  refine Met.ofW (cc := cX1_hasAll) (maxL := 2) (ret := (some .boolean)) (by decide) rfl ?_
  intro p e s m args below meth c s₁ B hml hv
  obtain ⟨hav, hP, hK, hn⟩ := hv
  have hx := B.exec
  have hb := B.bytes
  have hr := B.returns
  have hts := atoms_spec (ws := wsX1_hasAll) B.pre
  have hown : s.vm.findClass RX1 = some m.cls := findClass_of_methodNamed B.named
  have hlocks := B.notSynchronized
  have hS : va_S (fun _ => False) s.heap s.heap [] := va_S.rf
  generalize hQ : MQ below (va_Qi (fun (r : Int32) (_ : Unit) => r = bI (decide (x >>> (nI nk &&& 31) = 0))) (fun _ _ => True) (fun _ => False)) args s 0 0 (fun _ => False) = Q
  refine W.eq (g2 := entryFrame m ([.ref k0, .int x] : List Value).toArray 2) (by rw [hav]) ?_
  have hl := lv_entry ([.ref k0, .int x]) (n := 2) (Nat.le_of_ble_eq_true rfl)
  rw [lg_entry_eq]
  generalize (lg_sl ([.ref k0, .int x]) ++ List.replicate (2 - (lg_sl ([.ref k0, .int x])).length) Slot.unset).toArray = ls at hl ⊢
  have hl : lv_has ls 2 [(0, .ref k0), (1, .int x)] := hl
  obtain ⟨H, hH⟩ : ∃ H, H = s.heap := ⟨_, rfl⟩
  obtain ⟨locs, hlo⟩ : ∃ q : List Loc, q = [] := ⟨_, rfl⟩
  have hP : va_P (dC, dI) vwCl (wK k0 k1 k2 cI nk pa fa) H := by rw [hH]; exact hP
  have hS : va_S (fun _ => False) s.heap H locs := by rw [hH, hlo]; exact hS
  refine zz_hl hH hlo ?_
  refine lv_iload_n hx hb dX1_hasAll_0 rfl (lv_at hl 1 rfl) ?_
  refine lv_aload_n hx hb dX1_hasAll_1 rfl (lv_at hl 0 rfl) ?_
  refine va_get (D := (dC, dI)) (ci := 1) (v := .int (nI nk)) (C := RX1) (T := TX1) (N := 3) hx hb hts (by decide +kernel) hown hK hP 0 rfl rfl 2 (by decide) (hts (.fieldLink RX1 18 "HandlerOptimizer$Kinds" "count" "I") (by decide +kernel)) (fun _ h9 => h9) rfl dX1_hasAll_2 ?_
  refine lv_ishr hx hb dX1_hasAll_5 ?_
  refine lv_if_ne (tgt := 13) hx hb dX1_hasAll_6 (by decide) (fun c_1 => ?_) (fun c_1 => ?_)
  · skip
    skip
    refine lv_iconst (v := 0) hx hb dX1_hasAll_13 (by decide) ?_
    rw [← hQ]
    exact W.zret (v := 0) hx hb hr rfl (fun t ht hW => ⟨⟨0, (), rfl, (by simp [bI, *]), trivial⟩, hS.F ht⟩) hS.2.2 dX1_hasAll_14
  · skip
    skip
    refine lv_iconst (v := 1) hx hb dX1_hasAll_9 (by decide) ?_
    refine lv_goto (tgt := 14) hx hb dX1_hasAll_10 (by decide) ?_
    rw [← hQ]
    exact W.zret (v := 1) hx hb hr rfl (fun t ht hW => ⟨⟨1, (), rfl, (by simp [bI, *]), trivial⟩, hS.F ht⟩) hS.2.2 dX1_hasAll_14

set_option maxHeartbeats 4000000 in
set_option maxRecDepth 100000 in
theorem c_X0_canThrow (l : Launch) (dC : Nat → ClassId) (dI : Nat → Nat → Nat) (cI cZ cJ : ClassId) (c0 : Nat) (c1 : Nat) (c2 : Nat) (c3 : Nat) (nc : Nat) (fo : Nat → Int32) (th : Nat → Int32) (tg : Nat → Int32) (i : Nat) (k : Nat) (hi : i < 48) (hk : k < 8) : Met l yX0_canThrow wsX0_canThrow ({ frames := 0, cells := 0, slots := 0, locals := 0 } : Room) (va_Pc [.ref c0, .int (nI i), .int (nI k)] (zPre (dC, dI) [(cI, .int), (cZ, .boolean), (cJ, .long)] (wC c0 c1 c2 c3 cI nc fo th tg))) (va_Qi (fun (r : Int32) (_ : Unit) => r = bI (bt (th i) k)) (fun _ _ => True) (fun _ => False)) 0 0 (fun _ => False) := by
  refine Met.ofW (cc := cX0_canThrow) (maxL := 3) (ret := (some .boolean)) (by decide) rfl ?_
  intro p e s m args below meth c s₁ B hml hv
  obtain ⟨hav, hP, hK, hn⟩ := hv
  have hx := B.exec
  have hb := B.bytes
  have hr := B.returns
  have hts := atoms_spec (ws := wsX0_canThrow) B.pre
  have hown : s.vm.findClass RX0 = some m.cls := findClass_of_methodNamed B.named
  have hlocks := B.notSynchronized
  have hS : va_S (fun _ => False) s.heap s.heap [] := va_S.rf
  generalize hQ : MQ below (va_Qi (fun (r : Int32) (_ : Unit) => r = bI (bt (th i) k)) (fun _ _ => True) (fun _ => False)) args s 0 0 (fun _ => False) = Q
  refine W.eq (g2 := entryFrame m ([.ref c0, .int (nI i), .int (nI k)] : List Value).toArray 3) (by rw [hav]) ?_
  have hl := lv_entry ([.ref c0, .int (nI i), .int (nI k)]) (n := 3) (Nat.le_of_ble_eq_true rfl)
  rw [lg_entry_eq]
  generalize (lg_sl ([.ref c0, .int (nI i), .int (nI k)]) ++ List.replicate (3 - (lg_sl ([.ref c0, .int (nI i), .int (nI k)])).length) Slot.unset).toArray = ls at hl ⊢
  have hl : lv_has ls 3 [(0, .ref c0), (1, .int (nI i)), (2, .int (nI k))] := hl
  obtain ⟨H, hH⟩ : ∃ H, H = s.heap := ⟨_, rfl⟩
  obtain ⟨locs, hlo⟩ : ∃ q : List Loc, q = [] := ⟨_, rfl⟩
  have hP : va_P (dC, dI) vwCl (wC c0 c1 c2 c3 cI nc fo th tg) H := by rw [hH]; exact hP
  have hS : va_S (fun _ => False) s.heap H locs := by rw [hH, hlo]; exact hS
  refine zz_hl hH hlo ?_
  refine lv_aload_n hx hb dX0_canThrow_0 rfl (lv_at hl 0 rfl) ?_
  refine va_get (D := (dC, dI)) (ci := 0) (v := .ref c2) (C := RX0) (T := TX0) (N := 4) hx hb hts (by decide +kernel) hown hK hP 0 rfl rfl 1 (by decide) (hts (.fieldLink RX0 15 "HandlerOptimizer$Code" "thrown" "[I") (by decide +kernel)) (fun _ h9 => h9) rfl dX0_canThrow_1 ?_
  refine lv_iload_n hx hb dX0_canThrow_4 rfl (lv_at hl 1 rfl) ?_
  refine va_iald hx hb hK hP 2 0 rfl rfl (vp_in_nI (n := i) (by omega) (by decide)) dX0_canThrow_5 ?_
  refine zz_top (y := th i) (congrArg _ (nI_clamp (by omega))) ?_
  refine lv_iload_n hx hb dX0_canThrow_6 rfl (lv_at hl 2 rfl) ?_
  refine lv_ishr hx hb dX0_canThrow_7 ?_
  refine lv_iconst (v := 1) hx hb dX0_canThrow_8 (by decide) ?_
  refine lv_iand hx hb dX0_canThrow_9 ?_
  refine lv_if_eq (tgt := 17) hx hb dX0_canThrow_10 (by decide) (fun c_1 => ?_) (fun c_1 => ?_)
  · skip
    skip
    refine lv_iconst (v := 0) hx hb dX0_canThrow_17 (by decide) ?_
    rw [← hQ]
    exact W.zret (v := 0) hx hb hr rfl (fun t ht hW => ⟨⟨0, (), rfl, (by first | exact zb_t (bt_t (by omega) (by assumption)) | exact zb_f (bt_f (by omega) (by assumption))), trivial⟩, hS.F ht⟩) hS.2.2 dX0_canThrow_18
  · skip
    skip
    refine lv_iconst (v := 1) hx hb dX0_canThrow_13 (by decide) ?_
    refine lv_goto (tgt := 18) hx hb dX0_canThrow_14 (by decide) ?_
    rw [← hQ]
    exact W.zret (v := 1) hx hb hr rfl (fun t ht hW => ⟨⟨1, (), rfl, (by first | exact zb_t (bt_t (by omega) (by assumption)) | exact zb_f (bt_f (by omega) (by assumption))), trivial⟩, hS.F ht⟩) hS.2.2 dX0_canThrow_18

set_option maxHeartbeats 4000000 in
set_option maxRecDepth 100000 in
theorem c_X1_isInFamily (l : Launch) (dC : Nat → ClassId) (dI : Nat → Nat → Nat) (cI cZ cJ : ClassId) (k0 : Nat) (k1 : Nat) (k2 : Nat) (nk : Nat) (pa : Nat → Int32) (fa : Nat → Int32) (k : Nat) (h : Nat) (hh : h < 8) (hk : k < 8) : Met l yX1_isInFamily wsX1_isInFamily ({ frames := 0, cells := 0, slots := 0, locals := 0 } : Room) (va_Pc [.ref k0, .int (nI k), .int (nI h)] (zPre (dC, dI) [(cI, .int), (cZ, .boolean), (cJ, .long)] (wK k0 k1 k2 cI nk pa fa))) (va_Qi (fun (r : Int32) (_ : Unit) => r = bI (bt (fa h) k)) (fun _ _ => True) (fun _ => False)) 0 0 (fun _ => False) := by
  refine Met.ofW (cc := cX1_isInFamily) (maxL := 3) (ret := (some .boolean)) (by decide) rfl ?_
  intro p e s m args below meth c s₁ B hml hv
  obtain ⟨hav, hP, hK, hn⟩ := hv
  have hx := B.exec
  have hb := B.bytes
  have hr := B.returns
  have hts := atoms_spec (ws := wsX1_isInFamily) B.pre
  have hown : s.vm.findClass RX1 = some m.cls := findClass_of_methodNamed B.named
  have hlocks := B.notSynchronized
  have hS : va_S (fun _ => False) s.heap s.heap [] := va_S.rf
  generalize hQ : MQ below (va_Qi (fun (r : Int32) (_ : Unit) => r = bI (bt (fa h) k)) (fun _ _ => True) (fun _ => False)) args s 0 0 (fun _ => False) = Q
  refine W.eq (g2 := entryFrame m ([.ref k0, .int (nI k), .int (nI h)] : List Value).toArray 3) (by rw [hav]) ?_
  have hl := lv_entry ([.ref k0, .int (nI k), .int (nI h)]) (n := 3) (Nat.le_of_ble_eq_true rfl)
  rw [lg_entry_eq]
  generalize (lg_sl ([.ref k0, .int (nI k), .int (nI h)]) ++ List.replicate (3 - (lg_sl ([.ref k0, .int (nI k), .int (nI h)])).length) Slot.unset).toArray = ls at hl ⊢
  have hl : lv_has ls 3 [(0, .ref k0), (1, .int (nI k)), (2, .int (nI h))] := hl
  obtain ⟨H, hH⟩ : ∃ H, H = s.heap := ⟨_, rfl⟩
  obtain ⟨locs, hlo⟩ : ∃ q : List Loc, q = [] := ⟨_, rfl⟩
  have hP : va_P (dC, dI) vwCl (wK k0 k1 k2 cI nk pa fa) H := by rw [hH]; exact hP
  have hS : va_S (fun _ => False) s.heap H locs := by rw [hH, hlo]; exact hS
  refine zz_hl hH hlo ?_
  refine lv_aload_n hx hb dX1_isInFamily_0 rfl (lv_at hl 0 rfl) ?_
  refine va_get (D := (dC, dI)) (ci := 1) (v := .ref k2) (C := RX1) (T := TX1) (N := 3) hx hb hts (by decide +kernel) hown hK hP 0 rfl rfl 1 (by decide) (hts (.fieldLink RX1 15 "HandlerOptimizer$Kinds" "families" "[I") (by decide +kernel)) (fun _ h9 => h9) rfl dX1_isInFamily_1 ?_
  refine lv_iload_n hx hb dX1_isInFamily_4 rfl (lv_at hl 2 rfl) ?_
  refine va_iald hx hb hK hP 2 0 rfl rfl (vp_in_nI (n := h) (by omega) (by decide)) dX1_isInFamily_5 ?_
  refine zz_top (y := fa h) (congrArg _ (nI_clamp (by omega))) ?_
  refine lv_iload_n hx hb dX1_isInFamily_6 rfl (lv_at hl 1 rfl) ?_
  refine lv_ishr hx hb dX1_isInFamily_7 ?_
  refine lv_iconst (v := 1) hx hb dX1_isInFamily_8 (by decide) ?_
  refine lv_iand hx hb dX1_isInFamily_9 ?_
  refine lv_if_eq (tgt := 17) hx hb dX1_isInFamily_10 (by decide) (fun c_1 => ?_) (fun c_1 => ?_)
  · skip
    skip
    refine lv_iconst (v := 0) hx hb dX1_isInFamily_17 (by decide) ?_
    rw [← hQ]
    exact W.zret (v := 0) hx hb hr rfl (fun t ht hW => ⟨⟨0, (), rfl, (by first | exact zb_t (bt_t (by omega) (by assumption)) | exact zb_f (bt_f (by omega) (by assumption))), trivial⟩, hS.F ht⟩) hS.2.2 dX1_isInFamily_18
  · skip
    skip
    refine lv_iconst (v := 1) hx hb dX1_isInFamily_13 (by decide) ?_
    refine lv_goto (tgt := 18) hx hb dX1_isInFamily_14 (by decide) ?_
    rw [← hQ]
    exact W.zret (v := 1) hx hb hr rfl (fun t ht hW => ⟨⟨1, (), rfl, (by first | exact zb_t (bt_t (by omega) (by assumption)) | exact zb_f (bt_f (by omega) (by assumption))), trivial⟩, hS.F ht⟩) hS.2.2 dX1_isInFamily_18

set_option maxHeartbeats 4000000 in
set_option maxRecDepth 100000 in
theorem c_X2_firstTaker (l : Launch) (dC : Nat → ClassId) (dI : Nat → Nat → Nat) (cI cZ cJ : ClassId) (t0 : Nat) (t1 : Nat) (t2 : Nat) (t3 : Nat) (t4 : Nat) (nt : Nat) (tb : Nat → Int32) (te : Nat → Int32) (tk : Nat → Int32) (tt : Nat → Int32) (k0 : Nat) (k1 : Nat) (k2 : Nat) (nk : Nat) (pa : Nat → Int32) (fa : Nat → Int32) (i : Nat) (k : Nat) (T : Nat → Nat → Nat) (up : Nat → Nat → Bool) (hi : i < 48) (hk : k < nk) (hnk : nk ≤ 8) (hnt : nt ≤ 24) (hT : rT nt tb te tk tt T) (hO : okT nk nt T) (hF : rF nk fa up) : Met l yX2_firstTaker wsX2_firstTaker ({ frames := 0, cells := 0, slots := 0, locals := 0 } : Room) (va_Pc [.ref t0, .ref k0, .int (nI i), .int (nI k)] (zPre (dC, dI) [(cI, .int), (cZ, .boolean), (cJ, .long)] (wT t0 t1 t2 t3 t4 cI nt tb te tk tt ++ wK k0 k1 k2 cI nk pa fa))) (va_Qi (fun (r : Int32) (_ : Unit) => r = tkI T nt up i k) (fun _ _ => True) (fun _ => False)) 0 0 (fun _ => False) := by
  refine Met.ofW (cc := cX2_firstTaker) (maxL := 6) (ret := (some .int)) (by decide) rfl ?_
  intro p e s m args below meth c s₁ B hml hv
  obtain ⟨hav, hP, hK, hn⟩ := hv
  have hx := B.exec
  have hb := B.bytes
  have hr := B.returns
  have hts := atoms_spec (ws := wsX2_firstTaker) B.pre
  have hown : s.vm.findClass RX2 = some m.cls := findClass_of_methodNamed B.named
  have hlocks := B.notSynchronized
  have hS : va_S (fun _ => False) s.heap s.heap [] := va_S.rf
  generalize hQ : MQ below (va_Qi (fun (r : Int32) (_ : Unit) => r = tkI T nt up i k) (fun _ _ => True) (fun _ => False)) args s 0 0 (fun _ => False) = Q
  refine W.eq (g2 := entryFrame m ([.ref t0, .ref k0, .int (nI i), .int (nI k)] : List Value).toArray 6) (by rw [hav]) ?_
  have hl := lv_entry ([.ref t0, .ref k0, .int (nI i), .int (nI k)]) (n := 6) (Nat.le_of_ble_eq_true rfl)
  rw [lg_entry_eq]
  generalize (lg_sl ([.ref t0, .ref k0, .int (nI i), .int (nI k)]) ++ List.replicate (6 - (lg_sl ([.ref t0, .ref k0, .int (nI i), .int (nI k)])).length) Slot.unset).toArray = ls at hl ⊢
  have hl : lv_has ls 6 [(0, .ref t0), (1, .ref k0), (2, .int (nI i)), (3, .int (nI k))] := hl
  obtain ⟨H, hH⟩ : ∃ H, H = s.heap := ⟨_, rfl⟩
  obtain ⟨locs, hlo⟩ : ∃ q : List Loc, q = [] := ⟨_, rfl⟩
  have hP : va_P (dC, dI) vwCl (wT t0 t1 t2 t3 t4 cI nt tb te tk tt ++ wK k0 k1 k2 cI nk pa fa) H := by rw [hH]; exact hP
  have hS : va_S (fun _ => False) s.heap H locs := by rw [hH, hlo]; exact hS
  refine zz_hl hH hlo ?_
  refine lv_iconst (v := 0) hx hb dX2_firstTaker_0 (by decide) ?_
  refine lv_istore (lv' := [(4, .int 0), (0, .ref t0), (1, .ref k0), (2, .int (nI i)), (3, .int (nI k))]) hx hb dX2_firstTaker_1 hl (by decide) rfl (fun ls hl => ?_)
  have J_3 : ∀ (n9 : Nat) (ei : Nat) (H : Heap) (locs : List Loc) (ls : Array Slot), (ei ≤ nt) → (∀ j, j < ei → tp T up i k j = false) → nt - ei < n9 → va_P (dC, dI) vwCl (wT t0 t1 t2 t3 t4 cI nt tb te tk tt ++ wK k0 k1 k2 cI nk pa fa) H → va_S (fun _ => False) s.heap H locs → lv_has ls 6 [(0, .ref t0), (1, .ref k0), (2, .int (nI i)), (3, .int (nI k)), (4, .int (nI ei))] → W p l e (headSpec wsX2_firstTaker ({ frames := 0, cells := 0, slots := 0, locals := 0 } : Room)).room s m args below meth c H locs 0 0 Q (F0 m 3 ls []) := by
    intro n9
    induction n9 with
    | zero => intro ei H locs ls he hlt hmu; exact absurd hmu (Nat.not_lt_zero _)
    | succ n9 ih_3 =>
      intro ei H locs ls he hlt hmu hP hS hl
      refine lv_iload hx hb dX2_firstTaker_3 (lv_at hl 4 rfl) ?_
      refine lv_aload_n hx hb dX2_firstTaker_5 rfl (lv_at hl 0 rfl) ?_
      refine va_get (D := (dC, dI)) (ci := 2) (v := .int (nI nt)) (C := RX2) (T := TX2) (N := 5) hx hb hts (by decide +kernel) hown hK hP 0 rfl rfl 4 (by decide) (hts (.fieldLink RX2 24 "HandlerOptimizer$Table" "count" "I") (by decide +kernel)) (fun _ h9 => h9) rfl dX2_firstTaker_6 ?_
      refine lv_icmp_ge (tgt := 74) hx hb dX2_firstTaker_9 (by decide) (fun c_1 => ?_) (fun c_1 => ?_)
      · skip
        have c_1 := (zz_get (a := ei) (b := nt) (by omega) (by omega)).mp c_1
        refine lv_iconst (v := -1) hx hb dX2_firstTaker_74 (by decide) ?_
        rw [← hQ]
        exact W.iret (v := (-1)) hx hb hr (fun t ht hW => ⟨⟨(-1), (), rfl, (tkI_none (fun j hj => hlt j (by omega))), trivial⟩, hS.F ht⟩) hS.2.2 dX2_firstTaker_75
      · skip
        have c_1 := (zz_gef (a := ei) (b := nt) (by omega) (by omega)).mp c_1
        obtain ⟨o1, o2, o3, o4⟩ := hO ei (by omega)
        refine lv_aload_n hx hb dX2_firstTaker_12 rfl (lv_at hl 0 rfl) ?_
        refine va_get (D := (dC, dI)) (ci := 2) (v := .ref t1) (C := RX2) (T := TX2) (N := 5) hx hb hts (by decide +kernel) hown hK hP 0 rfl rfl 0 (by decide) (hts (.fieldLink RX2 9 "HandlerOptimizer$Table" "begins" "[I") (by decide +kernel)) (fun _ h9 => h9) rfl dX2_firstTaker_13 ?_
        refine lv_iload hx hb dX2_firstTaker_16 (lv_at hl 4 rfl) ?_
        refine va_iald hx hb hK hP 1 0 rfl rfl (vp_in_nI (n := ei) (by omega) (by decide)) dX2_firstTaker_18 ?_
        refine zz_top (y := tb ei) (congrArg _ (nI_clamp (by omega))) ?_
        refine zz_top (y := nI (T 0 ei)) ((hT ei (by omega)).1) ?_
        refine lv_iload_n hx hb dX2_firstTaker_19 rfl (lv_at hl 2 rfl) ?_
        refine lv_icmp_gt (tgt := 38) hx hb dX2_firstTaker_20 (by decide) (fun c_2 => ?_) (fun c_2 => ?_)
        · skip
          have c_2 := (zz_gtt (a := T 0 ei) (b := i) (by omega) (by omega)).mp c_2
          refine lv_iconst (v := 0) hx hb dX2_firstTaker_38 (by decide) ?_
          refine lv_istore (lv' := [(5, .int 0), (0, .ref t0), (1, .ref k0), (2, .int (nI i)), (3, .int (nI k)), (4, .int (nI ei))]) hx hb dX2_firstTaker_39 hl (by decide) rfl (fun ls hl => ?_)
          refine lv_iload hx hb dX2_firstTaker_41 (lv_at hl 0 rfl) ?_
          refine lv_if_eq (tgt := 68) hx hb dX2_firstTaker_43 (by decide) (fun c_3 => ?_) (fun c_3 => ?_)
          · skip
            refine lv_iinc (v := nI (ei + 1)) (lv' := [(4, .int (nI (ei + 1))), (5, .int 0), (0, .ref t0), (1, .ref k0), (2, .int (nI i)), (3, .int (nI k))]) hx hb dX2_firstTaker_68 hl (k := 5) rfl (zz_inc ei 1) (by decide) rfl (fun ls hl => ?_)
            refine lv_goto (tgt := 3) hx hb dX2_firstTaker_71 (by decide) ?_
            exact ih_3 (ei + 1) _ _ _ (by first | assumption | omega) (by refine lt_s hlt ?_; first | exact tp_0 (by omega) | exact tp_1 (by omega) | exact tp_2 (by rw [← hF _ o3 k (by omega)]; exact bt_f (by omega) (by assumption))) (by omega) hP hS (lv_sub hl [2, 3, 4, 5, 0] rfl)
          · exact absurd c_3 (by decide)
        · skip
          have c_2 := (zz_gtf (a := T 0 ei) (b := i) (by omega) (by omega)).mp c_2
          refine lv_iload_n hx hb dX2_firstTaker_23 rfl (lv_at hl 2 rfl) ?_
          refine lv_aload_n hx hb dX2_firstTaker_24 rfl (lv_at hl 0 rfl) ?_
          refine va_get (D := (dC, dI)) (ci := 2) (v := .ref t2) (C := RX2) (T := TX2) (N := 5) hx hb hts (by decide +kernel) hown hK hP 0 rfl rfl 1 (by decide) (hts (.fieldLink RX2 15 "HandlerOptimizer$Table" "ends" "[I") (by decide +kernel)) (fun _ h9 => h9) rfl dX2_firstTaker_25 ?_
          refine lv_iload hx hb dX2_firstTaker_28 (lv_at hl 4 rfl) ?_
          refine va_iald hx hb hK hP 2 0 rfl rfl (vp_in_nI (n := ei) (by omega) (by decide)) dX2_firstTaker_30 ?_
          refine zz_top (y := te ei) (congrArg _ (nI_clamp (by omega))) ?_
          refine zz_top (y := nI (T 1 ei)) ((hT ei (by omega)).2.1) ?_
          refine lv_icmp_ge (tgt := 38) hx hb dX2_firstTaker_31 (by decide) (fun c_4 => ?_) (fun c_4 => ?_)
          · skip
            have c_4 := (zz_get (a := i) (b := T 1 ei) (by omega) (by omega)).mp c_4
            refine lv_iconst (v := 0) hx hb dX2_firstTaker_38 (by decide) ?_
            refine lv_istore (lv' := [(5, .int 0), (0, .ref t0), (1, .ref k0), (2, .int (nI i)), (3, .int (nI k)), (4, .int (nI ei))]) hx hb dX2_firstTaker_39 hl (by decide) rfl (fun ls hl => ?_)
            refine lv_iload hx hb dX2_firstTaker_41 (lv_at hl 0 rfl) ?_
            refine lv_if_eq (tgt := 68) hx hb dX2_firstTaker_43 (by decide) (fun c_5 => ?_) (fun c_5 => ?_)
            · skip
              refine lv_iinc (v := nI (ei + 1)) (lv' := [(4, .int (nI (ei + 1))), (5, .int 0), (0, .ref t0), (1, .ref k0), (2, .int (nI i)), (3, .int (nI k))]) hx hb dX2_firstTaker_68 hl (k := 5) rfl (zz_inc ei 1) (by decide) rfl (fun ls hl => ?_)
              refine lv_goto (tgt := 3) hx hb dX2_firstTaker_71 (by decide) ?_
              exact ih_3 (ei + 1) _ _ _ (by first | assumption | omega) (by refine lt_s hlt ?_; first | exact tp_0 (by omega) | exact tp_1 (by omega) | exact tp_2 (by rw [← hF _ o3 k (by omega)]; exact bt_f (by omega) (by assumption))) (by omega) hP hS (lv_sub hl [2, 3, 4, 5, 0] rfl)
            · exact absurd c_5 (by decide)
          · skip
            have c_4 := (zz_gef (a := i) (b := T 1 ei) (by omega) (by omega)).mp c_4
            refine lv_iconst (v := 1) hx hb dX2_firstTaker_34 (by decide) ?_
            refine lv_goto (tgt := 39) hx hb dX2_firstTaker_35 (by decide) ?_
            refine lv_istore (lv' := [(5, .int 1), (0, .ref t0), (1, .ref k0), (2, .int (nI i)), (3, .int (nI k)), (4, .int (nI ei))]) hx hb dX2_firstTaker_39 hl (by decide) rfl (fun ls hl => ?_)
            refine lv_iload hx hb dX2_firstTaker_41 (lv_at hl 0 rfl) ?_
            refine lv_if_eq (tgt := 68) hx hb dX2_firstTaker_43 (by decide) (fun c_6 => ?_) (fun c_6 => ?_)
            · exact absurd c_6 (by decide)
            · skip
              refine lv_aload_n hx hb dX2_firstTaker_46 rfl (lv_at hl 2 rfl) ?_
              refine va_getN (D := (dC, dI)) (ci := 1) (v := .ref k2) (C := RX1) (T := TX1) (N := 3) hx hb hts (by decide +kernel) hown hK hP 5 rfl rfl 1 (by decide) (va_Nw.use rfl (hn (.fieldLinkNest RX2 32 "HandlerOptimizer$Kinds" "families" "[I" "HandlerOptimizer") (by decide +kernel))) (fun _ h9 => h9) rfl dX2_firstTaker_47 ?_
              refine lv_aload_n hx hb dX2_firstTaker_50 rfl (lv_at hl 1 rfl) ?_
              refine va_get (D := (dC, dI)) (ci := 2) (v := .ref t3) (C := RX2) (T := TX2) (N := 5) hx hb hts (by decide +kernel) hown hK hP 0 rfl rfl 2 (by decide) (hts (.fieldLink RX2 18 "HandlerOptimizer$Table" "kinds" "[I") (by decide +kernel)) (fun _ h9 => h9) rfl dX2_firstTaker_51 ?_
              refine lv_iload hx hb dX2_firstTaker_54 (lv_at hl 5 rfl) ?_
              refine va_iald hx hb hK hP 3 0 rfl rfl (vp_in_nI (n := ei) (by omega) (by decide)) dX2_firstTaker_56 ?_
              refine zz_top (y := tk ei) (congrArg _ (nI_clamp (by omega))) ?_
              refine zz_top (y := nI (T 2 ei)) ((hT ei (by omega)).2.2.1) ?_
              refine va_iald hx hb hK hP 7 0 rfl rfl (vp_in_nI (n := T 2 ei) (by omega) (by decide)) dX2_firstTaker_57 ?_
              refine zz_top (y := fa (T 2 ei)) (congrArg _ (nI_clamp (by omega))) ?_
              refine lv_iload_n hx hb dX2_firstTaker_58 rfl (lv_at hl 4 rfl) ?_
              refine lv_ishr hx hb dX2_firstTaker_59 ?_
              refine lv_iconst (v := 1) hx hb dX2_firstTaker_60 (by decide) ?_
              refine lv_iand hx hb dX2_firstTaker_61 ?_
              refine lv_if_eq (tgt := 68) hx hb dX2_firstTaker_62 (by decide) (fun c_7 => ?_) (fun c_7 => ?_)
              · skip
                skip
                refine lv_iinc (v := nI (ei + 1)) (lv' := [(4, .int (nI (ei + 1))), (5, .int 1), (0, .ref t0), (1, .ref k0), (2, .int (nI i)), (3, .int (nI k))]) hx hb dX2_firstTaker_68 hl (k := 5) rfl (zz_inc ei 1) (by decide) rfl (fun ls hl => ?_)
                refine lv_goto (tgt := 3) hx hb dX2_firstTaker_71 (by decide) ?_
                exact ih_3 (ei + 1) _ _ _ (by first | assumption | omega) (by refine lt_s hlt ?_; first | exact tp_0 (by omega) | exact tp_1 (by omega) | exact tp_2 (by rw [← hF _ o3 k (by omega)]; exact bt_f (by omega) (by assumption))) (by omega) hP hS (lv_sub hl [2, 3, 4, 5, 0] rfl)
              · skip
                skip
                refine lv_iload hx hb dX2_firstTaker_65 (lv_at hl 5 rfl) ?_
                rw [← hQ]
                exact W.iret (v := nI ei) hx hb hr (fun t ht hW => ⟨⟨nI ei, (), rfl, (tkI_some (by omega) (tp_t (by omega) (by omega) (by rw [← hF _ o3 k (by omega)]; exact bt_t (by omega) (by assumption))) hlt), trivial⟩, hS.F ht⟩) hS.2.2 dX2_firstTaker_67
  exact J_3 _ 0 _ _ _ (by first | assumption | omega) lt_0 (Nat.lt_succ_self _) hP hS (lv_sub hl [1, 2, 3, 4, 0] rfl)

set_option maxHeartbeats 4000000 in
set_option maxRecDepth 100000 in
theorem c_X2_goal (l : Launch) (dC : Nat → ClassId) (dI : Nat → Nat → Nat) (cI cZ cJ : ClassId) (t0 : Nat) (t1 : Nat) (t2 : Nat) (t3 : Nat) (t4 : Nat) (nt : Nat) (tb : Nat → Int32) (te : Nat → Int32) (tk : Nat → Int32) (tt : Nat → Int32) (k0 : Nat) (k1 : Nat) (k2 : Nat) (nk : Nat) (pa : Nat → Int32) (fa : Nat → Int32) (i : Nat) (k : Nat) (T : Nat → Nat → Nat) (up : Nat → Nat → Bool) (hi : i < 48) (hk : k < nk) (hnk : nk ≤ 8) (hnt : nt ≤ 24) (hT : rT nt tb te tk tt T) (hO : okT nk nt T) (hF : rF nk fa up) : Met l yX2_goal wsX2_goal ({ frames := 1, cells := 0, slots := 0, locals := 25 } : Room) (va_Pc [.ref t0, .ref k0, .int (nI i), .int (nI k)] (zPre (dC, dI) [(cI, .int), (cZ, .boolean), (cJ, .long)] (wT t0 t1 t2 t3 t4 cI nt tb te tk tt ++ wK k0 k1 k2 cI nk pa fa))) (va_Qi (fun (r : Int32) (_ : Unit) => r = gl T nt up i k) (fun _ _ => True) (fun _ => False)) 0 0 (fun _ => False) := by
  refine Met.ofW (cc := cX2_goal) (maxL := 5) (ret := (some .int)) (by decide) rfl ?_
  intro p e s m args below meth c s₁ B hml hv
  obtain ⟨hav, hP, hK, hn⟩ := hv
  have hx := B.exec
  have hb := B.bytes
  have hr := B.returns
  have hts := atoms_spec (ws := wsX2_goal) B.pre
  have hown : s.vm.findClass RX2 = some m.cls := findClass_of_methodNamed B.named
  have hlocks := B.notSynchronized
  have hS : va_S (fun _ => False) s.heap s.heap [] := va_S.rf
  generalize hQ : MQ below (va_Qi (fun (r : Int32) (_ : Unit) => r = gl T nt up i k) (fun _ _ => True) (fun _ => False)) args s 0 0 (fun _ => False) = Q
  refine W.eq (g2 := entryFrame m ([.ref t0, .ref k0, .int (nI i), .int (nI k)] : List Value).toArray 5) (by rw [hav]) ?_
  have hl := lv_entry ([.ref t0, .ref k0, .int (nI i), .int (nI k)]) (n := 5) (Nat.le_of_ble_eq_true rfl)
  rw [lg_entry_eq]
  generalize (lg_sl ([.ref t0, .ref k0, .int (nI i), .int (nI k)]) ++ List.replicate (5 - (lg_sl ([.ref t0, .ref k0, .int (nI i), .int (nI k)])).length) Slot.unset).toArray = ls at hl ⊢
  have hl : lv_has ls 5 [(0, .ref t0), (1, .ref k0), (2, .int (nI i)), (3, .int (nI k))] := hl
  obtain ⟨H, hH⟩ : ∃ H, H = s.heap := ⟨_, rfl⟩
  obtain ⟨locs, hlo⟩ : ∃ q : List Loc, q = [] := ⟨_, rfl⟩
  have hP : va_P (dC, dI) vwCl (wT t0 t1 t2 t3 t4 cI nt tb te tk tt ++ wK k0 k1 k2 cI nk pa fa) H := by rw [hH]; exact hP
  have hS : va_S (fun _ => False) s.heap H locs := by rw [hH, hlo]; exact hS
  refine zz_hl hH hlo ?_
  refine lv_aload_n hx hb dX2_goal_0 rfl (lv_at hl 0 rfl) ?_
  refine lv_aload_n hx hb dX2_goal_1 rfl (lv_at hl 1 rfl) ?_
  refine lv_iload_n hx hb dX2_goal_2 rfl (lv_at hl 2 rfl) ?_
  refine lv_iload_n hx hb dX2_goal_3 rfl (lv_at hl 3 rfl) ?_
  refine va_calli (va_runV (As := [.ref k0, .int (nI i), .int (nI k)]) (rest := []) ⟨hx, hb, hml, hown, hts⟩ (c_X2_firstTaker l dC dI cI cZ cJ t0 t1 t2 t3 t4 nt tb te tk tt k0 k1 k2 nk pa fa i k T up (by first | assumption | omega) (by first | assumption | omega) (by first | assumption | omega) (by first | assumption | omega) (by first | assumption | omega) (by first | assumption | omega) (by first | assumption | omega)) (cwV 3 hts gX2_goal_X2_firstTaker rfl rfl rfl (by decide +kernel) ⟨Nat.le_of_ble_eq_true rfl, Nat.le_of_ble_eq_true rfl⟩) ⟨zPre_blind, va_recv hK hP (ci := 2) (q0 := 0) rfl rfl, zPre_at hP hK hn⟩ rfl rfl hl.1 rfl (lv_room (Nat.le_of_ble_eq_true rfl)) dX2_goal_4 ⟨Nat.le_of_ble_eq_true rfl, Nat.le_of_ble_eq_true rfl⟩) hS (fun _ _ h => h.elim) (fun _ h => h.elim) (fun r_1 u_9 t H locs ht hvm hw hB hz1 hk1 hS => ?_)
  have hP := zkeep hP hk1
  subst hw
  refine lv_istore (lv' := [(4, .int (tkI T nt up i k)), (0, .ref t0), (1, .ref k0), (2, .int (nI i)), (3, .int (nI k))]) hx hb dX2_goal_7 hl (by decide) rfl (fun ls hl => ?_)
  refine lv_iload hx hb dX2_goal_9 (lv_at hl 0 rfl) ?_
  refine lv_iconst (v := -1) hx hb dX2_goal_11 (by decide) ?_
  refine lv_icmp_ne (tgt := 19) hx hb dX2_goal_12 (by decide) (fun c_2 => ?_) (fun c_2 => ?_)
  · skip
    have q1 := tkI_lt (by omega) c_2
    refine lv_aload_n hx hb dX2_goal_19 rfl (lv_at hl 1 rfl) ?_
    refine va_get (D := (dC, dI)) (ci := 2) (v := .ref t4) (C := RX2) (T := TX2) (N := 5) hx hb hts (by decide +kernel) hown hK hP 0 rfl rfl 3 (by decide) (hts (.fieldLink RX2 21 "HandlerOptimizer$Table" "targets" "[I") (by decide +kernel)) (fun _ h9 => h9) rfl dX2_goal_20 ?_
    refine lv_iload hx hb dX2_goal_23 (lv_at hl 0 rfl) ?_
    refine zz_top (y := nI (tkf T nt up i k)) (tkI_at q1) ?_
    refine va_iald hx hb hK hP 4 0 rfl rfl (vp_in_nI (n := tkf T nt up i k) (by omega) (by decide)) dX2_goal_25 ?_
    refine zz_top (y := tt (tkf T nt up i k)) (congrArg _ (nI_clamp (by omega))) ?_
    refine zz_top (y := nI (T 3 (tkf T nt up i k))) ((hT _ q1).2.2.2) ?_
    rw [← hQ]
    exact W.iret (v := nI (T 3 (tkf T nt up i k))) hx hb hr (fun t ht hW => ⟨⟨nI (T 3 (tkf T nt up i k)), (), rfl, (by simp [gl, q1]), trivial⟩, hS.F ht⟩) hS.2.2 dX2_goal_26
  · skip
    have q1 := tkI_m1 (by omega) c_2
    refine lv_iconst (v := -1) hx hb dX2_goal_15 (by decide) ?_
    refine lv_goto (tgt := 26) hx hb dX2_goal_16 (by decide) ?_
    rw [← hQ]
    exact W.iret (v := (-1)) hx hb hr (fun t ht hW => ⟨⟨(-1), (), rfl, (by simp [gl, q1]), trivial⟩, hS.F ht⟩) hS.2.2 dX2_goal_26

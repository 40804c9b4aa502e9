set_option maxHeartbeats 4000000 in
set_option maxRecDepth 100000 in
theorem c_X4_thrown (l : Launch) (dC : Nat → ClassId) (dI : Nat → Nat → Nat) (cI cZ cJ : ClassId) (b : Nat → Nat) (tw : Int32) (nk : Nat) (pa : Nat → Int32) (nc : Nat) (fo : Nat → Int32) (th : Nat → Int32) (tg : Nat → Int32) (nt : Nat) (tb : Nat → Int32) (te : Nat → Int32) (tk : Nat → Int32) (tt : Nat → Int32) (ex : Int32) (tc : Int32) (es : Int32) (wy : Int64) (ab : Nat → Int32) (re : Nat → Int32) (go : Nat → Int32) (be : Nat → Int32) : Met l yX4_thrown wsX4_thrown ({ frames := 0, cells := 0, slots := 0, locals := 0 } : Room) (va_Pc [.ref (b 0)] (zPre (dC, dI) [(cI, .int), (cZ, .boolean), (cJ, .long)] (w4 b cI cZ tw nk pa nc fo th tg nt tb te tk tt ex tc es wy ab re go be))) (va_Qi (fun (r : Int32) (_ : Unit) => r = tw) (fun _ _ => True) (fun _ => False)) 0 0 (fun _ => False) := by
  refine Met.ofW (cc := cX4_thrown) (maxL := 1) (ret := (some .int)) (by decide) rfl ?_
  intro p e s m args below meth c s₁ B hml hv
  obtain ⟨hav, hP, hK, hn⟩ := hv
  have hx := B.exec
  have hb := B.bytes
  have hr := B.returns
  have hts := atoms_spec (ws := wsX4_thrown) B.pre
  have hown : s.vm.findClass RX4 = some m.cls := findClass_of_methodNamed B.named
  have hlocks := B.notSynchronized
  have hS : va_S (fun _ => False) s.heap s.heap [] := va_S.rf
  generalize hQ : MQ below (va_Qi (fun (r : Int32) (_ : Unit) => r = tw) (fun _ _ => True) (fun _ => False)) args s 0 0 (fun _ => False) = Q
  refine W.eq (g2 := entryFrame m ([.ref (b 0)] : List Value).toArray 1) (by rw [hav]) ?_
  have hl := lv_entry ([.ref (b 0)]) (n := 1) (Nat.le_of_ble_eq_true rfl)
  rw [lg_entry_eq]
  generalize (lg_sl ([.ref (b 0)]) ++ List.replicate (1 - (lg_sl ([.ref (b 0)])).length) Slot.unset).toArray = ls at hl ⊢
  have hl : lv_has ls 1 [(0, .ref (b 0))] := hl
  obtain ⟨H, hH⟩ : ∃ H, H = s.heap := ⟨_, rfl⟩
  obtain ⟨locs, hlo⟩ : ∃ q : List Loc, q = [] := ⟨_, rfl⟩
  have hP : va_P (dC, dI) vwCl (w4 b cI cZ tw nk pa nc fo th tg nt tb te tk tt ex tc es wy ab re go be) H := by rw [hH]; exact hP
  have hS : va_S (fun _ => False) s.heap H locs := by rw [hH, hlo]; exact hS
  refine zz_hl hH hlo ?_
  refine lv_aload_n hx hb dX4_thrown_0 rfl (lv_at hl 0 rfl) ?_
  refine va_get (D := (dC, dI)) (ci := 4) (v := .int tw) (C := RX4) (T := TX4) (N := 20) hx hb hts (by decide +kernel) hown hK hP 0 rfl rfl 0 (by decide) (hts (.fieldLink RX4 54 "HandlerOptimizerModel" "thrown" "I") (by decide +kernel)) (fun _ h9 => h9) rfl dX4_thrown_1 ?_
  rw [← hQ]
  exact W.iret (v := tw) hx hb hr (fun t ht hW => ⟨⟨tw, (), rfl, rfl, trivial⟩, hS.F ht⟩) hS.2.2 dX4_thrown_4

set_option maxHeartbeats 4000000 in
set_option maxRecDepth 100000 in
theorem c_X4_no (l : Launch) (dC : Nat → ClassId) (dI : Nat → Nat → Nat) (cI cZ cJ : ClassId) (b : Nat → Nat) (tw : Int32) (nk : Nat) (pa : Nat → Int32) (nc : Nat) (fo : Nat → Int32) (th : Nat → Int32) (tg : Nat → Int32) (nt : Nat) (tb : Nat → Int32) (te : Nat → Int32) (tk : Nat → Int32) (tt : Nat → Int32) (ex : Int32) (tc : Int32) (es : Int32) (wy : Int64) (ab : Nat → Int32) (re : Nat → Int32) (go : Nat → Int32) (be : Nat → Int32) (x : Int32) (sz : Nat) : Met l yX4_no wsX4_no ({ frames := 0, cells := 0, slots := 0, locals := 0 } : Room) (va_Pc [.ref (b 0), .int x] (zWr (dC, dI) [(cI, .int), (cZ, .boolean), (cJ, .long)] (w4 b cI cZ tw nk pa nc fo th tg nt tb te tk tt ex tc es wy ab re go be) sz)) (va_Qi (fun (r : Int32) (_ : Unit) => r = 0) (fun _ t => zWo (dC, dI) [(cI, .int), (cZ, .boolean), (cJ, .long)] (w4 b cI cZ x nk pa nc fo th tg nt tb te tk tt ex tc es wy ab re go be) (va_A (w4 b cI cZ tw nk pa nc fo th tg nt tb te tk tt ex tc es wy ab re go be) sz) t) (va_A (w4 b cI cZ tw nk pa nc fo th tg nt tb te tk tt ex tc es wy ab re go be) sz)) 0 0 (va_A (w4 b cI cZ tw nk pa nc fo th tg nt tb te tk tt ex tc es wy ab re go be) sz) := by
  refine Met.ofW (cc := cX4_no) (maxL := 2) (ret := (some .int)) (by decide) rfl ?_
  intro p e s m args below meth c s₁ B hml hv
  obtain ⟨hav, hsz, ⟨hP, hK, hn⟩, hD0⟩ := hv
  have hx := B.exec
  have hb := B.bytes
  have hr := B.returns
  have hts := atoms_spec (ws := wsX4_no) B.pre
  have hown : s.vm.findClass RX4 = some m.cls := findClass_of_methodNamed B.named
  have hlocks := B.notSynchronized
  subst hsz
  have hD := hD0.self (sz := s.heap.size)
  generalize hAe : (va_A (w4 b cI cZ tw nk pa nc fo th tg nt tb te tk tt ex tc es wy ab re go be) s.heap.size) = A at hD ⊢
  have hA : ∀ q : Nat, s.heap.size ≤ q → A q := fun q h => by rw [← hAe]; exact Or.inr h
  have hS : va_S A s.heap s.heap [] := va_S.rf
  generalize hQ : MQ below (va_Qi (fun (r : Int32) (_ : Unit) => r = 0) (fun _ t => zWo (dC, dI) [(cI, .int), (cZ, .boolean), (cJ, .long)] (w4 b cI cZ x nk pa nc fo th tg nt tb te tk tt ex tc es wy ab re go be) A t) A) args s 0 0 A = Q
  refine W.eq (g2 := entryFrame m ([.ref (b 0), .int x] : List Value).toArray 2) (by rw [hav]) ?_
  have hl := lv_entry ([.ref (b 0), .int x]) (n := 2) (Nat.le_of_ble_eq_true rfl)
  rw [lg_entry_eq]
  generalize (lg_sl ([.ref (b 0), .int x]) ++ List.replicate (2 - (lg_sl ([.ref (b 0), .int x])).length) Slot.unset).toArray = ls at hl ⊢
  have hl : lv_has ls 2 [(0, .ref (b 0)), (1, .int x)] := hl
  obtain ⟨H, hH⟩ : ∃ H, H = s.heap := ⟨_, rfl⟩
  obtain ⟨locs, hlo⟩ : ∃ q : List Loc, q = [] := ⟨_, rfl⟩
  have hP : va_P (dC, dI) vwCl (w4 b cI cZ tw nk pa nc fo th tg nt tb te tk tt ex tc es wy ab re go be) H := by rw [hH]; exact hP
  have hS : va_S A s.heap H locs := by rw [hH, hlo]; exact hS
  refine zz_hl hH hlo ?_
  refine lv_aload_n hx hb dX4_no_0 rfl (lv_at hl 0 rfl) ?_
  refine lv_iload_n hx hb dX4_no_1 rfl (lv_at hl 1 rfl) ?_
  refine va_put (D := (dC, dI)) (ci := 4) (v := .int x) (ty := .int) (C := RX4) (T := TX4) (N := 20) hx hb hts (by decide +kernel) tyX4 tyX4_ok nmX4 hown hK hP hD hS 0 rfl rfl 0 (by decide) (hts (.fieldLink RX4 54 "HandlerOptimizerModel" "thrown" "I") (by decide +kernel)) (fun _ h9 => h9) rfl (by decide +kernel) rfl rfl (Nat.le_of_ble_eq_true rfl) dX4_no_2 (fun H locs hP hD hS => ?_)
  have hP : va_P (dC, dI) vwCl (w4 b cI cZ x nk pa nc fo th tg nt tb te tk tt ex tc es wy ab re go be) H := hP
  have hD : va_D A (w4 b cI cZ x nk pa nc fo th tg nt tb te tk tt ex tc es wy ab re go be) := hD
  refine lv_iconst (v := 0) hx hb dX4_no_5 (by decide) ?_
  rw [← hQ]
  have hP9 := hP
  have hD9 := hD
  exact W.iret (v := 0) hx hb hr (fun t ht hW => ⟨⟨0, (), rfl, rfl, (by rw [ht]; exact hP9), va_K.moved hW.alike hK, hD9⟩, hS.F ht⟩) hS.2.2 dX4_no_6

set_option maxHeartbeats 4000000 in
set_option maxRecDepth 100000 in
theorem c_X4_isIn (l : Launch) (dC : Nat → ClassId) (dI : Nat → Nat → Nat) (cI cZ cJ : ClassId) (x : Int32) (y : Int32) (z : Int32) : Met l yX4_isIn wsX4_isIn ({ frames := 0, cells := 0, slots := 0, locals := 0 } : Room) (va_Pc [.int x, .int y, .int z] (zPre (dC, dI) [(cI, .int), (cZ, .boolean), (cJ, .long)] ([] : va_W))) (va_Qi (fun (r : Int32) (_ : Unit) => r = bI (!decide (x < y) && !decide (z < x))) (fun _ _ => True) (fun _ => False)) 0 0 (fun _ => False) := by
  refine Met.ofW (cc := cX4_isIn) (maxL := 3) (ret := (some .boolean)) (by decide) rfl ?_
  intro p e s m args below meth c s₁ B hml hv
  obtain ⟨hav, hP, hK, hn⟩ := hv
  have hx := B.exec
  have hb := B.bytes
  have hr := B.returns
  have hts := atoms_spec (ws := wsX4_isIn) B.pre
  have hown : s.vm.findClass RX4 = some m.cls := findClass_of_methodNamed B.named
  have hlocks := B.notSynchronized
  have hS : va_S (fun _ => False) s.heap s.heap [] := va_S.rf
  generalize hQ : MQ below (va_Qi (fun (r : Int32) (_ : Unit) => r = bI (!decide (x < y) && !decide (z < x))) (fun _ _ => True) (fun _ => False)) args s 0 0 (fun _ => False) = Q
  refine W.eq (g2 := entryFrame m ([.int x, .int y, .int z] : List Value).toArray 3) (by rw [hav]) ?_
  have hl := lv_entry ([.int x, .int y, .int z]) (n := 3) (Nat.le_of_ble_eq_true rfl)
  rw [lg_entry_eq]
  generalize (lg_sl ([.int x, .int y, .int z]) ++ List.replicate (3 - (lg_sl ([.int x, .int y, .int z])).length) Slot.unset).toArray = ls at hl ⊢
  have hl : lv_has ls 3 [(0, .int x), (1, .int y), (2, .int z)] := hl
  obtain ⟨H, hH⟩ : ∃ H, H = s.heap := ⟨_, rfl⟩
  obtain ⟨locs, hlo⟩ : ∃ q : List Loc, q = [] := ⟨_, rfl⟩
  have hP : va_P (dC, dI) vwCl ([] : va_W) H := by rw [hH]; exact hP
  have hS : va_S (fun _ => False) s.heap H locs := by rw [hH, hlo]; exact hS
  refine zz_hl hH hlo ?_
  refine lv_iload_n hx hb dX4_isIn_0 rfl (lv_at hl 0 rfl) ?_
  refine lv_iload_n hx hb dX4_isIn_1 rfl (lv_at hl 1 rfl) ?_
  refine lv_icmp_lt (tgt := 14) hx hb dX4_isIn_2 (by decide) (fun c_1 => ?_) (fun c_1 => ?_)
  · skip
    skip
    refine lv_iconst (v := 0) hx hb dX4_isIn_14 (by decide) ?_
    rw [← hQ]
    exact W.zret (v := 0) hx hb hr rfl (fun t ht hW => ⟨⟨0, (), rfl, (by simp [bI, *]), trivial⟩, hS.F ht⟩) hS.2.2 dX4_isIn_15
  · skip
    skip
    refine lv_iload_n hx hb dX4_isIn_5 rfl (lv_at hl 0 rfl) ?_
    refine lv_iload_n hx hb dX4_isIn_6 rfl (lv_at hl 2 rfl) ?_
    refine lv_icmp_gt (tgt := 14) hx hb dX4_isIn_7 (by decide) (fun c_2 => ?_) (fun c_2 => ?_)
    · skip
      skip
      refine lv_iconst (v := 0) hx hb dX4_isIn_14 (by decide) ?_
      rw [← hQ]
      exact W.zret (v := 0) hx hb hr rfl (fun t ht hW => ⟨⟨0, (), rfl, (by simp [bI, *]), trivial⟩, hS.F ht⟩) hS.2.2 dX4_isIn_15
    · skip
      skip
      refine lv_iconst (v := 1) hx hb dX4_isIn_10 (by decide) ?_
      refine lv_goto (tgt := 15) hx hb dX4_isIn_11 (by decide) ?_
      rw [← hQ]
      exact W.zret (v := 1) hx hb hr rfl (fun t ht hW => ⟨⟨1, (), rfl, (by simp [bI, *]), trivial⟩, hS.F ht⟩) hS.2.2 dX4_isIn_15

set_option maxHeartbeats 4000000 in
set_option maxRecDepth 100000 in
theorem c_X4_isKind (l : Launch) (dC : Nat → ClassId) (dI : Nat → Nat → Nat) (cI cZ cJ : ClassId) (b : Nat → Nat) (tw : Int32) (nk : Nat) (pa : Nat → Int32) (nc : Nat) (fo : Nat → Int32) (th : Nat → Int32) (tg : Nat → Int32) (nt : Nat) (tb : Nat → Int32) (te : Nat → Int32) (tk : Nat → Int32) (tt : Nat → Int32) (ex : Int32) (tc : Int32) (es : Int32) (wy : Int64) (ab : Nat → Int32) (re : Nat → Int32) (go : Nat → Int32) (be : Nat → Int32) (x : Int32) (hn9 : nk < 2 ^ 31) : Met l yX4_isKind wsX4_isKind ({ frames := 1, cells := 0, slots := 0, locals := 22 } : Room) (va_Pc [.ref (b 0), .int x] (zPre (dC, dI) [(cI, .int), (cZ, .boolean), (cJ, .long)] (w4 b cI cZ tw nk pa nc fo th tg nt tb te tk tt ex tc es wy ab re go be))) (va_Qi (fun (r : Int32) (_ : Unit) => r = bI (hasI x nk)) (fun _ _ => True) (fun _ => False)) 0 0 (fun _ => False) := by
  refine Met.ofW (cc := cX4_isKind) (maxL := 2) (ret := (some .boolean)) (by decide) rfl ?_
  intro p e s m args below meth c s₁ B hml hv
  obtain ⟨hav, hP, hK, hn⟩ := hv
  have hx := B.exec
  have hb := B.bytes
  have hr := B.returns
  have hts := atoms_spec (ws := wsX4_isKind) B.pre
  have hown : s.vm.findClass RX4 = some m.cls := findClass_of_methodNamed B.named
  have hlocks := B.notSynchronized
  have hS : va_S (fun _ => False) s.heap s.heap [] := va_S.rf
  generalize hQ : MQ below (va_Qi (fun (r : Int32) (_ : Unit) => r = bI (hasI x nk)) (fun _ _ => True) (fun _ => False)) args s 0 0 (fun _ => False) = Q
  refine W.eq (g2 := entryFrame m ([.ref (b 0), .int x] : List Value).toArray 2) (by rw [hav]) ?_
  have hl := lv_entry ([.ref (b 0), .int x]) (n := 2) (Nat.le_of_ble_eq_true rfl)
  rw [lg_entry_eq]
  generalize (lg_sl ([.ref (b 0), .int x]) ++ List.replicate (2 - (lg_sl ([.ref (b 0), .int x])).length) Slot.unset).toArray = ls at hl ⊢
  have hl : lv_has ls 2 [(0, .ref (b 0)), (1, .int x)] := hl
  obtain ⟨H, hH⟩ : ∃ H, H = s.heap := ⟨_, rfl⟩
  obtain ⟨locs, hlo⟩ : ∃ q : List Loc, q = [] := ⟨_, rfl⟩
  have hP : va_P (dC, dI) vwCl (w4 b cI cZ tw nk pa nc fo th tg nt tb te tk tt ex tc es wy ab re go be) H := by rw [hH]; exact hP
  have hS : va_S (fun _ => False) s.heap H locs := by rw [hH, hlo]; exact hS
  refine zz_hl hH hlo ?_
  refine lv_iload_n hx hb dX4_isKind_0 rfl (lv_at hl 1 rfl) ?_
  refine lv_iconst (v := 0) hx hb dX4_isKind_1 (by decide) ?_
  refine lv_aload_n hx hb dX4_isKind_2 rfl (lv_at hl 0 rfl) ?_
  refine va_get (D := (dC, dI)) (ci := 4) (v := .int (nI nk)) (C := RX4) (T := TX4) (N := 20) hx hb hts (by decide +kernel) hown hK hP 0 rfl rfl 1 (by decide) (hts (.fieldLink RX4 7 "HandlerOptimizerModel" "kinds" "I") (by decide +kernel)) (fun _ h9 => h9) rfl dX4_isKind_3 ?_
  refine lv_iconst (v := 1) hx hb dX4_isKind_6 (by decide) ?_
  refine lv_isub hx hb dX4_isKind_7 ?_
  have hPc : va_P (dC, dI) vwCl [] H := fun k q h => by simp at h
  refine va_calli (va_runS (As := [.int x, .int 0, .int ((nI nk) - 1)]) (rest := []) ⟨hx, hb, hml, hown, hts⟩ (c_X4_isIn l dC dI cI cZ cJ x 0 ((nI nk) - 1) ) (va_cwS 3 hts gX4_isKind_X4_isIn rfl rfl rfl (by decide +kernel) ⟨Nat.le_of_ble_eq_true rfl, Nat.le_of_ble_eq_true rfl⟩) ⟨zPre_blind, zPre_at hPc hK hn⟩ rfl rfl hl.1 rfl (lv_room (Nat.le_of_ble_eq_true rfl)) dX4_isKind_8 ⟨Nat.le_of_ble_eq_true rfl, Nat.le_of_ble_eq_true rfl⟩) hS (fun _ _ h => h.elim) (fun _ h => h.elim) (fun r_1 u_9 t H locs ht hvm hw hB hz1 hk1 hS => ?_)
  have hP := zkeep hP hk1
  subst hw
  rw [← hQ]
  exact W.zret (v := bI (!decide (x < 0) && !decide (((nI nk) - 1) < x))) hx hb hr (zz_nb _) (fun t ht hW => ⟨⟨bI (!decide (x < 0) && !decide (((nI nk) - 1) < x)), (), rfl, (by rw [← inI hn9]), trivial⟩, hS.F ht⟩) hS.2.2 dX4_isKind_11

set_option maxHeartbeats 4000000 in
set_option maxRecDepth 100000 in
theorem c_X4_isInstruction (l : Launch) (dC : Nat → ClassId) (dI : Nat → Nat → Nat) (cI cZ cJ : ClassId) (b : Nat → Nat) (tw : Int32) (nk : Nat) (pa : Nat → Int32) (nc : Nat) (fo : Nat → Int32) (th : Nat → Int32) (tg : Nat → Int32) (nt : Nat) (tb : Nat → Int32) (te : Nat → Int32) (tk : Nat → Int32) (tt : Nat → Int32) (ex : Int32) (tc : Int32) (es : Int32) (wy : Int64) (ab : Nat → Int32) (re : Nat → Int32) (go : Nat → Int32) (be : Nat → Int32) (x : Int32) (hn9 : nc < 2 ^ 31) : Met l yX4_isInstruction wsX4_isInstruction ({ frames := 1, cells := 0, slots := 0, locals := 22 } : Room) (va_Pc [.ref (b 0), .int x] (zPre (dC, dI) [(cI, .int), (cZ, .boolean), (cJ, .long)] (w4 b cI cZ tw nk pa nc fo th tg nt tb te tk tt ex tc es wy ab re go be))) (va_Qi (fun (r : Int32) (_ : Unit) => r = bI (hasI x nc)) (fun _ _ => True) (fun _ => False)) 0 0 (fun _ => False) := by
  refine Met.ofW (cc := cX4_isInstruction) (maxL := 2) (ret := (some .boolean)) (by decide) rfl ?_
  intro p e s m args below meth c s₁ B hml hv
  obtain ⟨hav, hP, hK, hn⟩ := hv
  have hx := B.exec
  have hb := B.bytes
  have hr := B.returns
  have hts := atoms_spec (ws := wsX4_isInstruction) B.pre
  have hown : s.vm.findClass RX4 = some m.cls := findClass_of_methodNamed B.named
  have hlocks := B.notSynchronized
  have hS : va_S (fun _ => False) s.heap s.heap [] := va_S.rf
  generalize hQ : MQ below (va_Qi (fun (r : Int32) (_ : Unit) => r = bI (hasI x nc)) (fun _ _ => True) (fun _ => False)) args s 0 0 (fun _ => False) = Q
  refine W.eq (g2 := entryFrame m ([.ref (b 0), .int x] : List Value).toArray 2) (by rw [hav]) ?_
  have hl := lv_entry ([.ref (b 0), .int x]) (n := 2) (Nat.le_of_ble_eq_true rfl)
  rw [lg_entry_eq]
  generalize (lg_sl ([.ref (b 0), .int x]) ++ List.replicate (2 - (lg_sl ([.ref (b 0), .int x])).length) Slot.unset).toArray = ls at hl ⊢
  have hl : lv_has ls 2 [(0, .ref (b 0)), (1, .int x)] := hl
  obtain ⟨H, hH⟩ : ∃ H, H = s.heap := ⟨_, rfl⟩
  obtain ⟨locs, hlo⟩ : ∃ q : List Loc, q = [] := ⟨_, rfl⟩
  have hP : va_P (dC, dI) vwCl (w4 b cI cZ tw nk pa nc fo th tg nt tb te tk tt ex tc es wy ab re go be) H := by rw [hH]; exact hP
  have hS : va_S (fun _ => False) s.heap H locs := by rw [hH, hlo]; exact hS
  refine zz_hl hH hlo ?_
  refine lv_iload_n hx hb dX4_isInstruction_0 rfl (lv_at hl 1 rfl) ?_
  refine lv_iconst (v := 0) hx hb dX4_isInstruction_1 (by decide) ?_
  refine lv_aload_n hx hb dX4_isInstruction_2 rfl (lv_at hl 0 rfl) ?_
  refine va_get (D := (dC, dI)) (ci := 4) (v := .int (nI nc)) (C := RX4) (T := TX4) (N := 20) hx hb hts (by decide +kernel) hown hK hP 0 rfl rfl 3 (by decide) (hts (.fieldLink RX4 61 "HandlerOptimizerModel" "size" "I") (by decide +kernel)) (fun _ h9 => h9) rfl dX4_isInstruction_3 ?_
  refine lv_iconst (v := 1) hx hb dX4_isInstruction_6 (by decide) ?_
  refine lv_isub hx hb dX4_isInstruction_7 ?_
  have hPc : va_P (dC, dI) vwCl [] H := fun k q h => by simp at h
  refine va_calli (va_runS (As := [.int x, .int 0, .int ((nI nc) - 1)]) (rest := []) ⟨hx, hb, hml, hown, hts⟩ (c_X4_isIn l dC dI cI cZ cJ x 0 ((nI nc) - 1) ) (va_cwS 3 hts gX4_isInstruction_X4_isIn rfl rfl rfl (by decide +kernel) ⟨Nat.le_of_ble_eq_true rfl, Nat.le_of_ble_eq_true rfl⟩) ⟨zPre_blind, zPre_at hPc hK hn⟩ rfl rfl hl.1 rfl (lv_room (Nat.le_of_ble_eq_true rfl)) dX4_isInstruction_8 ⟨Nat.le_of_ble_eq_true rfl, Nat.le_of_ble_eq_true rfl⟩) hS (fun _ _ h => h.elim) (fun _ h => h.elim) (fun r_1 u_9 t H locs ht hvm hw hB hz1 hk1 hS => ?_)
  have hP := zkeep hP hk1
  subst hw
  rw [← hQ]
  exact W.zret (v := bI (!decide (x < 0) && !decide (((nI nc) - 1) < x))) hx hb hr (zz_nb _) (fun t ht hW => ⟨⟨bI (!decide (x < 0) && !decide (((nI nc) - 1) < x)), (), rfl, (by rw [← inI hn9]), trivial⟩, hS.F ht⟩) hS.2.2 dX4_isInstruction_11

set_option maxHeartbeats 4000000 in
set_option maxRecDepth 100000 in
theorem c_X4_isEntry (l : Launch) (dC : Nat → ClassId) (dI : Nat → Nat → Nat) (cI cZ cJ : ClassId) (b : Nat → Nat) (tw : Int32) (nk : Nat) (pa : Nat → Int32) (nc : Nat) (fo : Nat → Int32) (th : Nat → Int32) (tg : Nat → Int32) (nt : Nat) (tb : Nat → Int32) (te : Nat → Int32) (tk : Nat → Int32) (tt : Nat → Int32) (ex : Int32) (tc : Int32) (es : Int32) (wy : Int64) (ab : Nat → Int32) (re : Nat → Int32) (go : Nat → Int32) (be : Nat → Int32) (x : Int32) (hn9 : nt < 2 ^ 31) : Met l yX4_isEntry wsX4_isEntry ({ frames := 1, cells := 0, slots := 0, locals := 22 } : Room) (va_Pc [.ref (b 0), .int x] (zPre (dC, dI) [(cI, .int), (cZ, .boolean), (cJ, .long)] (w4 b cI cZ tw nk pa nc fo th tg nt tb te tk tt ex tc es wy ab re go be))) (va_Qi (fun (r : Int32) (_ : Unit) => r = bI (hasI x nt)) (fun _ _ => True) (fun _ => False)) 0 0 (fun _ => False) := by
  refine Met.ofW (cc := cX4_isEntry) (maxL := 2) (ret := (some .boolean)) (by decide) rfl ?_
  intro p e s m args below meth c s₁ B hml hv
  obtain ⟨hav, hP, hK, hn⟩ := hv
  have hx := B.exec
  have hb := B.bytes
  have hr := B.returns
  have hts := atoms_spec (ws := wsX4_isEntry) B.pre
  have hown : s.vm.findClass RX4 = some m.cls := findClass_of_methodNamed B.named
  have hlocks := B.notSynchronized
  have hS : va_S (fun _ => False) s.heap s.heap [] := va_S.rf
  generalize hQ : MQ below (va_Qi (fun (r : Int32) (_ : Unit) => r = bI (hasI x nt)) (fun _ _ => True) (fun _ => False)) args s 0 0 (fun _ => False) = Q
  refine W.eq (g2 := entryFrame m ([.ref (b 0), .int x] : List Value).toArray 2) (by rw [hav]) ?_
  have hl := lv_entry ([.ref (b 0), .int x]) (n := 2) (Nat.le_of_ble_eq_true rfl)
  rw [lg_entry_eq]
  generalize (lg_sl ([.ref (b 0), .int x]) ++ List.replicate (2 - (lg_sl ([.ref (b 0), .int x])).length) Slot.unset).toArray = ls at hl ⊢
  have hl : lv_has ls 2 [(0, .ref (b 0)), (1, .int x)] := hl
  obtain ⟨H, hH⟩ : ∃ H, H = s.heap := ⟨_, rfl⟩
  obtain ⟨locs, hlo⟩ : ∃ q : List Loc, q = [] := ⟨_, rfl⟩
  have hP : va_P (dC, dI) vwCl (w4 b cI cZ tw nk pa nc fo th tg nt tb te tk tt ex tc es wy ab re go be) H := by rw [hH]; exact hP
  have hS : va_S (fun _ => False) s.heap H locs := by rw [hH, hlo]; exact hS
  refine zz_hl hH hlo ?_
  refine lv_iload_n hx hb dX4_isEntry_0 rfl (lv_at hl 1 rfl) ?_
  refine lv_iconst (v := 0) hx hb dX4_isEntry_1 (by decide) ?_
  refine lv_aload_n hx hb dX4_isEntry_2 rfl (lv_at hl 0 rfl) ?_
  refine va_get (D := (dC, dI)) (ci := 4) (v := .int (nI nt)) (C := RX4) (T := TX4) (N := 20) hx hb hts (by decide +kernel) hown hK hP 0 rfl rfl 7 (by decide) (hts (.fieldLink RX4 64 "HandlerOptimizerModel" "entries" "I") (by decide +kernel)) (fun _ h9 => h9) rfl dX4_isEntry_3 ?_
  refine lv_iconst (v := 1) hx hb dX4_isEntry_6 (by decide) ?_
  refine lv_isub hx hb dX4_isEntry_7 ?_
  have hPc : va_P (dC, dI) vwCl [] H := fun k q h => by simp at h
  refine va_calli (va_runS (As := [.int x, .int 0, .int ((nI nt) - 1)]) (rest := []) ⟨hx, hb, hml, hown, hts⟩ (c_X4_isIn l dC dI cI cZ cJ x 0 ((nI nt) - 1) ) (va_cwS 3 hts gX4_isEntry_X4_isIn rfl rfl rfl (by decide +kernel) ⟨Nat.le_of_ble_eq_true rfl, Nat.le_of_ble_eq_true rfl⟩) ⟨zPre_blind, zPre_at hPc hK hn⟩ rfl rfl hl.1 rfl (lv_room (Nat.le_of_ble_eq_true rfl)) dX4_isEntry_8 ⟨Nat.le_of_ble_eq_true rfl, Nat.le_of_ble_eq_true rfl⟩) hS (fun _ _ h => h.elim) (fun _ h => h.elim) (fun r_1 u_9 t H locs ht hvm hw hB hz1 hk1 hS => ?_)
  have hP := zkeep hP hk1
  subst hw
  rw [← hQ]
  exact W.zret (v := bI (!decide (x < 0) && !decide (((nI nt) - 1) < x))) hx hb hr (zz_nb _) (fun t ht hW => ⟨⟨bI (!decide (x < 0) && !decide (((nI nt) - 1) < x)), (), rfl, (by rw [← inI hn9]), trivial⟩, hS.F ht⟩) hS.2.2 dX4_isEntry_11

set_option maxHeartbeats 4000000 in
set_option maxRecDepth 100000 in
theorem c_X4_isTarget (l : Launch) (dC : Nat → ClassId) (dI : Nat → Nat → Nat) (cI cZ cJ : ClassId) (x : Int32) : Met l yX4_isTarget wsX4_isTarget ({ frames := 1, cells := 0, slots := 0, locals := 22 } : Room) (va_Pc [.int x] (zPre (dC, dI) [(cI, .int), (cZ, .boolean), (cJ, .long)] ([] : va_W))) (va_Qi (fun (r : Int32) (_ : Unit) => r = bI (hasI x 48)) (fun _ _ => True) (fun _ => False)) 0 0 (fun _ => False) := by
  refine Met.ofW (cc := cX4_isTarget) (maxL := 1) (ret := (some .boolean)) (by decide) rfl ?_
  intro p e s m args below meth c s₁ B hml hv
  obtain ⟨hav, hP, hK, hn⟩ := hv
  have hx := B.exec
  have hb := B.bytes
  have hr := B.returns
  have hts := atoms_spec (ws := wsX4_isTarget) B.pre
  have hown : s.vm.findClass RX4 = some m.cls := findClass_of_methodNamed B.named
  have hlocks := B.notSynchronized
  have hS : va_S (fun _ => False) s.heap s.heap [] := va_S.rf
  generalize hQ : MQ below (va_Qi (fun (r : Int32) (_ : Unit) => r = bI (hasI x 48)) (fun _ _ => True) (fun _ => False)) args s 0 0 (fun _ => False) = Q
  refine W.eq (g2 := entryFrame m ([.int x] : List Value).toArray 1) (by rw [hav]) ?_
  have hl := lv_entry ([.int x]) (n := 1) (Nat.le_of_ble_eq_true rfl)
  rw [lg_entry_eq]
  generalize (lg_sl ([.int x]) ++ List.replicate (1 - (lg_sl ([.int x])).length) Slot.unset).toArray = ls at hl ⊢
  have hl : lv_has ls 1 [(0, .int x)] := hl
  obtain ⟨H, hH⟩ : ∃ H, H = s.heap := ⟨_, rfl⟩
  obtain ⟨locs, hlo⟩ : ∃ q : List Loc, q = [] := ⟨_, rfl⟩
  have hP : va_P (dC, dI) vwCl ([] : va_W) H := by rw [hH]; exact hP
  have hS : va_S (fun _ => False) s.heap H locs := by rw [hH, hlo]; exact hS
  refine zz_hl hH hlo ?_
  refine lv_iload_n hx hb dX4_isTarget_0 rfl (lv_at hl 0 rfl) ?_
  refine lv_iconst (v := 0) hx hb dX4_isTarget_1 (by decide) ?_
  refine lv_bipush (v := 47) hx hb dX4_isTarget_2 (by decide) ?_
  have hPc : va_P (dC, dI) vwCl [] H := fun k q h => by simp at h
  refine va_calli (va_runS (As := [.int x, .int 0, .int 47]) (rest := []) ⟨hx, hb, hml, hown, hts⟩ (c_X4_isIn l dC dI cI cZ cJ x 0 47 ) (va_cwS 3 hts gX4_isTarget_X4_isIn rfl rfl rfl (by decide +kernel) ⟨Nat.le_of_ble_eq_true rfl, Nat.le_of_ble_eq_true rfl⟩) ⟨zPre_blind, zPre_at hPc hK hn⟩ rfl rfl hl.1 rfl (lv_room (Nat.le_of_ble_eq_true rfl)) dX4_isTarget_4 ⟨Nat.le_of_ble_eq_true rfl, Nat.le_of_ble_eq_true rfl⟩) hS (fun _ _ h => h.elim) (fun _ h => h.elim) (fun r_1 u_9 t H locs ht hvm hw hB hz1 hk1 hS => ?_)
  have hP := zkeep hP hk1
  subst hw
  rw [← hQ]
  exact W.zret (v := bI (!decide (x < 0) && !decide (47 < x))) hx hb hr (zz_nb _) (fun t ht hW => ⟨⟨bI (!decide (x < 0) && !decide (47 < x)), (), rfl, (by rw [← inI (n := 48) (by omega)]; rfl), trivial⟩, hS.F ht⟩) hS.2.2 dX4_isTarget_7

set_option maxHeartbeats 4000000 in
set_option maxRecDepth 100000 in
theorem c_X4_areKinds (l : Launch) (dC : Nat → ClassId) (dI : Nat → Nat → Nat) (cI cZ cJ : ClassId) (b : Nat → Nat) (tw : Int32) (nk : Nat) (pa : Nat → Int32) (nc : Nat) (fo : Nat → Int32) (th : Nat → Int32) (tg : Nat → Int32) (nt : Nat) (tb : Nat → Int32) (te : Nat → Int32) (tk : Nat → Int32) (tt : Nat → Int32) (ex : Int32) (tc : Int32) (es : Int32) (wy : Int64) (ab : Nat → Int32) (re : Nat → Int32) (go : Nat → Int32) (be : Nat → Int32) (x : Int32) (hk8 : nk ≤ 8) : Met l yX4_areKinds wsX4_areKinds ({ frames := 0, cells := 0, slots := 0, locals := 0 } : Room) (va_Pc [.ref (b 0), .int x] (zPre (dC, dI) [(cI, .int), (cZ, .boolean), (cJ, .long)] (w4 b cI cZ tw nk pa nc fo th tg nt tb te tk tt ex tc es wy ab re go be))) (va_Qi (fun (r : Int32) (_ : Unit) => r = bI (decide (x >>> (nI nk &&& 31) = 0))) (fun _ _ => True) (fun _ => False)) 0 0 (fun _ => False) := by
  refine Met.ofW (cc := cX4_areKinds) (maxL := 2) (ret := (some .boolean)) (by decide) rfl ?_
  intro p e s m args below meth c s₁ B hml hv
  obtain ⟨hav, hP, hK, hn⟩ := hv
  have hx := B.exec
  have hb := B.bytes
  have hr := B.returns
  have hts := atoms_spec (ws := wsX4_areKinds) B.pre
  have hown : s.vm.findClass RX4 = some m.cls := findClass_of_methodNamed B.named
  have hlocks := B.notSynchronized
  have hS : va_S (fun _ => False) s.heap s.heap [] := va_S.rf
  generalize hQ : MQ below (va_Qi (fun (r : Int32) (_ : Unit) => r = bI (decide (x >>> (nI nk &&& 31) = 0))) (fun _ _ => True) (fun _ => False)) args s 0 0 (fun _ => False) = Q
  refine W.eq (g2 := entryFrame m ([.ref (b 0), .int x] : List Value).toArray 2) (by rw [hav]) ?_
  have hl := lv_entry ([.ref (b 0), .int x]) (n := 2) (Nat.le_of_ble_eq_true rfl)
  rw [lg_entry_eq]
  generalize (lg_sl ([.ref (b 0), .int x]) ++ List.replicate (2 - (lg_sl ([.ref (b 0), .int x])).length) Slot.unset).toArray = ls at hl ⊢
  have hl : lv_has ls 2 [(0, .ref (b 0)), (1, .int x)] := hl
  obtain ⟨H, hH⟩ : ∃ H, H = s.heap := ⟨_, rfl⟩
  obtain ⟨locs, hlo⟩ : ∃ q : List Loc, q = [] := ⟨_, rfl⟩
  have hP : va_P (dC, dI) vwCl (w4 b cI cZ tw nk pa nc fo th tg nt tb te tk tt ex tc es wy ab re go be) H := by rw [hH]; exact hP
  have hS : va_S (fun _ => False) s.heap H locs := by rw [hH, hlo]; exact hS
  refine zz_hl hH hlo ?_
  refine lv_iload_n hx hb dX4_areKinds_0 rfl (lv_at hl 1 rfl) ?_
  refine lv_if_lt (tgt := 17) hx hb dX4_areKinds_1 (by decide) (fun c_1 => ?_) (fun c_1 => ?_)
  · skip
    skip
    refine lv_iconst (v := 0) hx hb dX4_areKinds_17 (by decide) ?_
    rw [← hQ]
    exact W.zret (v := 0) hx hb hr rfl (fun t ht hW => ⟨⟨0, (), rfl, (by first | (rw [decide_eq_false (ks_neg hk8 (by assumption))]; rfl) | simp [bI, *]), trivial⟩, hS.F ht⟩) hS.2.2 dX4_areKinds_18
  · skip
    skip
    refine lv_iload_n hx hb dX4_areKinds_4 rfl (lv_at hl 1 rfl) ?_
    refine lv_aload_n hx hb dX4_areKinds_5 rfl (lv_at hl 0 rfl) ?_
    refine va_get (D := (dC, dI)) (ci := 4) (v := .int (nI nk)) (C := RX4) (T := TX4) (N := 20) hx hb hts (by decide +kernel) hown hK hP 0 rfl rfl 1 (by decide) (hts (.fieldLink RX4 7 "HandlerOptimizerModel" "kinds" "I") (by decide +kernel)) (fun _ h9 => h9) rfl dX4_areKinds_6 ?_
    refine lv_ishr hx hb dX4_areKinds_9 ?_
    refine lv_if_ne (tgt := 17) hx hb dX4_areKinds_10 (by decide) (fun c_2 => ?_) (fun c_2 => ?_)
    · skip
      skip
      refine lv_iconst (v := 0) hx hb dX4_areKinds_17 (by decide) ?_
      rw [← hQ]
      exact W.zret (v := 0) hx hb hr rfl (fun t ht hW => ⟨⟨0, (), rfl, (by first | (rw [decide_eq_false (ks_neg hk8 (by assumption))]; rfl) | simp [bI, *]), trivial⟩, hS.F ht⟩) hS.2.2 dX4_areKinds_18
    · skip
      skip
      refine lv_iconst (v := 1) hx hb dX4_areKinds_13 (by decide) ?_
      refine lv_goto (tgt := 18) hx hb dX4_areKinds_14 (by decide) ?_
      rw [← hQ]
      exact W.zret (v := 1) hx hb hr rfl (fun t ht hW => ⟨⟨1, (), rfl, (by first | (rw [decide_eq_false (ks_neg hk8 (by assumption))]; rfl) | simp [bI, *]), trivial⟩, hS.F ht⟩) hS.2.2 dX4_areKinds_18

set_option maxHeartbeats 4000000 in
set_option maxRecDepth 100000 in
theorem c_X4_has (l : Launch) (dC : Nat → ClassId) (dI : Nat → Nat → Nat) (cI cZ cJ : ClassId) (x : Int32) (k : Nat) (hk : k < 32) : Met l yX4_has wsX4_has ({ frames := 0, cells := 0, slots := 0, locals := 0 } : Room) (va_Pc [.int x, .int (nI k)] (zPre (dC, dI) [(cI, .int), (cZ, .boolean), (cJ, .long)] ([] : va_W))) (va_Qi (fun (r : Int32) (_ : Unit) => r = bI (bt x k)) (fun _ _ => True) (fun _ => False)) 0 0 (fun _ => False) := by
  refine Met.ofW (cc := cX4_has) (maxL := 2) (ret := (some .boolean)) (by decide) rfl ?_
  intro p e s m args below meth c s₁ B hml hv
  obtain ⟨hav, hP, hK, hn⟩ := hv
  have hx := B.exec
  have hb := B.bytes
  have hr := B.returns
  have hts := atoms_spec (ws := wsX4_has) B.pre
  have hown : s.vm.findClass RX4 = some m.cls := findClass_of_methodNamed B.named
  have hlocks := B.notSynchronized
  have hS : va_S (fun _ => False) s.heap s.heap [] := va_S.rf
  generalize hQ : MQ below (va_Qi (fun (r : Int32) (_ : Unit) => r = bI (bt x k)) (fun _ _ => True) (fun _ => False)) args s 0 0 (fun _ => False) = Q
  refine W.eq (g2 := entryFrame m ([.int x, .int (nI k)] : List Value).toArray 2) (by rw [hav]) ?_
  have hl := lv_entry ([.int x, .int (nI k)]) (n := 2) (Nat.le_of_ble_eq_true rfl)
  rw [lg_entry_eq]
  generalize (lg_sl ([.int x, .int (nI k)]) ++ List.replicate (2 - (lg_sl ([.int x, .int (nI k)])).length) Slot.unset).toArray = ls at hl ⊢
  have hl : lv_has ls 2 [(0, .int x), (1, .int (nI k))] := hl
  obtain ⟨H, hH⟩ : ∃ H, H = s.heap := ⟨_, rfl⟩
  obtain ⟨locs, hlo⟩ : ∃ q : List Loc, q = [] := ⟨_, rfl⟩
  have hP : va_P (dC, dI) vwCl ([] : va_W) H := by rw [hH]; exact hP
  have hS : va_S (fun _ => False) s.heap H locs := by rw [hH, hlo]; exact hS
  refine zz_hl hH hlo ?_
  refine lv_iload_n hx hb dX4_has_0 rfl (lv_at hl 0 rfl) ?_
  refine lv_iload_n hx hb dX4_has_1 rfl (lv_at hl 1 rfl) ?_
  refine lv_ishr hx hb dX4_has_2 ?_
  refine lv_iconst (v := 1) hx hb dX4_has_3 (by decide) ?_
  refine lv_iand hx hb dX4_has_4 ?_
  refine lv_iconst (v := 1) hx hb dX4_has_5 (by decide) ?_
  refine lv_icmp_ne (tgt := 13) hx hb dX4_has_6 (by decide) (fun c_1 => ?_) (fun c_1 => ?_)
  · skip
    have c9 : bt x k = false := by rw [bt_z hk] at c_1; cases e : bt x k; rfl; exact absurd (bI_1.mpr e) c_1
    refine lv_iconst (v := 0) hx hb dX4_has_13 (by decide) ?_
    rw [← hQ]
    exact W.zret (v := 0) hx hb hr rfl (fun t ht hW => ⟨⟨0, (), rfl, (by simp [bI, c9]), trivial⟩, hS.F ht⟩) hS.2.2 dX4_has_14
  · skip
    have c9 : bt x k = true := by rw [bt_z hk] at c_1; exact bI_1.mp c_1
    refine lv_iconst (v := 1) hx hb dX4_has_9 (by decide) ?_
    refine lv_goto (tgt := 14) hx hb dX4_has_10 (by decide) ?_
    rw [← hQ]
    exact W.zret (v := 1) hx hb hr rfl (fun t ht hW => ⟨⟨1, (), rfl, (by simp [bI, c9]), trivial⟩, hS.F ht⟩) hS.2.2 dX4_has_14

set_option maxHeartbeats 4000000 in
set_option maxRecDepth 100000 in
theorem c_X4_addKind (l : Launch) (dC : Nat → ClassId) (dI : Nat → Nat → Nat) (cI cZ cJ : ClassId) (b : Nat → Nat) (tw : Int32) (nk : Nat) (pa : Nat → Int32) (nc : Nat) (fo : Nat → Int32) (th : Nat → Int32) (tg : Nat → Int32) (nt : Nat) (tb : Nat → Int32) (te : Nat → Int32) (tk : Nat → Int32) (tt : Nat → Int32) (ex : Int32) (tc : Int32) (es : Int32) (wy : Int64) (ab : Nat → Int32) (re : Nat → Int32) (go : Nat → Int32) (be : Nat → Int32) (x : Int32) (T : Nat → Nat → Nat) (up : Nat → Nat → Bool) (sz : Nat) (hg : g4 nk ab up nt tb te tk tt T) (hc : okC nk nc fo th tg) : Met l yX4_addKind wsX4_addKind ({ frames := 2, cells := 0, slots := 0, locals := 43 } : Room) (va_Pc [.ref (b 0), .int x] (zWr (dC, dI) [(cI, .int), (cZ, .boolean), (cJ, .long)] (w4 b cI cZ tw nk pa nc fo th tg nt tb te tk tt ex tc es wy ab re go be) sz)) (va_Qi (fun (r : Int32) (u : Int32 × Nat × (Nat → Int32) × (Nat → Int32)) => match u with | (tw9, nk9, pa9, ab9) => (hasI x nk = false ∧ tw9 = 1 ∧ nk9 = nk ∧ pa9 = pa ∧ ab9 = ab) ∨ (hasI x nk = true ∧ nk = 8 ∧ tw9 = 2 ∧ nk9 = nk ∧ pa9 = pa ∧ ab9 = ab) ∨ (hasI x nk = true ∧ nk < 8 ∧ tw9 = 0 ∧ nk9 = nk + 1 ∧ r = nI nk ∧ pa9 = upd pa nk x ∧ g4 (nk + 1) ab9 (upN up nk x.toNatClampNeg) nt tb te tk tt T ∧ okC (nk + 1) nc fo th tg)) (fun u t => match u with | (tw9, nk9, pa9, ab9) => zWo (dC, dI) [(cI, .int), (cZ, .boolean), (cJ, .long)] (w4 b cI cZ tw9 nk9 pa9 nc fo th tg nt tb te tk tt ex tc es wy ab9 re go be) (va_A (w4 b cI cZ tw nk pa nc fo th tg nt tb te tk tt ex tc es wy ab re go be) sz) t) (va_A (w4 b cI cZ tw nk pa nc fo th tg nt tb te tk tt ex tc es wy ab re go be) sz)) 0 0 (va_A (w4 b cI cZ tw nk pa nc fo th tg nt tb te tk tt ex tc es wy ab re go be) sz) := by
  refine Met.ofW (cc := cX4_addKind) (maxL := 2) (ret := (some .int)) (by decide) rfl ?_
  intro p e s m args below meth c s₁ B hml hv
  obtain ⟨hav, hsz, ⟨hP, hK, hn⟩, hD0⟩ := hv
  have hx := B.exec
  have hb := B.bytes
  have hr := B.returns
  have hts := atoms_spec (ws := wsX4_addKind) B.pre
  have hown : s.vm.findClass RX4 = some m.cls := findClass_of_methodNamed B.named
  have hlocks := B.notSynchronized
  subst hsz
  have hD := hD0.self (sz := s.heap.size)
  generalize hAe : (va_A (w4 b cI cZ tw nk pa nc fo th tg nt tb te tk tt ex tc es wy ab re go be) s.heap.size) = A at hD ⊢
  have hA : ∀ q : Nat, s.heap.size ≤ q → A q := fun q h => by rw [← hAe]; exact Or.inr h
  have hS : va_S A s.heap s.heap [] := va_S.rf
  generalize hQ : MQ below (va_Qi (fun (r : Int32) (u : Int32 × Nat × (Nat → Int32) × (Nat → Int32)) => match u with | (tw9, nk9, pa9, ab9) => (hasI x nk = false ∧ tw9 = 1 ∧ nk9 = nk ∧ pa9 = pa ∧ ab9 = ab) ∨ (hasI x nk = true ∧ nk = 8 ∧ tw9 = 2 ∧ nk9 = nk ∧ pa9 = pa ∧ ab9 = ab) ∨ (hasI x nk = true ∧ nk < 8 ∧ tw9 = 0 ∧ nk9 = nk + 1 ∧ r = nI nk ∧ pa9 = upd pa nk x ∧ g4 (nk + 1) ab9 (upN up nk x.toNatClampNeg) nt tb te tk tt T ∧ okC (nk + 1) nc fo th tg)) (fun u t => match u with | (tw9, nk9, pa9, ab9) => zWo (dC, dI) [(cI, .int), (cZ, .boolean), (cJ, .long)] (w4 b cI cZ tw9 nk9 pa9 nc fo th tg nt tb te tk tt ex tc es wy ab9 re go be) A t) A) args s 0 0 A = Q
  refine W.eq (g2 := entryFrame m ([.ref (b 0), .int x] : List Value).toArray 2) (by rw [hav]) ?_
  have hl := lv_entry ([.ref (b 0), .int x]) (n := 2) (Nat.le_of_ble_eq_true rfl)
  rw [lg_entry_eq]
  generalize (lg_sl ([.ref (b 0), .int x]) ++ List.replicate (2 - (lg_sl ([.ref (b 0), .int x])).length) Slot.unset).toArray = ls at hl ⊢
  have hl : lv_has ls 2 [(0, .ref (b 0)), (1, .int x)] := hl
  obtain ⟨H, hH⟩ : ∃ H, H = s.heap := ⟨_, rfl⟩
  obtain ⟨locs, hlo⟩ : ∃ q : List Loc, q = [] := ⟨_, rfl⟩
  have hP : va_P (dC, dI) vwCl (w4 b cI cZ tw nk pa nc fo th tg nt tb te tk tt ex tc es wy ab re go be) H := by rw [hH]; exact hP
  have hS : va_S A s.heap H locs := by rw [hH, hlo]; exact hS
  refine zz_hl hH hlo ?_
  obtain ⟨hk01, hk8, hnt, hT, hO, hF, hU⟩ := id hg
  obtain ⟨hnc, hC⟩ := id hc
  refine lv_aload_n hx hb dX4_addKind_0 rfl (lv_at hl 0 rfl) ?_
  refine lv_iconst (v := 0) hx hb dX4_addKind_1 (by decide) ?_
  refine va_put (D := (dC, dI)) (ci := 4) (v := .int 0) (ty := .int) (C := RX4) (T := TX4) (N := 20) hx hb hts (by decide +kernel) tyX4 tyX4_ok nmX4 hown hK hP hD hS 0 rfl rfl 0 (by decide) (hts (.fieldLink RX4 54 "HandlerOptimizerModel" "thrown" "I") (by decide +kernel)) (fun _ h9 => h9) rfl (by decide +kernel) rfl rfl (Nat.le_of_ble_eq_true rfl) dX4_addKind_2 (fun H locs hP hD hS => ?_)
  have hP : va_P (dC, dI) vwCl (w4 b cI cZ 0 nk pa nc fo th tg nt tb te tk tt ex tc es wy ab re go be) H := hP
  have hD : va_D A (w4 b cI cZ 0 nk pa nc fo th tg nt tb te tk tt ex tc es wy ab re go be) := hD
  refine lv_aload_n hx hb dX4_addKind_5 rfl (lv_at hl 0 rfl) ?_
  refine lv_iload_n hx hb dX4_addKind_6 rfl (lv_at hl 1 rfl) ?_
  refine va_calli (va_runV (As := [.int x]) (rest := []) ⟨hx, hb, hml, hown, hts⟩ (c_X4_isKind l dC dI cI cZ cJ b 0 nk pa nc fo th tg nt tb te tk tt ex tc es wy ab re go be x (by omega)) (cwV 1 hts gX4_addKind_X4_isKind rfl rfl rfl (by decide +kernel) ⟨Nat.le_of_ble_eq_true rfl, Nat.le_of_ble_eq_true rfl⟩) ⟨zPre_blind, va_recv hK hP (ci := 4) (q0 := 0) rfl rfl, zPre_at hP hK hn⟩ rfl rfl hl.1 rfl (lv_room (Nat.le_of_ble_eq_true rfl)) dX4_addKind_7 ⟨Nat.le_of_ble_eq_true rfl, Nat.le_of_ble_eq_true rfl⟩) hS (fun _ _ h => h.elim) (fun _ h => h.elim) (fun r_1 u_9 t H locs ht hvm hw hB hz1 hk1 hS => ?_)
  have hP := zkeep hP hk1
  subst hw
  refine lv_if_ne (tgt := 19) hx hb dX4_addKind_10 (by decide) (fun c_2 => ?_) (fun c_2 => ?_)
  · skip
    have c9 := zb_1.mp c_2
    refine lv_aload_n hx hb dX4_addKind_19 rfl (lv_at hl 0 rfl) ?_
    refine va_get (D := (dC, dI)) (ci := 4) (v := .int (nI nk)) (C := RX4) (T := TX4) (N := 20) hx hb hts (by decide +kernel) hown hK hP 0 rfl rfl 1 (by decide) (hts (.fieldLink RX4 7 "HandlerOptimizerModel" "kinds" "I") (by decide +kernel)) (fun _ h9 => h9) rfl dX4_addKind_20 ?_
    refine lv_bipush (v := 8) hx hb dX4_addKind_23 (by decide) ?_
    refine lv_icmp_ne (tgt := 34) hx hb dX4_addKind_25 (by decide) (fun c_3 => ?_) (fun c_3 => ?_)
    · skip
      have c8 := (zz_net (a := nk) (b := 8) (by omega) (by omega)).mp c_3
      obtain ⟨i, hi, rfl⟩ := hasI_at (by omega) c9
      refine lv_aload_n hx hb dX4_addKind_34 rfl (lv_at hl 0 rfl) ?_
      refine va_get (D := (dC, dI)) (ci := 4) (v := .ref (b 1)) (C := RX4) (T := TX4) (N := 20) hx hb hts (by decide +kernel) hown hK hP 0 rfl rfl 2 (by decide) (hts (.fieldLink RX4 13 "HandlerOptimizerModel" "parents" "[I") (by decide +kernel)) (fun _ h9 => h9) rfl dX4_addKind_35 ?_
      refine lv_aload_n hx hb dX4_addKind_38 rfl (lv_at hl 0 rfl) ?_
      refine va_get (D := (dC, dI)) (ci := 4) (v := .int (nI nk)) (C := RX4) (T := TX4) (N := 20) hx hb hts (by decide +kernel) hown hK hP 0 rfl rfl 1 (by decide) (hts (.fieldLink RX4 7 "HandlerOptimizerModel" "kinds" "I") (by decide +kernel)) (fun _ h9 => h9) rfl dX4_addKind_39 ?_
      refine lv_iload_n hx hb dX4_addKind_42 rfl (lv_at hl 1 rfl) ?_
      refine va_iast hx hb hK hP hD hS 1 0 rfl rfl (vp_in_nI (n := nk) (by omega) (by decide)) dX4_addKind_43 (fun H locs hP hD hS => ?_)
      rw [nI_clamp (n := nk) (by omega)] at hP hD
      have hP : va_P (dC, dI) vwCl (w4 b cI cZ 0 nk (upd pa nk (nI i)) nc fo th tg nt tb te tk tt ex tc es wy ab re go be) H := hP
      have hD : va_D A (w4 b cI cZ 0 nk (upd pa nk (nI i)) nc fo th tg nt tb te tk tt ex tc es wy ab re go be) := hD
      refine lv_aload_n hx hb dX4_addKind_44 rfl (lv_at hl 0 rfl) ?_
      refine va_get (D := (dC, dI)) (ci := 4) (v := .ref (b 9)) (C := RX4) (T := TX4) (N := 20) hx hb hts (by decide +kernel) hown hK hP 0 rfl rfl 16 (by decide) (hts (.fieldLink RX4 41 "HandlerOptimizerModel" "aboves" "[I") (by decide +kernel)) (fun _ h9 => h9) rfl dX4_addKind_45 ?_
      refine lv_aload_n hx hb dX4_addKind_48 rfl (lv_at hl 0 rfl) ?_
      refine va_get (D := (dC, dI)) (ci := 4) (v := .int (nI nk)) (C := RX4) (T := TX4) (N := 20) hx hb hts (by decide +kernel) hown hK hP 0 rfl rfl 1 (by decide) (hts (.fieldLink RX4 7 "HandlerOptimizerModel" "kinds" "I") (by decide +kernel)) (fun _ h9 => h9) rfl dX4_addKind_49 ?_
      refine lv_aload_n hx hb dX4_addKind_52 rfl (lv_at hl 0 rfl) ?_
      refine va_get (D := (dC, dI)) (ci := 4) (v := .ref (b 9)) (C := RX4) (T := TX4) (N := 20) hx hb hts (by decide +kernel) hown hK hP 0 rfl rfl 16 (by decide) (hts (.fieldLink RX4 41 "HandlerOptimizerModel" "aboves" "[I") (by decide +kernel)) (fun _ h9 => h9) rfl dX4_addKind_53 ?_
      refine lv_iload_n hx hb dX4_addKind_56 rfl (lv_at hl 1 rfl) ?_
      refine va_iald hx hb hK hP 9 0 rfl rfl (vp_in_nI (n := i) (by omega) (by decide)) dX4_addKind_57 ?_
      refine zz_top (y := ab i) (congrArg _ (nI_clamp (by omega))) ?_
      refine lv_iconst (v := 1) hx hb dX4_addKind_58 (by decide) ?_
      refine lv_aload_n hx hb dX4_addKind_59 rfl (lv_at hl 0 rfl) ?_
      refine va_get (D := (dC, dI)) (ci := 4) (v := .int (nI nk)) (C := RX4) (T := TX4) (N := 20) hx hb hts (by decide +kernel) hown hK hP 0 rfl rfl 1 (by decide) (hts (.fieldLink RX4 7 "HandlerOptimizerModel" "kinds" "I") (by decide +kernel)) (fun _ h9 => h9) rfl dX4_addKind_60 ?_
      refine lv_ishl hx hb dX4_addKind_63 ?_
      refine lv_ior hx hb dX4_addKind_64 ?_
      refine va_iast hx hb hK hP hD hS 9 0 rfl rfl (vp_in_nI (n := nk) (by omega) (by decide)) dX4_addKind_65 (fun H locs hP hD hS => ?_)
      rw [nI_clamp (n := nk) (by omega)] at hP hD
      have hP : va_P (dC, dI) vwCl (w4 b cI cZ 0 nk (upd pa nk (nI i)) nc fo th tg nt tb te tk tt ex tc es wy (upd ab nk ((ab i) ||| (1 <<< ((nI nk) &&& 31)))) re go be) H := hP
      have hD : va_D A (w4 b cI cZ 0 nk (upd pa nk (nI i)) nc fo th tg nt tb te tk tt ex tc es wy (upd ab nk ((ab i) ||| (1 <<< ((nI nk) &&& 31)))) re go be) := hD
      refine lv_aload_n hx hb dX4_addKind_66 rfl (lv_at hl 0 rfl) ?_
      refine lv_dup hx hb dX4_addKind_67 rfl ?_
      refine va_get (D := (dC, dI)) (ci := 4) (v := .int (nI nk)) (C := RX4) (T := TX4) (N := 20) hx hb hts (by decide +kernel) hown hK hP 0 rfl rfl 1 (by decide) (hts (.fieldLink RX4 7 "HandlerOptimizerModel" "kinds" "I") (by decide +kernel)) (fun _ h9 => h9) rfl dX4_addKind_68 ?_
      refine lv_iconst (v := 1) hx hb dX4_addKind_71 (by decide) ?_
      refine lv_iadd hx hb dX4_addKind_72 ?_
      refine zz_top (y := nI (nk + 1)) (nI_add _ _) ?_
      refine va_put (D := (dC, dI)) (ci := 4) (v := .int (nI (nk + 1))) (ty := .int) (C := RX4) (T := TX4) (N := 20) hx hb hts (by decide +kernel) tyX4 tyX4_ok nmX4 hown hK hP hD hS 0 rfl rfl 1 (by decide) (hts (.fieldLink RX4 7 "HandlerOptimizerModel" "kinds" "I") (by decide +kernel)) (fun _ h9 => h9) rfl (by decide +kernel) rfl rfl (Nat.le_of_ble_eq_true rfl) dX4_addKind_73 (fun H locs hP hD hS => ?_)
      have hP : va_P (dC, dI) vwCl (w4 b cI cZ 0 (nk + 1) (upd pa nk (nI i)) nc fo th tg nt tb te tk tt ex tc es wy (upd ab nk ((ab i) ||| (1 <<< ((nI nk) &&& 31)))) re go be) H := hP
      have hD : va_D A (w4 b cI cZ 0 (nk + 1) (upd pa nk (nI i)) nc fo th tg nt tb te tk tt ex tc es wy (upd ab nk ((ab i) ||| (1 <<< ((nI nk) &&& 31)))) re go be) := hD
      refine lv_aload_n hx hb dX4_addKind_76 rfl (lv_at hl 0 rfl) ?_
      refine va_get (D := (dC, dI)) (ci := 4) (v := .int (nI (nk + 1))) (C := RX4) (T := TX4) (N := 20) hx hb hts (by decide +kernel) hown hK hP 0 rfl rfl 1 (by decide) (hts (.fieldLink RX4 7 "HandlerOptimizerModel" "kinds" "I") (by decide +kernel)) (fun _ h9 => h9) rfl dX4_addKind_77 ?_
      refine lv_iconst (v := 1) hx hb dX4_addKind_80 (by decide) ?_
      refine lv_isub hx hb dX4_addKind_81 ?_
      refine zz_top (y := nI nk) (nI_pred _) ?_
      rw [← hQ]
      have hP9 := hP
      have hD9 := hD
      exact W.iret (v := nI nk) hx hb hr (fun t ht hW => ⟨⟨nI nk, (0, nk + 1, upd pa nk (nI i), upd ab nk ((ab i) ||| (1 <<< ((nI nk) &&& 31)))), rfl, (Or.inr (Or.inr ⟨c9, by omega, rfl, rfl, rfl, rfl, by rw [nI_clamp (by omega)]; exact ⟨by omega, by omega, hnt, hT, okT_up hO, rA_up hF hU hi (by omega), okU_up hU hi⟩, okC_up hc⟩)), (by rw [ht]; exact hP9), va_K.moved hW.alike hK, hD9⟩, hS.F ht⟩) hS.2.2 dX4_addKind_82
    · skip
      have c8 := (zz_nef (a := nk) (b := 8) (by omega) (by omega)).mp c_3
      refine lv_aload_n hx hb dX4_addKind_28 rfl (lv_at hl 0 rfl) ?_
      refine lv_iconst (v := 2) hx hb dX4_addKind_29 (by decide) ?_
      have hDc := hD
      have hFc := va_free (wc := w4 b cI cZ 0 nk pa nc fo th tg nt tb te tk tt ex tc es wy ab re go be) hD hS hA [0, 1, 2, 3, 4, 5, 6, 7, 8, 9, 10, 11, 12] rfl
      refine va_calli (va_runV (As := [.int 2]) (rest := []) ⟨hx, hb, hml, hown, hts⟩ (c_X4_no l dC dI cI cZ cJ b 0 nk pa nc fo th tg nt tb te tk tt ex tc es wy ab re go be 2 H.size ) (cwV 1 hts gX4_addKind_X4_no rfl rfl rfl (by decide +kernel) ⟨Nat.le_of_ble_eq_true rfl, Nat.le_of_ble_eq_true rfl⟩) ⟨zWr_blind, va_recv hK hP (ci := 4) (q0 := 0) rfl rfl, zWr_at hP hK hn (hDc.weaken (fun _ _ _ _ => trivial))⟩ rfl rfl hl.1 rfl (lv_room (Nat.le_of_ble_eq_true rfl)) dX4_addKind_30 ⟨Nat.le_of_ble_eq_true rfl, Nat.le_of_ble_eq_true rfl⟩) hS (fun q _ h => hFc q h) hFc (fun r_4 u_9 t H1 locs ht hvm hw hB hz1 hk1 hS => ?_)
      obtain ⟨hP1, -, hD1⟩ := hB
      rw [ht] at hP1
      obtain ⟨hP, hD⟩ := va_join (wr := []) (w1 := w4 b cI cZ 2 nk pa nc fo th tg nt tb te tk tt ex tc es wy ab re go be) hP hD [0, 1, 2, 3, 4, 5, 6, 7, 8, 9, 10, 11, 12] [] rfl rfl (by decide) (by decide) hk1 hFc hP1 hD1
      generalize H1 = H at hP hS ⊢
      have hP : va_P (dC, dI) vwCl (w4 b cI cZ 2 nk pa nc fo th tg nt tb te tk tt ex tc es wy ab re go be) H := hP
      have hD : va_D A (w4 b cI cZ 2 nk pa nc fo th tg nt tb te tk tt ex tc es wy ab re go be) := hD
      subst hw
      rw [← hQ]
      have hP9 := hP
      have hD9 := hD
      exact W.iret (v := 0) hx hb hr (fun t ht hW => ⟨⟨0, (2, nk, pa, ab), rfl, (Or.inr (Or.inl ⟨c9, c8, rfl, rfl, rfl, rfl⟩)), (by rw [ht]; exact hP9), va_K.moved hW.alike hK, hD9⟩, hS.F ht⟩) hS.2.2 dX4_addKind_33
  · skip
    have c9 := zb_0.mp c_2
    refine lv_aload_n hx hb dX4_addKind_13 rfl (lv_at hl 0 rfl) ?_
    refine lv_iconst (v := 1) hx hb dX4_addKind_14 (by decide) ?_
    have hDc := hD
    have hFc := va_free (wc := w4 b cI cZ 0 nk pa nc fo th tg nt tb te tk tt ex tc es wy ab re go be) hD hS hA [0, 1, 2, 3, 4, 5, 6, 7, 8, 9, 10, 11, 12] rfl
    refine va_calli (va_runV (As := [.int 1]) (rest := []) ⟨hx, hb, hml, hown, hts⟩ (c_X4_no l dC dI cI cZ cJ b 0 nk pa nc fo th tg nt tb te tk tt ex tc es wy ab re go be 1 H.size ) (cwV 1 hts gX4_addKind_X4_no rfl rfl rfl (by decide +kernel) ⟨Nat.le_of_ble_eq_true rfl, Nat.le_of_ble_eq_true rfl⟩) ⟨zWr_blind, va_recv hK hP (ci := 4) (q0 := 0) rfl rfl, zWr_at hP hK hn (hDc.weaken (fun _ _ _ _ => trivial))⟩ rfl rfl hl.1 rfl (lv_room (Nat.le_of_ble_eq_true rfl)) dX4_addKind_15 ⟨Nat.le_of_ble_eq_true rfl, Nat.le_of_ble_eq_true rfl⟩) hS (fun q _ h => hFc q h) hFc (fun r_5 u_9 t H1 locs ht hvm hw hB hz1 hk1 hS => ?_)
    obtain ⟨hP1, -, hD1⟩ := hB
    rw [ht] at hP1
    obtain ⟨hP, hD⟩ := va_join (wr := []) (w1 := w4 b cI cZ 1 nk pa nc fo th tg nt tb te tk tt ex tc es wy ab re go be) hP hD [0, 1, 2, 3, 4, 5, 6, 7, 8, 9, 10, 11, 12] [] rfl rfl (by decide) (by decide) hk1 hFc hP1 hD1
    generalize H1 = H at hP hS ⊢
    have hP : va_P (dC, dI) vwCl (w4 b cI cZ 1 nk pa nc fo th tg nt tb te tk tt ex tc es wy ab re go be) H := hP
    have hD : va_D A (w4 b cI cZ 1 nk pa nc fo th tg nt tb te tk tt ex tc es wy ab re go be) := hD
    subst hw
    rw [← hQ]
    have hP9 := hP
    have hD9 := hD
    exact W.iret (v := 0) hx hb hr (fun t ht hW => ⟨⟨0, (1, nk, pa, ab), rfl, (Or.inl ⟨c9, rfl, rfl, rfl, rfl⟩), (by rw [ht]; exact hP9), va_K.moved hW.alike hK, hD9⟩, hS.F ht⟩) hS.2.2 dX4_addKind_18

set_option maxHeartbeats 4000000 in
set_option maxRecDepth 100000 in
theorem c_X4_kindCount (l : Launch) (dC : Nat → ClassId) (dI : Nat → Nat → Nat) (cI cZ cJ : ClassId) (b : Nat → Nat) (tw : Int32) (nk : Nat) (pa : Nat → Int32) (nc : Nat) (fo : Nat → Int32) (th : Nat → Int32) (tg : Nat → Int32) (nt : Nat) (tb : Nat → Int32) (te : Nat → Int32) (tk : Nat → Int32) (tt : Nat → Int32) (ex : Int32) (tc : Int32) (es : Int32) (wy : Int64) (ab : Nat → Int32) (re : Nat → Int32) (go : Nat → Int32) (be : Nat → Int32) (sz : Nat) : Met l yX4_kindCount wsX4_kindCount ({ frames := 0, cells := 0, slots := 0, locals := 0 } : Room) (va_Pc [.ref (b 0)] (zWr (dC, dI) [(cI, .int), (cZ, .boolean), (cJ, .long)] (w4 b cI cZ tw nk pa nc fo th tg nt tb te tk tt ex tc es wy ab re go be) sz)) (va_Qi (fun (r : Int32) (_ : Unit) => r = nI nk) (fun _ t => zWo (dC, dI) [(cI, .int), (cZ, .boolean), (cJ, .long)] (w4 b cI cZ 0 nk pa nc fo th tg nt tb te tk tt ex tc es wy ab re go be) (va_A (w4 b cI cZ tw nk pa nc fo th tg nt tb te tk tt ex tc es wy ab re go be) sz) t) (va_A (w4 b cI cZ tw nk pa nc fo th tg nt tb te tk tt ex tc es wy ab re go be) sz)) 0 0 (va_A (w4 b cI cZ tw nk pa nc fo th tg nt tb te tk tt ex tc es wy ab re go be) sz) := by
  refine Met.ofW (cc := cX4_kindCount) (maxL := 1) (ret := (some .int)) (by decide) rfl ?_
  intro p e s m args below meth c s₁ B hml hv
  obtain ⟨hav, hsz, ⟨hP, hK, hn⟩, hD0⟩ := hv
  have hx := B.exec
  have hb := B.bytes
  have hr := B.returns
  have hts := atoms_spec (ws := wsX4_kindCount) B.pre
  have hown : s.vm.findClass RX4 = some m.cls := findClass_of_methodNamed B.named
  have hlocks := B.notSynchronized
  subst hsz
  have hD := hD0.self (sz := s.heap.size)
  generalize hAe : (va_A (w4 b cI cZ tw nk pa nc fo th tg nt tb te tk tt ex tc es wy ab re go be) s.heap.size) = A at hD ⊢
  have hA : ∀ q : Nat, s.heap.size ≤ q → A q := fun q h => by rw [← hAe]; exact Or.inr h
  have hS : va_S A s.heap s.heap [] := va_S.rf
  generalize hQ : MQ below (va_Qi (fun (r : Int32) (_ : Unit) => r = nI nk) (fun _ t => zWo (dC, dI) [(cI, .int), (cZ, .boolean), (cJ, .long)] (w4 b cI cZ 0 nk pa nc fo th tg nt tb te tk tt ex tc es wy ab re go be) A t) A) args s 0 0 A = Q
  refine W.eq (g2 := entryFrame m ([.ref (b 0)] : List Value).toArray 1) (by rw [hav]) ?_
  have hl := lv_entry ([.ref (b 0)]) (n := 1) (Nat.le_of_ble_eq_true rfl)
  rw [lg_entry_eq]
  generalize (lg_sl ([.ref (b 0)]) ++ List.replicate (1 - (lg_sl ([.ref (b 0)])).length) Slot.unset).toArray = ls at hl ⊢
  have hl : lv_has ls 1 [(0, .ref (b 0))] := hl
  obtain ⟨H, hH⟩ : ∃ H, H = s.heap := ⟨_, rfl⟩
  obtain ⟨locs, hlo⟩ : ∃ q : List Loc, q = [] := ⟨_, rfl⟩
  have hP : va_P (dC, dI) vwCl (w4 b cI cZ tw nk pa nc fo th tg nt tb te tk tt ex tc es wy ab re go be) H := by rw [hH]; exact hP
  have hS : va_S A s.heap H locs := by rw [hH, hlo]; exact hS
  refine zz_hl hH hlo ?_
  refine lv_aload_n hx hb dX4_kindCount_0 rfl (lv_at hl 0 rfl) ?_
  refine lv_iconst (v := 0) hx hb dX4_kindCount_1 (by decide) ?_
  refine va_put (D := (dC, dI)) (ci := 4) (v := .int 0) (ty := .int) (C := RX4) (T := TX4) (N := 20) hx hb hts (by decide +kernel) tyX4 tyX4_ok nmX4 hown hK hP hD hS 0 rfl rfl 0 (by decide) (hts (.fieldLink RX4 54 "HandlerOptimizerModel" "thrown" "I") (by decide +kernel)) (fun _ h9 => h9) rfl (by decide +kernel) rfl rfl (Nat.le_of_ble_eq_true rfl) dX4_kindCount_2 (fun H locs hP hD hS => ?_)
  have hP : va_P (dC, dI) vwCl (w4 b cI cZ 0 nk pa nc fo th tg nt tb te tk tt ex tc es wy ab re go be) H := hP
  have hD : va_D A (w4 b cI cZ 0 nk pa nc fo th tg nt tb te tk tt ex tc es wy ab re go be) := hD
  refine lv_aload_n hx hb dX4_kindCount_5 rfl (lv_at hl 0 rfl) ?_
  refine va_get (D := (dC, dI)) (ci := 4) (v := .int (nI nk)) (C := RX4) (T := TX4) (N := 20) hx hb hts (by decide +kernel) hown hK hP 0 rfl rfl 1 (by decide) (hts (.fieldLink RX4 7 "HandlerOptimizerModel" "kinds" "I") (by decide +kernel)) (fun _ h9 => h9) rfl dX4_kindCount_6 ?_
  rw [← hQ]
  have hP9 := hP
  have hD9 := hD
  exact W.iret (v := nI nk) hx hb hr (fun t ht hW => ⟨⟨nI nk, (), rfl, rfl, (by rw [ht]; exact hP9), va_K.moved hW.alike hK, hD9⟩, hS.F ht⟩) hS.2.2 dX4_kindCount_9

set_option maxHeartbeats 4000000 in
set_option maxRecDepth 100000 in
theorem c_X4_size (l : Launch) (dC : Nat → ClassId) (dI : Nat → Nat → Nat) (cI cZ cJ : ClassId) (b : Nat → Nat) (tw : Int32) (nk : Nat) (pa : Nat → Int32) (nc : Nat) (fo : Nat → Int32) (th : Nat → Int32) (tg : Nat → Int32) (nt : Nat) (tb : Nat → Int32) (te : Nat → Int32) (tk : Nat → Int32) (tt : Nat → Int32) (ex : Int32) (tc : Int32) (es : Int32) (wy : Int64) (ab : Nat → Int32) (re : Nat → Int32) (go : Nat → Int32) (be : Nat → Int32) (sz : Nat) : Met l yX4_size wsX4_size ({ frames := 0, cells := 0, slots := 0, locals := 0 } : Room) (va_Pc [.ref (b 0)] (zWr (dC, dI) [(cI, .int), (cZ, .boolean), (cJ, .long)] (w4 b cI cZ tw nk pa nc fo th tg nt tb te tk tt ex tc es wy ab re go be) sz)) (va_Qi (fun (r : Int32) (_ : Unit) => r = nI nc) (fun _ t => zWo (dC, dI) [(cI, .int), (cZ, .boolean), (cJ, .long)] (w4 b cI cZ 0 nk pa nc fo th tg nt tb te tk tt ex tc es wy ab re go be) (va_A (w4 b cI cZ tw nk pa nc fo th tg nt tb te tk tt ex tc es wy ab re go be) sz) t) (va_A (w4 b cI cZ tw nk pa nc fo th tg nt tb te tk tt ex tc es wy ab re go be) sz)) 0 0 (va_A (w4 b cI cZ tw nk pa nc fo th tg nt tb te tk tt ex tc es wy ab re go be) sz) := by
  refine Met.ofW (cc := cX4_size) (maxL := 1) (ret := (some .int)) (by decide) rfl ?_
  intro p e s m args below meth c s₁ B hml hv
  obtain ⟨hav, hsz, ⟨hP, hK, hn⟩, hD0⟩ := hv
  have hx := B.exec
  have hb := B.bytes
  have hr := B.returns
  have hts := atoms_spec (ws := wsX4_size) B.pre
  have hown : s.vm.findClass RX4 = some m.cls := findClass_of_methodNamed B.named
  have hlocks := B.notSynchronized
  subst hsz
  have hD := hD0.self (sz := s.heap.size)
  generalize hAe : (va_A (w4 b cI cZ tw nk pa nc fo th tg nt tb te tk tt ex tc es wy ab re go be) s.heap.size) = A at hD ⊢
  have hA : ∀ q : Nat, s.heap.size ≤ q → A q := fun q h => by rw [← hAe]; exact Or.inr h
  have hS : va_S A s.heap s.heap [] := va_S.rf
  generalize hQ : MQ below (va_Qi (fun (r : Int32) (_ : Unit) => r = nI nc) (fun _ t => zWo (dC, dI) [(cI, .int), (cZ, .boolean), (cJ, .long)] (w4 b cI cZ 0 nk pa nc fo th tg nt tb te tk tt ex tc es wy ab re go be) A t) A) args s 0 0 A = Q
  refine W.eq (g2 := entryFrame m ([.ref (b 0)] : List Value).toArray 1) (by rw [hav]) ?_
  have hl := lv_entry ([.ref (b 0)]) (n := 1) (Nat.le_of_ble_eq_true rfl)
  rw [lg_entry_eq]
  generalize (lg_sl ([.ref (b 0)]) ++ List.replicate (1 - (lg_sl ([.ref (b 0)])).length) Slot.unset).toArray = ls at hl ⊢
  have hl : lv_has ls 1 [(0, .ref (b 0))] := hl
  obtain ⟨H, hH⟩ : ∃ H, H = s.heap := ⟨_, rfl⟩
  obtain ⟨locs, hlo⟩ : ∃ q : List Loc, q = [] := ⟨_, rfl⟩
  have hP : va_P (dC, dI) vwCl (w4 b cI cZ tw nk pa nc fo th tg nt tb te tk tt ex tc es wy ab re go be) H := by rw [hH]; exact hP
  have hS : va_S A s.heap H locs := by rw [hH, hlo]; exact hS
  refine zz_hl hH hlo ?_
  refine lv_aload_n hx hb dX4_size_0 rfl (lv_at hl 0 rfl) ?_
  refine lv_iconst (v := 0) hx hb dX4_size_1 (by decide) ?_
  refine va_put (D := (dC, dI)) (ci := 4) (v := .int 0) (ty := .int) (C := RX4) (T := TX4) (N := 20) hx hb hts (by decide +kernel) tyX4 tyX4_ok nmX4 hown hK hP hD hS 0 rfl rfl 0 (by decide) (hts (.fieldLink RX4 54 "HandlerOptimizerModel" "thrown" "I") (by decide +kernel)) (fun _ h9 => h9) rfl (by decide +kernel) rfl rfl (Nat.le_of_ble_eq_true rfl) dX4_size_2 (fun H locs hP hD hS => ?_)
  have hP : va_P (dC, dI) vwCl (w4 b cI cZ 0 nk pa nc fo th tg nt tb te tk tt ex tc es wy ab re go be) H := hP
  have hD : va_D A (w4 b cI cZ 0 nk pa nc fo th tg nt tb te tk tt ex tc es wy ab re go be) := hD
  refine lv_aload_n hx hb dX4_size_5 rfl (lv_at hl 0 rfl) ?_
  refine va_get (D := (dC, dI)) (ci := 4) (v := .int (nI nc)) (C := RX4) (T := TX4) (N := 20) hx hb hts (by decide +kernel) hown hK hP 0 rfl rfl 3 (by decide) (hts (.fieldLink RX4 61 "HandlerOptimizerModel" "size" "I") (by decide +kernel)) (fun _ h9 => h9) rfl dX4_size_6 ?_
  rw [← hQ]
  have hP9 := hP
  have hD9 := hD
  exact W.iret (v := nI nc) hx hb hr (fun t ht hW => ⟨⟨nI nc, (), rfl, rfl, (by rw [ht]; exact hP9), va_K.moved hW.alike hK, hD9⟩, hS.F ht⟩) hS.2.2 dX4_size_9

set_option maxHeartbeats 4000000 in
set_option maxRecDepth 100000 in
theorem c_X4_entryCount (l : Launch) (dC : Nat → ClassId) (dI : Nat → Nat → Nat) (cI cZ cJ : ClassId) (b : Nat → Nat) (tw : Int32) (nk : Nat) (pa : Nat → Int32) (nc : Nat) (fo : Nat → Int32) (th : Nat → Int32) (tg : Nat → Int32) (nt : Nat) (tb : Nat → Int32) (te : Nat → Int32) (tk : Nat → Int32) (tt : Nat → Int32) (ex : Int32) (tc : Int32) (es : Int32) (wy : Int64) (ab : Nat → Int32) (re : Nat → Int32) (go : Nat → Int32) (be : Nat → Int32) (sz : Nat) : Met l yX4_entryCount wsX4_entryCount ({ frames := 0, cells := 0, slots := 0, locals := 0 } : Room) (va_Pc [.ref (b 0)] (zWr (dC, dI) [(cI, .int), (cZ, .boolean), (cJ, .long)] (w4 b cI cZ tw nk pa nc fo th tg nt tb te tk tt ex tc es wy ab re go be) sz)) (va_Qi (fun (r : Int32) (_ : Unit) => r = nI nt) (fun _ t => zWo (dC, dI) [(cI, .int), (cZ, .boolean), (cJ, .long)] (w4 b cI cZ 0 nk pa nc fo th tg nt tb te tk tt ex tc es wy ab re go be) (va_A (w4 b cI cZ tw nk pa nc fo th tg nt tb te tk tt ex tc es wy ab re go be) sz) t) (va_A (w4 b cI cZ tw nk pa nc fo th tg nt tb te tk tt ex tc es wy ab re go be) sz)) 0 0 (va_A (w4 b cI cZ tw nk pa nc fo th tg nt tb te tk tt ex tc es wy ab re go be) sz) := by
  refine Met.ofW (cc := cX4_entryCount) (maxL := 1) (ret := (some .int)) (by decide) rfl ?_
  intro p e s m args below meth c s₁ B hml hv
  obtain ⟨hav, hsz, ⟨hP, hK, hn⟩, hD0⟩ := hv
  have hx := B.exec
  have hb := B.bytes
  have hr := B.returns
  have hts := atoms_spec (ws := wsX4_entryCount) B.pre
  have hown : s.vm.findClass RX4 = some m.cls := findClass_of_methodNamed B.named
  have hlocks := B.notSynchronized
  subst hsz
  have hD := hD0.self (sz := s.heap.size)
  generalize hAe : (va_A (w4 b cI cZ tw nk pa nc fo th tg nt tb te tk tt ex tc es wy ab re go be) s.heap.size) = A at hD ⊢
  have hA : ∀ q : Nat, s.heap.size ≤ q → A q := fun q h => by rw [← hAe]; exact Or.inr h
  have hS : va_S A s.heap s.heap [] := va_S.rf
  generalize hQ : MQ below (va_Qi (fun (r : Int32) (_ : Unit) => r = nI nt) (fun _ t => zWo (dC, dI) [(cI, .int), (cZ, .boolean), (cJ, .long)] (w4 b cI cZ 0 nk pa nc fo th tg nt tb te tk tt ex tc es wy ab re go be) A t) A) args s 0 0 A = Q
  refine W.eq (g2 := entryFrame m ([.ref (b 0)] : List Value).toArray 1) (by rw [hav]) ?_
  have hl := lv_entry ([.ref (b 0)]) (n := 1) (Nat.le_of_ble_eq_true rfl)
  rw [lg_entry_eq]
  generalize (lg_sl ([.ref (b 0)]) ++ List.replicate (1 - (lg_sl ([.ref (b 0)])).length) Slot.unset).toArray = ls at hl ⊢
  have hl : lv_has ls 1 [(0, .ref (b 0))] := hl
  obtain ⟨H, hH⟩ : ∃ H, H = s.heap := ⟨_, rfl⟩
  obtain ⟨locs, hlo⟩ : ∃ q : List Loc, q = [] := ⟨_, rfl⟩
  have hP : va_P (dC, dI) vwCl (w4 b cI cZ tw nk pa nc fo th tg nt tb te tk tt ex tc es wy ab re go be) H := by rw [hH]; exact hP
  have hS : va_S A s.heap H locs := by rw [hH, hlo]; exact hS
  refine zz_hl hH hlo ?_
  refine lv_aload_n hx hb dX4_entryCount_0 rfl (lv_at hl 0 rfl) ?_
  refine lv_iconst (v := 0) hx hb dX4_entryCount_1 (by decide) ?_
  refine va_put (D := (dC, dI)) (ci := 4) (v := .int 0) (ty := .int) (C := RX4) (T := TX4) (N := 20) hx hb hts (by decide +kernel) tyX4 tyX4_ok nmX4 hown hK hP hD hS 0 rfl rfl 0 (by decide) (hts (.fieldLink RX4 54 "HandlerOptimizerModel" "thrown" "I") (by decide +kernel)) (fun _ h9 => h9) rfl (by decide +kernel) rfl rfl (Nat.le_of_ble_eq_true rfl) dX4_entryCount_2 (fun H locs hP hD hS => ?_)
  have hP : va_P (dC, dI) vwCl (w4 b cI cZ 0 nk pa nc fo th tg nt tb te tk tt ex tc es wy ab re go be) H := hP
  have hD : va_D A (w4 b cI cZ 0 nk pa nc fo th tg nt tb te tk tt ex tc es wy ab re go be) := hD
  refine lv_aload_n hx hb dX4_entryCount_5 rfl (lv_at hl 0 rfl) ?_
  refine va_get (D := (dC, dI)) (ci := 4) (v := .int (nI nt)) (C := RX4) (T := TX4) (N := 20) hx hb hts (by decide +kernel) hown hK hP 0 rfl rfl 7 (by decide) (hts (.fieldLink RX4 64 "HandlerOptimizerModel" "entries" "I") (by decide +kernel)) (fun _ h9 => h9) rfl dX4_entryCount_6 ?_
  rw [← hQ]
  have hP9 := hP
  have hD9 := hD
  exact W.iret (v := nI nt) hx hb hr (fun t ht hW => ⟨⟨nI nt, (), rfl, rfl, (by rw [ht]; exact hP9), va_K.moved hW.alike hK, hD9⟩, hS.F ht⟩) hS.2.2 dX4_entryCount_9

set_option maxHeartbeats 4000000 in
set_option maxRecDepth 100000 in
theorem c_X4_executed (l : Launch) (dC : Nat → ClassId) (dI : Nat → Nat → Nat) (cI cZ cJ : ClassId) (b : Nat → Nat) (tw : Int32) (nk : Nat) (pa : Nat → Int32) (nc : Nat) (fo : Nat → Int32) (th : Nat → Int32) (tg : Nat → Int32) (nt : Nat) (tb : Nat → Int32) (te : Nat → Int32) (tk : Nat → Int32) (tt : Nat → Int32) (ex : Int32) (tc : Int32) (es : Int32) (wy : Int64) (ab : Nat → Int32) (re : Nat → Int32) (go : Nat → Int32) (be : Nat → Int32) (sz : Nat) : Met l yX4_executed wsX4_executed ({ frames := 0, cells := 0, slots := 0, locals := 0 } : Room) (va_Pc [.ref (b 0)] (zWr (dC, dI) [(cI, .int), (cZ, .boolean), (cJ, .long)] (w4 b cI cZ tw nk pa nc fo th tg nt tb te tk tt ex tc es wy ab re go be) sz)) (va_Qi (fun (r : Int32) (_ : Unit) => r = ex) (fun _ t => zWo (dC, dI) [(cI, .int), (cZ, .boolean), (cJ, .long)] (w4 b cI cZ 0 nk pa nc fo th tg nt tb te tk tt ex tc es wy ab re go be) (va_A (w4 b cI cZ tw nk pa nc fo th tg nt tb te tk tt ex tc es wy ab re go be) sz) t) (va_A (w4 b cI cZ tw nk pa nc fo th tg nt tb te tk tt ex tc es wy ab re go be) sz)) 0 0 (va_A (w4 b cI cZ tw nk pa nc fo th tg nt tb te tk tt ex tc es wy ab re go be) sz) := by
  refine Met.ofW (cc := cX4_executed) (maxL := 1) (ret := (some .int)) (by decide) rfl ?_
  intro p e s m args below meth c s₁ B hml hv
  obtain ⟨hav, hsz, ⟨hP, hK, hn⟩, hD0⟩ := hv
  have hx := B.exec
  have hb := B.bytes
  have hr := B.returns
  have hts := atoms_spec (ws := wsX4_executed) B.pre
  have hown : s.vm.findClass RX4 = some m.cls := findClass_of_methodNamed B.named
  have hlocks := B.notSynchronized
  subst hsz
  have hD := hD0.self (sz := s.heap.size)
  generalize hAe : (va_A (w4 b cI cZ tw nk pa nc fo th tg nt tb te tk tt ex tc es wy ab re go be) s.heap.size) = A at hD ⊢
  have hA : ∀ q : Nat, s.heap.size ≤ q → A q := fun q h => by rw [← hAe]; exact Or.inr h
  have hS : va_S A s.heap s.heap [] := va_S.rf
  generalize hQ : MQ below (va_Qi (fun (r : Int32) (_ : Unit) => r = ex) (fun _ t => zWo (dC, dI) [(cI, .int), (cZ, .boolean), (cJ, .long)] (w4 b cI cZ 0 nk pa nc fo th tg nt tb te tk tt ex tc es wy ab re go be) A t) A) args s 0 0 A = Q
  refine W.eq (g2 := entryFrame m ([.ref (b 0)] : List Value).toArray 1) (by rw [hav]) ?_
  have hl := lv_entry ([.ref (b 0)]) (n := 1) (Nat.le_of_ble_eq_true rfl)
  rw [lg_entry_eq]
  generalize (lg_sl ([.ref (b 0)]) ++ List.replicate (1 - (lg_sl ([.ref (b 0)])).length) Slot.unset).toArray = ls at hl ⊢
  have hl : lv_has ls 1 [(0, .ref (b 0))] := hl
  obtain ⟨H, hH⟩ : ∃ H, H = s.heap := ⟨_, rfl⟩
  obtain ⟨locs, hlo⟩ : ∃ q : List Loc, q = [] := ⟨_, rfl⟩
  have hP : va_P (dC, dI) vwCl (w4 b cI cZ tw nk pa nc fo th tg nt tb te tk tt ex tc es wy ab re go be) H := by rw [hH]; exact hP
  have hS : va_S A s.heap H locs := by rw [hH, hlo]; exact hS
  refine zz_hl hH hlo ?_
  refine lv_aload_n hx hb dX4_executed_0 rfl (lv_at hl 0 rfl) ?_
  refine lv_iconst (v := 0) hx hb dX4_executed_1 (by decide) ?_
  refine va_put (D := (dC, dI)) (ci := 4) (v := .int 0) (ty := .int) (C := RX4) (T := TX4) (N := 20) hx hb hts (by decide +kernel) tyX4 tyX4_ok nmX4 hown hK hP hD hS 0 rfl rfl 0 (by decide) (hts (.fieldLink RX4 54 "HandlerOptimizerModel" "thrown" "I") (by decide +kernel)) (fun _ h9 => h9) rfl (by decide +kernel) rfl rfl (Nat.le_of_ble_eq_true rfl) dX4_executed_2 (fun H locs hP hD hS => ?_)
  have hP : va_P (dC, dI) vwCl (w4 b cI cZ 0 nk pa nc fo th tg nt tb te tk tt ex tc es wy ab re go be) H := hP
  have hD : va_D A (w4 b cI cZ 0 nk pa nc fo th tg nt tb te tk tt ex tc es wy ab re go be) := hD
  refine lv_aload_n hx hb dX4_executed_5 rfl (lv_at hl 0 rfl) ?_
  refine va_get (D := (dC, dI)) (ci := 4) (v := .int ex) (C := RX4) (T := TX4) (N := 20) hx hb hts (by decide +kernel) hown hK hP 0 rfl rfl 12 (by decide) (hts (.fieldLink RX4 156 "HandlerOptimizerModel" "executed" "I") (by decide +kernel)) (fun _ h9 => h9) rfl dX4_executed_6 ?_
  rw [← hQ]
  have hP9 := hP
  have hD9 := hD
  exact W.iret (v := ex) hx hb hr (fun t ht hW => ⟨⟨ex, (), rfl, rfl, (by rw [ht]; exact hP9), va_K.moved hW.alike hK, hD9⟩, hS.F ht⟩) hS.2.2 dX4_executed_9

set_option maxHeartbeats 4000000 in
set_option maxRecDepth 100000 in
theorem c_X4_taken (l : Launch) (dC : Nat → ClassId) (dI : Nat → Nat → Nat) (cI cZ cJ : ClassId) (b : Nat → Nat) (tw : Int32) (nk : Nat) (pa : Nat → Int32) (nc : Nat) (fo : Nat → Int32) (th : Nat → Int32) (tg : Nat → Int32) (nt : Nat) (tb : Nat → Int32) (te : Nat → Int32) (tk : Nat → Int32) (tt : Nat → Int32) (ex : Int32) (tc : Int32) (es : Int32) (wy : Int64) (ab : Nat → Int32) (re : Nat → Int32) (go : Nat → Int32) (be : Nat → Int32) (sz : Nat) : Met l yX4_taken wsX4_taken ({ frames := 0, cells := 0, slots := 0, locals := 0 } : Room) (va_Pc [.ref (b 0)] (zWr (dC, dI) [(cI, .int), (cZ, .boolean), (cJ, .long)] (w4 b cI cZ tw nk pa nc fo th tg nt tb te tk tt ex tc es wy ab re go be) sz)) (va_Qi (fun (r : Int32) (_ : Unit) => r = tc) (fun _ t => zWo (dC, dI) [(cI, .int), (cZ, .boolean), (cJ, .long)] (w4 b cI cZ 0 nk pa nc fo th tg nt tb te tk tt ex tc es wy ab re go be) (va_A (w4 b cI cZ tw nk pa nc fo th tg nt tb te tk tt ex tc es wy ab re go be) sz) t) (va_A (w4 b cI cZ tw nk pa nc fo th tg nt tb te tk tt ex tc es wy ab re go be) sz)) 0 0 (va_A (w4 b cI cZ tw nk pa nc fo th tg nt tb te tk tt ex tc es wy ab re go be) sz) := by
  refine Met.ofW (cc := cX4_taken) (maxL := 1) (ret := (some .int)) (by decide) rfl ?_
  intro p e s m args below meth c s₁ B hml hv
  obtain ⟨hav, hsz, ⟨hP, hK, hn⟩, hD0⟩ := hv
  have hx := B.exec
  have hb := B.bytes
  have hr := B.returns
  have hts := atoms_spec (ws := wsX4_taken) B.pre
  have hown : s.vm.findClass RX4 = some m.cls := findClass_of_methodNamed B.named
  have hlocks := B.notSynchronized
  subst hsz
  have hD := hD0.self (sz := s.heap.size)
  generalize hAe : (va_A (w4 b cI cZ tw nk pa nc fo th tg nt tb te tk tt ex tc es wy ab re go be) s.heap.size) = A at hD ⊢
  have hA : ∀ q : Nat, s.heap.size ≤ q → A q := fun q h => by rw [← hAe]; exact Or.inr h
  have hS : va_S A s.heap s.heap [] := va_S.rf
  generalize hQ : MQ below (va_Qi (fun (r : Int32) (_ : Unit) => r = tc) (fun _ t => zWo (dC, dI) [(cI, .int), (cZ, .boolean), (cJ, .long)] (w4 b cI cZ 0 nk pa nc fo th tg nt tb te tk tt ex tc es wy ab re go be) A t) A) args s 0 0 A = Q
  refine W.eq (g2 := entryFrame m ([.ref (b 0)] : List Value).toArray 1) (by rw [hav]) ?_
  have hl := lv_entry ([.ref (b 0)]) (n := 1) (Nat.le_of_ble_eq_true rfl)
  rw [lg_entry_eq]
  generalize (lg_sl ([.ref (b 0)]) ++ List.replicate (1 - (lg_sl ([.ref (b 0)])).length) Slot.unset).toArray = ls at hl ⊢
  have hl : lv_has ls 1 [(0, .ref (b 0))] := hl
  obtain ⟨H, hH⟩ : ∃ H, H = s.heap := ⟨_, rfl⟩
  obtain ⟨locs, hlo⟩ : ∃ q : List Loc, q = [] := ⟨_, rfl⟩
  have hP : va_P (dC, dI) vwCl (w4 b cI cZ tw nk pa nc fo th tg nt tb te tk tt ex tc es wy ab re go be) H := by rw [hH]; exact hP
  have hS : va_S A s.heap H locs := by rw [hH, hlo]; exact hS
  refine zz_hl hH hlo ?_
  refine lv_aload_n hx hb dX4_taken_0 rfl (lv_at hl 0 rfl) ?_
  refine lv_iconst (v := 0) hx hb dX4_taken_1 (by decide) ?_
  refine va_put (D := (dC, dI)) (ci := 4) (v := .int 0) (ty := .int) (C := RX4) (T := TX4) (N := 20) hx hb hts (by decide +kernel) tyX4 tyX4_ok nmX4 hown hK hP hD hS 0 rfl rfl 0 (by decide) (hts (.fieldLink RX4 54 "HandlerOptimizerModel" "thrown" "I") (by decide +kernel)) (fun _ h9 => h9) rfl (by decide +kernel) rfl rfl (Nat.le_of_ble_eq_true rfl) dX4_taken_2 (fun H locs hP hD hS => ?_)
  have hP : va_P (dC, dI) vwCl (w4 b cI cZ 0 nk pa nc fo th tg nt tb te tk tt ex tc es wy ab re go be) H := hP
  have hD : va_D A (w4 b cI cZ 0 nk pa nc fo th tg nt tb te tk tt ex tc es wy ab re go be) := hD
  refine lv_aload_n hx hb dX4_taken_5 rfl (lv_at hl 0 rfl) ?_
  refine va_get (D := (dC, dI)) (ci := 4) (v := .int tc) (C := RX4) (T := TX4) (N := 20) hx hb hts (by decide +kernel) hown hK hP 0 rfl rfl 13 (by decide) (hts (.fieldLink RX4 159 "HandlerOptimizerModel" "taken" "I") (by decide +kernel)) (fun _ h9 => h9) rfl dX4_taken_6 ?_
  rw [← hQ]
  have hP9 := hP
  have hD9 := hD
  exact W.iret (v := tc) hx hb hr (fun t ht hW => ⟨⟨tc, (), rfl, rfl, (by rw [ht]; exact hP9), va_K.moved hW.alike hK, hD9⟩, hS.F ht⟩) hS.2.2 dX4_taken_9

set_option maxHeartbeats 4000000 in
set_option maxRecDepth 100000 in
theorem c_X4_escaped (l : Launch) (dC : Nat → ClassId) (dI : Nat → Nat → Nat) (cI cZ cJ : ClassId) (b : Nat → Nat) (tw : Int32) (nk : Nat) (pa : Nat → Int32) (nc : Nat) (fo : Nat → Int32) (th : Nat → Int32) (tg : Nat → Int32) (nt : Nat) (tb : Nat → Int32) (te : Nat → Int32) (tk : Nat → Int32) (tt : Nat → Int32) (ex : Int32) (tc : Int32) (es : Int32) (wy : Int64) (ab : Nat → Int32) (re : Nat → Int32) (go : Nat → Int32) (be : Nat → Int32) (sz : Nat) : Met l yX4_escaped wsX4_escaped ({ frames := 0, cells := 0, slots := 0, locals := 0 } : Room) (va_Pc [.ref (b 0)] (zWr (dC, dI) [(cI, .int), (cZ, .boolean), (cJ, .long)] (w4 b cI cZ tw nk pa nc fo th tg nt tb te tk tt ex tc es wy ab re go be) sz)) (va_Qi (fun (r : Int32) (_ : Unit) => r = es) (fun _ t => zWo (dC, dI) [(cI, .int), (cZ, .boolean), (cJ, .long)] (w4 b cI cZ 0 nk pa nc fo th tg nt tb te tk tt ex tc es wy ab re go be) (va_A (w4 b cI cZ tw nk pa nc fo th tg nt tb te tk tt ex tc es wy ab re go be) sz) t) (va_A (w4 b cI cZ tw nk pa nc fo th tg nt tb te tk tt ex tc es wy ab re go be) sz)) 0 0 (va_A (w4 b cI cZ tw nk pa nc fo th tg nt tb te tk tt ex tc es wy ab re go be) sz) := by
  refine Met.ofW (cc := cX4_escaped) (maxL := 1) (ret := (some .int)) (by decide) rfl ?_
  intro p e s m args below meth c s₁ B hml hv
  obtain ⟨hav, hsz, ⟨hP, hK, hn⟩, hD0⟩ := hv
  have hx := B.exec
  have hb := B.bytes
  have hr := B.returns
  have hts := atoms_spec (ws := wsX4_escaped) B.pre
  have hown : s.vm.findClass RX4 = some m.cls := findClass_of_methodNamed B.named
  have hlocks := B.notSynchronized
  subst hsz
  have hD := hD0.self (sz := s.heap.size)
  generalize hAe : (va_A (w4 b cI cZ tw nk pa nc fo th tg nt tb te tk tt ex tc es wy ab re go be) s.heap.size) = A at hD ⊢
  have hA : ∀ q : Nat, s.heap.size ≤ q → A q := fun q h => by rw [← hAe]; exact Or.inr h
  have hS : va_S A s.heap s.heap [] := va_S.rf
  generalize hQ : MQ below (va_Qi (fun (r : Int32) (_ : Unit) => r = es) (fun _ t => zWo (dC, dI) [(cI, .int), (cZ, .boolean), (cJ, .long)] (w4 b cI cZ 0 nk pa nc fo th tg nt tb te tk tt ex tc es wy ab re go be) A t) A) args s 0 0 A = Q
  refine W.eq (g2 := entryFrame m ([.ref (b 0)] : List Value).toArray 1) (by rw [hav]) ?_
  have hl := lv_entry ([.ref (b 0)]) (n := 1) (Nat.le_of_ble_eq_true rfl)
  rw [lg_entry_eq]
  generalize (lg_sl ([.ref (b 0)]) ++ List.replicate (1 - (lg_sl ([.ref (b 0)])).length) Slot.unset).toArray = ls at hl ⊢
  have hl : lv_has ls 1 [(0, .ref (b 0))] := hl
  obtain ⟨H, hH⟩ : ∃ H, H = s.heap := ⟨_, rfl⟩
  obtain ⟨locs, hlo⟩ : ∃ q : List Loc, q = [] := ⟨_, rfl⟩
  have hP : va_P (dC, dI) vwCl (w4 b cI cZ tw nk pa nc fo th tg nt tb te tk tt ex tc es wy ab re go be) H := by rw [hH]; exact hP
  have hS : va_S A s.heap H locs := by rw [hH, hlo]; exact hS
  refine zz_hl hH hlo ?_
  refine lv_aload_n hx hb dX4_escaped_0 rfl (lv_at hl 0 rfl) ?_
  refine lv_iconst (v := 0) hx hb dX4_escaped_1 (by decide) ?_
  refine va_put (D := (dC, dI)) (ci := 4) (v := .int 0) (ty := .int) (C := RX4) (T := TX4) (N := 20) hx hb hts (by decide +kernel) tyX4 tyX4_ok nmX4 hown hK hP hD hS 0 rfl rfl 0 (by decide) (hts (.fieldLink RX4 54 "HandlerOptimizerModel" "thrown" "I") (by decide +kernel)) (fun _ h9 => h9) rfl (by decide +kernel) rfl rfl (Nat.le_of_ble_eq_true rfl) dX4_escaped_2 (fun H locs hP hD hS => ?_)
  have hP : va_P (dC, dI) vwCl (w4 b cI cZ 0 nk pa nc fo th tg nt tb te tk tt ex tc es wy ab re go be) H := hP
  have hD : va_D A (w4 b cI cZ 0 nk pa nc fo th tg nt tb te tk tt ex tc es wy ab re go be) := hD
  refine lv_aload_n hx hb dX4_escaped_5 rfl (lv_at hl 0 rfl) ?_
  refine va_get (D := (dC, dI)) (ci := 4) (v := .int es) (C := RX4) (T := TX4) (N := 20) hx hb hts (by decide +kernel) hown hK hP 0 rfl rfl 14 (by decide) (hts (.fieldLink RX4 38 "HandlerOptimizerModel" "escaped" "I") (by decide +kernel)) (fun _ h9 => h9) rfl dX4_escaped_6 ?_
  rw [← hQ]
  have hP9 := hP
  have hD9 := hD
  exact W.iret (v := es) hx hb hr (fun t ht hW => ⟨⟨es, (), rfl, rfl, (by rw [ht]; exact hP9), va_K.moved hW.alike hK, hD9⟩, hS.F ht⟩) hS.2.2 dX4_escaped_9

set_option maxHeartbeats 4000000 in
set_option maxRecDepth 100000 in
theorem c_X4_way (l : Launch) (dC : Nat → ClassId) (dI : Nat → Nat → Nat) (cI cZ cJ : ClassId) (b : Nat → Nat) (tw : Int32) (nk : Nat) (pa : Nat → Int32) (nc : Nat) (fo : Nat → Int32) (th : Nat → Int32) (tg : Nat → Int32) (nt : Nat) (tb : Nat → Int32) (te : Nat → Int32) (tk : Nat → Int32) (tt : Nat → Int32) (ex : Int32) (tc : Int32) (es : Int32) (wy : Int64) (ab : Nat → Int32) (re : Nat → Int32) (go : Nat → Int32) (be : Nat → Int32) (sz : Nat) : Met l yX4_way wsX4_way ({ frames := 0, cells := 0, slots := 0, locals := 0 } : Room) (va_Pc [.ref (b 0)] (zWr (dC, dI) [(cI, .int), (cZ, .boolean), (cJ, .long)] (w4 b cI cZ tw nk pa nc fo th tg nt tb te tk tt ex tc es wy ab re go be) sz)) (va_Ql (fun (r : Int64) (_ : Unit) => r = wy) (fun _ t => zWo (dC, dI) [(cI, .int), (cZ, .boolean), (cJ, .long)] (w4 b cI cZ 0 nk pa nc fo th tg nt tb te tk tt ex tc es wy ab re go be) (va_A (w4 b cI cZ tw nk pa nc fo th tg nt tb te tk tt ex tc es wy ab re go be) sz) t) (va_A (w4 b cI cZ tw nk pa nc fo th tg nt tb te tk tt ex tc es wy ab re go be) sz)) 0 0 (va_A (w4 b cI cZ tw nk pa nc fo th tg nt tb te tk tt ex tc es wy ab re go be) sz) := by
  refine Met.ofW (cc := cX4_way) (maxL := 1) (ret := (some .long)) (by decide) rfl ?_
  intro p e s m args below meth c s₁ B hml hv
  obtain ⟨hav, hsz, ⟨hP, hK, hn⟩, hD0⟩ := hv
  have hx := B.exec
  have hb := B.bytes
  have hr := B.returns
  have hts := atoms_spec (ws := wsX4_way) B.pre
  have hown : s.vm.findClass RX4 = some m.cls := findClass_of_methodNamed B.named
  have hlocks := B.notSynchronized
  subst hsz
  have hD := hD0.self (sz := s.heap.size)
  generalize hAe : (va_A (w4 b cI cZ tw nk pa nc fo th tg nt tb te tk tt ex tc es wy ab re go be) s.heap.size) = A at hD ⊢
  have hA : ∀ q : Nat, s.heap.size ≤ q → A q := fun q h => by rw [← hAe]; exact Or.inr h
  have hS : va_S A s.heap s.heap [] := va_S.rf
  generalize hQ : MQ below (va_Ql (fun (r : Int64) (_ : Unit) => r = wy) (fun _ t => zWo (dC, dI) [(cI, .int), (cZ, .boolean), (cJ, .long)] (w4 b cI cZ 0 nk pa nc fo th tg nt tb te tk tt ex tc es wy ab re go be) A t) A) args s 0 0 A = Q
  refine W.eq (g2 := entryFrame m ([.ref (b 0)] : List Value).toArray 1) (by rw [hav]) ?_
  have hl := lv_entry ([.ref (b 0)]) (n := 1) (Nat.le_of_ble_eq_true rfl)
  rw [lg_entry_eq]
  generalize (lg_sl ([.ref (b 0)]) ++ List.replicate (1 - (lg_sl ([.ref (b 0)])).length) Slot.unset).toArray = ls at hl ⊢
  have hl : lv_has ls 1 [(0, .ref (b 0))] := hl
  obtain ⟨H, hH⟩ : ∃ H, H = s.heap := ⟨_, rfl⟩
  obtain ⟨locs, hlo⟩ : ∃ q : List Loc, q = [] := ⟨_, rfl⟩
  have hP : va_P (dC, dI) vwCl (w4 b cI cZ tw nk pa nc fo th tg nt tb te tk tt ex tc es wy ab re go be) H := by rw [hH]; exact hP
  have hS : va_S A s.heap H locs := by rw [hH, hlo]; exact hS
  refine zz_hl hH hlo ?_
  refine lv_aload_n hx hb dX4_way_0 rfl (lv_at hl 0 rfl) ?_
  refine lv_iconst (v := 0) hx hb dX4_way_1 (by decide) ?_
  refine va_put (D := (dC, dI)) (ci := 4) (v := .int 0) (ty := .int) (C := RX4) (T := TX4) (N := 20) hx hb hts (by decide +kernel) tyX4 tyX4_ok nmX4 hown hK hP hD hS 0 rfl rfl 0 (by decide) (hts (.fieldLink RX4 54 "HandlerOptimizerModel" "thrown" "I") (by decide +kernel)) (fun _ h9 => h9) rfl (by decide +kernel) rfl rfl (Nat.le_of_ble_eq_true rfl) dX4_way_2 (fun H locs hP hD hS => ?_)
  have hP : va_P (dC, dI) vwCl (w4 b cI cZ 0 nk pa nc fo th tg nt tb te tk tt ex tc es wy ab re go be) H := hP
  have hD : va_D A (w4 b cI cZ 0 nk pa nc fo th tg nt tb te tk tt ex tc es wy ab re go be) := hD
  refine lv_aload_n hx hb dX4_way_5 rfl (lv_at hl 0 rfl) ?_
  refine va_get (D := (dC, dI)) (ci := 4) (v := .long wy) (C := RX4) (T := TX4) (N := 20) hx hb hts (by decide +kernel) hown hK hP 0 rfl rfl 15 (by decide) (hts (.fieldLink RX4 164 "HandlerOptimizerModel" "way" "J") (by decide +kernel)) (fun _ h9 => h9) rfl dX4_way_6 ?_
  rw [← hQ]
  have hP9 := hP
  have hD9 := hD
  exact W.lret (v := wy) hx hb hr (fun t ht hW => ⟨⟨wy, (), rfl, rfl, (by rw [ht]; exact hP9), va_K.moved hW.alike hK, hD9⟩, hS.F ht⟩) hS.2.2 dX4_way_9

set_option maxHeartbeats 4000000 in
set_option maxRecDepth 100000 in
theorem c_X4_isBelow (l : Launch) (dC : Nat → ClassId) (dI : Nat → Nat → Nat) (cI cZ cJ : ClassId) (b : Nat → Nat) (tw : Int32) (nk : Nat) (pa : Nat → Int32) (nc : Nat) (fo : Nat → Int32) (th : Nat → Int32) (tg : Nat → Int32) (nt : Nat) (tb : Nat → Int32) (te : Nat → Int32) (tk : Nat → Int32) (tt : Nat → Int32) (ex : Int32) (tc : Int32) (es : Int32) (wy : Int64) (ab : Nat → Int32) (re : Nat → Int32) (go : Nat → Int32) (be : Nat → Int32) (x : Int32) (y : Int32) (T : Nat → Nat → Nat) (up : Nat → Nat → Bool) (sz : Nat) (hg : g4 nk ab up nt tb te tk tt T) (hc : okC nk nc fo th tg) : Met l yX4_isBelow wsX4_isBelow ({ frames := 2, cells := 0, slots := 0, locals := 43 } : Room) (va_Pc [.ref (b 0), .int x, .int y] (zWr (dC, dI) [(cI, .int), (cZ, .boolean), (cJ, .long)] (w4 b cI cZ tw nk pa nc fo th tg nt tb te tk tt ex tc es wy ab re go be) sz)) (va_Qi (fun (r : Int32) (tw9 : Int32) => ((hasI x nk && hasI y nk) = true ∧ tw9 = 0 ∧ r = bI (!decide (x = y) && up x.toNatClampNeg y.toNatClampNeg)) ∨ ((hasI x nk && hasI y nk) = false ∧ tw9 = 1)) (fun tw9 t => zWo (dC, dI) [(cI, .int), (cZ, .boolean), (cJ, .long)] (w4 b cI cZ tw9 nk pa nc fo th tg nt tb te tk tt ex tc es wy ab re go be) (va_A (w4 b cI cZ tw nk pa nc fo th tg nt tb te tk tt ex tc es wy ab re go be) sz) t) (va_A (w4 b cI cZ tw nk pa nc fo th tg nt tb te tk tt ex tc es wy ab re go be) sz)) 0 0 (va_A (w4 b cI cZ tw nk pa nc fo th tg nt tb te tk tt ex tc es wy ab re go be) sz) := by
  refine Met.ofW (cc := cX4_isBelow) (maxL := 3) (ret := (some .boolean)) (by decide) rfl ?_
  intro p e s m args below meth c s₁ B hml hv
  obtain ⟨hav, hsz, ⟨hP, hK, hn⟩, hD0⟩ := hv
  have hx := B.exec
  have hb := B.bytes
  have hr := B.returns
  have hts := atoms_spec (ws := wsX4_isBelow) B.pre
  have hown : s.vm.findClass RX4 = some m.cls := findClass_of_methodNamed B.named
  have hlocks := B.notSynchronized
  subst hsz
  have hD := hD0.self (sz := s.heap.size)
  generalize hAe : (va_A (w4 b cI cZ tw nk pa nc fo th tg nt tb te tk tt ex tc es wy ab re go be) s.heap.size) = A at hD ⊢
  have hA : ∀ q : Nat, s.heap.size ≤ q → A q := fun q h => by rw [← hAe]; exact Or.inr h
  have hS : va_S A s.heap s.heap [] := va_S.rf
  generalize hQ : MQ below (va_Qi (fun (r : Int32) (tw9 : Int32) => ((hasI x nk && hasI y nk) = true ∧ tw9 = 0 ∧ r = bI (!decide (x = y) && up x.toNatClampNeg y.toNatClampNeg)) ∨ ((hasI x nk && hasI y nk) = false ∧ tw9 = 1)) (fun tw9 t => zWo (dC, dI) [(cI, .int), (cZ, .boolean), (cJ, .long)] (w4 b cI cZ tw9 nk pa nc fo th tg nt tb te tk tt ex tc es wy ab re go be) A t) A) args s 0 0 A = Q
  refine W.eq (g2 := entryFrame m ([.ref (b 0), .int x, .int y] : List Value).toArray 3) (by rw [hav]) ?_
  have hl := lv_entry ([.ref (b 0), .int x, .int y]) (n := 3) (Nat.le_of_ble_eq_true rfl)
  rw [lg_entry_eq]
  generalize (lg_sl ([.ref (b 0), .int x, .int y]) ++ List.replicate (3 - (lg_sl ([.ref (b 0), .int x, .int y])).length) Slot.unset).toArray = ls at hl ⊢
  have hl : lv_has ls 3 [(0, .ref (b 0)), (1, .int x), (2, .int y)] := hl
  obtain ⟨H, hH⟩ : ∃ H, H = s.heap := ⟨_, rfl⟩
  obtain ⟨locs, hlo⟩ : ∃ q : List Loc, q = [] := ⟨_, rfl⟩
  have hP : va_P (dC, dI) vwCl (w4 b cI cZ tw nk pa nc fo th tg nt tb te tk tt ex tc es wy ab re go be) H := by rw [hH]; exact hP
  have hS : va_S A s.heap H locs := by rw [hH, hlo]; exact hS
  refine zz_hl hH hlo ?_
  obtain ⟨hk01, hk8, hnt, hT, hO, hF, hU⟩ := id hg
  obtain ⟨hnc, hC⟩ := id hc
  refine lv_aload_n hx hb dX4_isBelow_0 rfl (lv_at hl 0 rfl) ?_
  refine lv_aload_n hx hb dX4_isBelow_1 rfl (lv_at hl 0 rfl) ?_
  refine lv_iload_n hx hb dX4_isBelow_2 rfl (lv_at hl 1 rfl) ?_
  refine va_calli (va_runV (As := [.int x]) (rest := [.ref (b 0)]) ⟨hx, hb, hml, hown, hts⟩ (c_X4_isKind l dC dI cI cZ cJ b tw nk pa nc fo th tg nt tb te tk tt ex tc es wy ab re go be x (by omega)) (cwV 1 hts gX4_isBelow_X4_isKind rfl rfl rfl (by decide +kernel) ⟨Nat.le_of_ble_eq_true rfl, Nat.le_of_ble_eq_true rfl⟩) ⟨zPre_blind, va_recv hK hP (ci := 4) (q0 := 0) rfl rfl, zPre_at hP hK hn⟩ rfl rfl hl.1 rfl (lv_room (Nat.le_of_ble_eq_true rfl)) dX4_isBelow_3 ⟨Nat.le_of_ble_eq_true rfl, Nat.le_of_ble_eq_true rfl⟩) hS (fun _ _ h => h.elim) (fun _ h => h.elim) (fun r_1 u_9 t H locs ht hvm hw hB hz1 hk1 hS => ?_)
  have hP := zkeep hP hk1
  subst hw
  refine lv_if_eq (tgt := 21) hx hb dX4_isBelow_6 (by decide) (fun c_2 => ?_) (fun c_2 => ?_)
  · skip
    have c9 : (hasI x nk && hasI y nk) = false := by rw [zb_0.mp c_2]; rfl
    refine lv_iconst (v := 1) hx hb dX4_isBelow_21 (by decide) ?_
    refine va_put (D := (dC, dI)) (ci := 4) (v := .int 1) (ty := .int) (C := RX4) (T := TX4) (N := 20) hx hb hts (by decide +kernel) tyX4 tyX4_ok nmX4 hown hK hP hD hS 0 rfl rfl 0 (by decide) (hts (.fieldLink RX4 54 "HandlerOptimizerModel" "thrown" "I") (by decide +kernel)) (fun _ h9 => h9) rfl (by decide +kernel) rfl rfl (Nat.le_of_ble_eq_true rfl) dX4_isBelow_22 (fun H locs hP hD hS => ?_)
    have hP : va_P (dC, dI) vwCl (w4 b cI cZ 1 nk pa nc fo th tg nt tb te tk tt ex tc es wy ab re go be) H := hP
    have hD : va_D A (w4 b cI cZ 1 nk pa nc fo th tg nt tb te tk tt ex tc es wy ab re go be) := hD
    refine lv_aload_n hx hb dX4_isBelow_25 rfl (lv_at hl 0 rfl) ?_
    refine va_get (D := (dC, dI)) (ci := 4) (v := .int 1) (C := RX4) (T := TX4) (N := 20) hx hb hts (by decide +kernel) hown hK hP 0 rfl rfl 0 (by decide) (hts (.fieldLink RX4 54 "HandlerOptimizerModel" "thrown" "I") (by decide +kernel)) (fun _ h9 => h9) rfl dX4_isBelow_26 ?_
    refine lv_if_ne (tgt := 54) hx hb dX4_isBelow_29 (by decide) (fun c_3 => ?_) (fun c_3 => ?_)
    · skip
      refine lv_iconst (v := 0) hx hb dX4_isBelow_54 (by decide) ?_
      rw [← hQ]
      have hP9 := hP
      have hD9 := hD
      exact W.zret (v := 0) hx hb hr rfl (fun t ht hW => ⟨⟨0, 1, rfl, (by first | exact Or.inr ⟨c9, rfl⟩ | (refine Or.inl ⟨c9, rfl, ?_⟩; rw [nI_clamp (by omega), nI_clamp (by omega)]; simp [bI, *])), (by rw [ht]; exact hP9), va_K.moved hW.alike hK, hD9⟩, hS.F ht⟩) hS.2.2 dX4_isBelow_55
    · exact absurd c_3 (by decide)
  · skip
    have c5 := zb_1.mp c_2
    refine lv_aload_n hx hb dX4_isBelow_9 rfl (lv_at hl 0 rfl) ?_
    refine lv_iload_n hx hb dX4_isBelow_10 rfl (lv_at hl 2 rfl) ?_
    refine va_calli (va_runV (As := [.int y]) (rest := [.ref (b 0)]) ⟨hx, hb, hml, hown, hts⟩ (c_X4_isKind l dC dI cI cZ cJ b tw nk pa nc fo th tg nt tb te tk tt ex tc es wy ab re go be y (by omega)) (cwV 1 hts gX4_isBelow_X4_isKind rfl rfl rfl (by decide +kernel) ⟨Nat.le_of_ble_eq_true rfl, Nat.le_of_ble_eq_true rfl⟩) ⟨zPre_blind, va_recv hK hP (ci := 4) (q0 := 0) rfl rfl, zPre_at hP hK hn⟩ rfl rfl hl.1 rfl (lv_room (Nat.le_of_ble_eq_true rfl)) dX4_isBelow_11 ⟨Nat.le_of_ble_eq_true rfl, Nat.le_of_ble_eq_true rfl⟩) hS (fun _ _ h => h.elim) (fun _ h => h.elim) (fun r_4 u_9 t H locs ht hvm hw hB hz1 hk1 hS => ?_)
    have hP := zkeep hP hk1
    subst hw
    refine lv_if_eq (tgt := 21) hx hb dX4_isBelow_14 (by decide) (fun c_5 => ?_) (fun c_5 => ?_)
    · skip
      have c9 : (hasI x nk && hasI y nk) = false := by rw [zb_0.mp c_5]; exact Bool.and_false _
      refine lv_iconst (v := 1) hx hb dX4_isBelow_21 (by decide) ?_
      refine va_put (D := (dC, dI)) (ci := 4) (v := .int 1) (ty := .int) (C := RX4) (T := TX4) (N := 20) hx hb hts (by decide +kernel) tyX4 tyX4_ok nmX4 hown hK hP hD hS 0 rfl rfl 0 (by decide) (hts (.fieldLink RX4 54 "HandlerOptimizerModel" "thrown" "I") (by decide +kernel)) (fun _ h9 => h9) rfl (by decide +kernel) rfl rfl (Nat.le_of_ble_eq_true rfl) dX4_isBelow_22 (fun H locs hP hD hS => ?_)
      have hP : va_P (dC, dI) vwCl (w4 b cI cZ 1 nk pa nc fo th tg nt tb te tk tt ex tc es wy ab re go be) H := hP
      have hD : va_D A (w4 b cI cZ 1 nk pa nc fo th tg nt tb te tk tt ex tc es wy ab re go be) := hD
      refine lv_aload_n hx hb dX4_isBelow_25 rfl (lv_at hl 0 rfl) ?_
      refine va_get (D := (dC, dI)) (ci := 4) (v := .int 1) (C := RX4) (T := TX4) (N := 20) hx hb hts (by decide +kernel) hown hK hP 0 rfl rfl 0 (by decide) (hts (.fieldLink RX4 54 "HandlerOptimizerModel" "thrown" "I") (by decide +kernel)) (fun _ h9 => h9) rfl dX4_isBelow_26 ?_
      refine lv_if_ne (tgt := 54) hx hb dX4_isBelow_29 (by decide) (fun c_6 => ?_) (fun c_6 => ?_)
      · skip
        refine lv_iconst (v := 0) hx hb dX4_isBelow_54 (by decide) ?_
        rw [← hQ]
        have hP9 := hP
        have hD9 := hD
        exact W.zret (v := 0) hx hb hr rfl (fun t ht hW => ⟨⟨0, 1, rfl, (by first | exact Or.inr ⟨c9, rfl⟩ | (refine Or.inl ⟨c9, rfl, ?_⟩; rw [nI_clamp (by omega), nI_clamp (by omega)]; simp [bI, *])), (by rw [ht]; exact hP9), va_K.moved hW.alike hK, hD9⟩, hS.F ht⟩) hS.2.2 dX4_isBelow_55
      · exact absurd c_6 (by decide)
    · skip
      have c6 := zb_1.mp c_5
      have c9 : (hasI x nk && hasI y nk) = true := by rw [c5, c6]; rfl
      obtain ⟨i, hi, rfl⟩ := hasI_at (by omega) c5
      obtain ⟨j, hj, rfl⟩ := hasI_at (by omega) c6
      refine lv_iconst (v := 0) hx hb dX4_isBelow_17 (by decide) ?_
      refine lv_goto (tgt := 22) hx hb dX4_isBelow_18 (by decide) ?_
      refine va_put (D := (dC, dI)) (ci := 4) (v := .int 0) (ty := .int) (C := RX4) (T := TX4) (N := 20) hx hb hts (by decide +kernel) tyX4 tyX4_ok nmX4 hown hK hP hD hS 0 rfl rfl 0 (by decide) (hts (.fieldLink RX4 54 "HandlerOptimizerModel" "thrown" "I") (by decide +kernel)) (fun _ h9 => h9) rfl (by decide +kernel) rfl rfl (Nat.le_of_ble_eq_true rfl) dX4_isBelow_22 (fun H locs hP hD hS => ?_)
      have hP : va_P (dC, dI) vwCl (w4 b cI cZ 0 nk pa nc fo th tg nt tb te tk tt ex tc es wy ab re go be) H := hP
      have hD : va_D A (w4 b cI cZ 0 nk pa nc fo th tg nt tb te tk tt ex tc es wy ab re go be) := hD
      refine lv_aload_n hx hb dX4_isBelow_25 rfl (lv_at hl 0 rfl) ?_
      refine va_get (D := (dC, dI)) (ci := 4) (v := .int 0) (C := RX4) (T := TX4) (N := 20) hx hb hts (by decide +kernel) hown hK hP 0 rfl rfl 0 (by decide) (hts (.fieldLink RX4 54 "HandlerOptimizerModel" "thrown" "I") (by decide +kernel)) (fun _ h9 => h9) rfl dX4_isBelow_26 ?_
      refine lv_if_ne (tgt := 54) hx hb dX4_isBelow_29 (by decide) (fun c_7 => ?_) (fun c_7 => ?_)
      · exact absurd c_7 (by decide)
      · skip
        refine lv_iload_n hx hb dX4_isBelow_32 rfl (lv_at hl 1 rfl) ?_
        refine lv_iload_n hx hb dX4_isBelow_33 rfl (lv_at hl 2 rfl) ?_
        refine lv_icmp_eq (tgt := 54) hx hb dX4_isBelow_34 (by decide) (fun c_8 => ?_) (fun c_8 => ?_)
        · skip
          have c_8 := (zz_eqt (a := i) (b := j) (by omega) (by omega)).mp c_8
          refine lv_iconst (v := 0) hx hb dX4_isBelow_54 (by decide) ?_
          rw [← hQ]
          have hP9 := hP
          have hD9 := hD
          exact W.zret (v := 0) hx hb hr rfl (fun t ht hW => ⟨⟨0, 0, rfl, (by first | exact Or.inr ⟨c9, rfl⟩ | (refine Or.inl ⟨c9, rfl, ?_⟩; rw [nI_clamp (by omega), nI_clamp (by omega)]; simp [bI, *])), (by rw [ht]; exact hP9), va_K.moved hW.alike hK, hD9⟩, hS.F ht⟩) hS.2.2 dX4_isBelow_55
        · skip
          have c_8 := (zz_eqf (a := i) (b := j) (by omega) (by omega)).mp c_8
          refine lv_aload_n hx hb dX4_isBelow_37 rfl (lv_at hl 0 rfl) ?_
          refine va_get (D := (dC, dI)) (ci := 4) (v := .ref (b 9)) (C := RX4) (T := TX4) (N := 20) hx hb hts (by decide +kernel) hown hK hP 0 rfl rfl 16 (by decide) (hts (.fieldLink RX4 41 "HandlerOptimizerModel" "aboves" "[I") (by decide +kernel)) (fun _ h9 => h9) rfl dX4_isBelow_38 ?_
          refine lv_iload_n hx hb dX4_isBelow_41 rfl (lv_at hl 1 rfl) ?_
          refine va_iald hx hb hK hP 9 0 rfl rfl (vp_in_nI (n := i) (by omega) (by decide)) dX4_isBelow_42 ?_
          refine zz_top (y := ab i) (congrArg _ (nI_clamp (by omega))) ?_
          refine lv_iload_n hx hb dX4_isBelow_43 rfl (lv_at hl 2 rfl) ?_
          have hPc : va_P (dC, dI) vwCl [] H := fun k q h => by simp at h
          refine va_calli (va_runS (As := [.int (ab i), .int (nI j)]) (rest := []) ⟨hx, hb, hml, hown, hts⟩ (c_X4_has l dC dI cI cZ cJ (ab i) j (by omega)) (va_cwS 2 hts gX4_isBelow_X4_has rfl rfl rfl (by decide +kernel) ⟨Nat.le_of_ble_eq_true rfl, Nat.le_of_ble_eq_true rfl⟩) ⟨zPre_blind, zPre_at hPc hK hn⟩ rfl rfl hl.1 rfl (lv_room (Nat.le_of_ble_eq_true rfl)) dX4_isBelow_44 ⟨Nat.le_of_ble_eq_true rfl, Nat.le_of_ble_eq_true rfl⟩) hS (fun _ _ h => h.elim) (fun _ h => h.elim) (fun r_9 u_9 t H locs ht hvm hw hB hz1 hk1 hS => ?_)
          have hP := zkeep hP hk1
          subst hw
          refine lv_if_eq (tgt := 54) hx hb dX4_isBelow_47 (by decide) (fun c_10 => ?_) (fun c_10 => ?_)
          · skip
            have c4 := zb_0.mp c_10
            rw [hF i hi j (by omega)] at c4
            refine lv_iconst (v := 0) hx hb dX4_isBelow_54 (by decide) ?_
            rw [← hQ]
            have hP9 := hP
            have hD9 := hD
            exact W.zret (v := 0) hx hb hr rfl (fun t ht hW => ⟨⟨0, 0, rfl, (by first | exact Or.inr ⟨c9, rfl⟩ | (refine Or.inl ⟨c9, rfl, ?_⟩; rw [nI_clamp (by omega), nI_clamp (by omega)]; simp [bI, *])), (by rw [ht]; exact hP9), va_K.moved hW.alike hK, hD9⟩, hS.F ht⟩) hS.2.2 dX4_isBelow_55
          · skip
            have c4 := zb_1.mp c_10
            rw [hF i hi j (by omega)] at c4
            refine lv_iconst (v := 1) hx hb dX4_isBelow_50 (by decide) ?_
            refine lv_goto (tgt := 55) hx hb dX4_isBelow_51 (by decide) ?_
            rw [← hQ]
            have hP9 := hP
            have hD9 := hD
            exact W.zret (v := 1) hx hb hr rfl (fun t ht hW => ⟨⟨1, 0, rfl, (by first | exact Or.inr ⟨c9, rfl⟩ | (refine Or.inl ⟨c9, rfl, ?_⟩; rw [nI_clamp (by omega), nI_clamp (by omega)]; simp [bI, *])), (by rw [ht]; exact hP9), va_K.moved hW.alike hK, hD9⟩, hS.F ht⟩) hS.2.2 dX4_isBelow_55

set_option maxHeartbeats 4000000 in
set_option maxRecDepth 100000 in
theorem c_X4_lowest (l : Launch) (dC : Nat → ClassId) (dI : Nat → Nat → Nat) (cI cZ cJ : ClassId) (b : Nat → Nat) (tw : Int32) (nk : Nat) (pa : Nat → Int32) (nc : Nat) (fo : Nat → Int32) (th : Nat → Int32) (tg : Nat → Int32) (nt : Nat) (tb : Nat → Int32) (te : Nat → Int32) (tk : Nat → Int32) (tt : Nat → Int32) (ex : Int32) (tc : Int32) (es : Int32) (wy : Int64) (ab : Nat → Int32) (re : Nat → Int32) (go : Nat → Int32) (be : Nat → Int32) (x : Nat) (y : Nat) (T : Nat → Nat → Nat) (up : Nat → Nat → Bool) (hg : g4 nk ab up nt tb te tk tt T) (hc : okC nk nc fo th tg) (h1 : x < nk) (h2 : y < nk) : Met l yX4_lowest wsX4_lowest ({ frames := 1, cells := 0, slots := 0, locals := 21 } : Room) (va_Pc [.ref (b 0), .int (nI x), .int (nI y)] (zPre (dC, dI) [(cI, .int), (cZ, .boolean), (cJ, .long)] (w4 b cI cZ tw nk pa nc fo th tg nt tb te tk tt ex tc es wy ab re go be))) (va_Qi (fun (r : Int32) (_ : Unit) => r = nI (lw up nk x y)) (fun _ _ => True) (fun _ => False)) 0 0 (fun _ => False) := by
  refine Met.ofW (cc := cX4_lowest) (maxL := 6) (ret := (some .int)) (by decide) rfl ?_
  intro p e s m args below meth c s₁ B hml hv
  obtain ⟨hav, hP, hK, hn⟩ := hv
  have hx := B.exec
  have hb := B.bytes
  have hr := B.returns
  have hts := atoms_spec (ws := wsX4_lowest) B.pre
  have hown : s.vm.findClass RX4 = some m.cls := findClass_of_methodNamed B.named
  have hlocks := B.notSynchronized
  have hS : va_S (fun _ => False) s.heap s.heap [] := va_S.rf
  generalize hQ : MQ below (va_Qi (fun (r : Int32) (_ : Unit) => r = nI (lw up nk x y)) (fun _ _ => True) (fun _ => False)) args s 0 0 (fun _ => False) = Q
  refine W.eq (g2 := entryFrame m ([.ref (b 0), .int (nI x), .int (nI y)] : List Value).toArray 6) (by rw [hav]) ?_
  have hl := lv_entry ([.ref (b 0), .int (nI x), .int (nI y)]) (n := 6) (Nat.le_of_ble_eq_true rfl)
  rw [lg_entry_eq]
  generalize (lg_sl ([.ref (b 0), .int (nI x), .int (nI y)]) ++ List.replicate (6 - (lg_sl ([.ref (b 0), .int (nI x), .int (nI y)])).length) Slot.unset).toArray = ls at hl ⊢
  have hl : lv_has ls 6 [(0, .ref (b 0)), (1, .int (nI x)), (2, .int (nI y))] := hl
  obtain ⟨H, hH⟩ : ∃ H, H = s.heap := ⟨_, rfl⟩
  obtain ⟨locs, hlo⟩ : ∃ q : List Loc, q = [] := ⟨_, rfl⟩
  have hP : va_P (dC, dI) vwCl (w4 b cI cZ tw nk pa nc fo th tg nt tb te tk tt ex tc es wy ab re go be) H := by rw [hH]; exact hP
  have hS : va_S (fun _ => False) s.heap H locs := by rw [hH, hlo]; exact hS
  refine zz_hl hH hlo ?_
  obtain ⟨hk01, hk8, hnt, hT, hO, hF, hU⟩ := id hg
  obtain ⟨hnc, hC⟩ := id hc
  refine lv_aload_n hx hb dX4_lowest_0 rfl (lv_at hl 0 rfl) ?_
  refine va_get (D := (dC, dI)) (ci := 4) (v := .ref (b 9)) (C := RX4) (T := TX4) (N := 20) hx hb hts (by decide +kernel) hown hK hP 0 rfl rfl 16 (by decide) (hts (.fieldLink RX4 41 "HandlerOptimizerModel" "aboves" "[I") (by decide +kernel)) (fun _ h9 => h9) rfl dX4_lowest_1 ?_
  refine lv_iload_n hx hb dX4_lowest_4 rfl (lv_at hl 1 rfl) ?_
  refine va_iald hx hb hK hP 9 0 rfl rfl (vp_in_nI (n := x) (by omega) (by decide)) dX4_lowest_5 ?_
  refine zz_top (y := ab x) (congrArg _ (nI_clamp (by omega))) ?_
  refine lv_aload_n hx hb dX4_lowest_6 rfl (lv_at hl 0 rfl) ?_
  refine va_get (D := (dC, dI)) (ci := 4) (v := .ref (b 9)) (C := RX4) (T := TX4) (N := 20) hx hb hts (by decide +kernel) hown hK hP 0 rfl rfl 16 (by decide) (hts (.fieldLink RX4 41 "HandlerOptimizerModel" "aboves" "[I") (by decide +kernel)) (fun _ h9 => h9) rfl dX4_lowest_7 ?_
  refine lv_iload_n hx hb dX4_lowest_10 rfl (lv_at hl 2 rfl) ?_
  refine va_iald hx hb hK hP 9 0 rfl rfl (vp_in_nI (n := y) (by omega) (by decide)) dX4_lowest_11 ?_
  refine zz_top (y := ab y) (congrArg _ (nI_clamp (by omega))) ?_
  refine lv_iand hx hb dX4_lowest_12 ?_
  refine lv_istore_n (lv' := [(3, .int ((ab x) &&& (ab y))), (0, .ref (b 0)), (1, .int (nI x)), (2, .int (nI y))]) hx hb dX4_lowest_13 rfl hl (by decide) rfl (fun ls hl => ?_)
  refine lv_iconst (v := 0) hx hb dX4_lowest_14 (by decide) ?_
  refine lv_istore (lv' := [(4, .int 0), (3, .int ((ab x) &&& (ab y))), (0, .ref (b 0)), (1, .int (nI x)), (2, .int (nI y))]) hx hb dX4_lowest_15 hl (by decide) rfl (fun ls hl => ?_)
  refine lv_iconst (v := 0) hx hb dX4_lowest_17 (by decide) ?_
  refine lv_istore (lv' := [(5, .int 0), (4, .int 0), (3, .int ((ab x) &&& (ab y))), (0, .ref (b 0)), (1, .int (nI x)), (2, .int (nI y))]) hx hb dX4_lowest_18 hl (by decide) rfl (fun ls hl => ?_)
  have J_20 : ∀ (n9 : Nat) (z : Nat) (H : Heap) (locs : List Loc) (ls : Array Slot), (z ≤ nk) → nk - z < n9 → va_P (dC, dI) vwCl (w4 b cI cZ tw nk pa nc fo th tg nt tb te tk tt ex tc es wy ab re go be) H → va_S (fun _ => False) s.heap H locs → lv_has ls 6 [(0, .ref (b 0)), (3, .int (ab x &&& ab y)), (4, .int (nI (lf (fun h => up x h && up y h) z))), (5, .int (nI z))] → W p l e (headSpec wsX4_lowest ({ frames := 1, cells := 0, slots := 0, locals := 21 } : Room)).room s m args below meth c H locs 0 0 Q (F0 m 20 ls []) := by
    intro n9
    induction n9 with
    | zero => intro z H locs ls hz hmu; exact absurd hmu (Nat.not_lt_zero _)
    | succ n9 ih_20 =>
      intro z H locs ls hz hmu hP hS hl
      refine lv_iload hx hb dX4_lowest_20 (lv_at hl 3 rfl) ?_
      refine lv_aload_n hx hb dX4_lowest_22 rfl (lv_at hl 0 rfl) ?_
      refine va_get (D := (dC, dI)) (ci := 4) (v := .int (nI nk)) (C := RX4) (T := TX4) (N := 20) hx hb hts (by decide +kernel) hown hK hP 0 rfl rfl 1 (by decide) (hts (.fieldLink RX4 7 "HandlerOptimizerModel" "kinds" "I") (by decide +kernel)) (fun _ h9 => h9) rfl dX4_lowest_23 ?_
      refine lv_icmp_ge (tgt := 48) hx hb dX4_lowest_26 (by decide) (fun c_1 => ?_) (fun c_1 => ?_)
      · skip
        have c_1 := (zz_get (a := z) (b := nk) (by omega) (by omega)).mp c_1
        refine lv_iload hx hb dX4_lowest_48 (lv_at hl 2 rfl) ?_
        rw [← hQ]
        exact W.iret (v := nI (lf (fun h => up x h && up y h) z)) hx hb hr (fun t ht hW => ⟨⟨nI (lf (fun h => up x h && up y h) z), (), rfl, (by rw [show z = nk from by omega]; rfl), trivial⟩, hS.F ht⟩) hS.2.2 dX4_lowest_50
      · skip
        have c_1 := (zz_gef (a := z) (b := nk) (by omega) (by omega)).mp c_1
        refine lv_iload_n hx hb dX4_lowest_29 rfl (lv_at hl 1 rfl) ?_
        refine lv_iload hx hb dX4_lowest_30 (lv_at hl 3 rfl) ?_
        have hPc : va_P (dC, dI) vwCl [] H := fun k q h => by simp at h
        refine va_calli (va_runS (As := [.int (ab x &&& ab y), .int (nI z)]) (rest := []) ⟨hx, hb, hml, hown, hts⟩ (c_X4_has l dC dI cI cZ cJ (ab x &&& ab y) z (by omega)) (va_cwS 2 hts gX4_lowest_X4_has rfl rfl rfl (by decide +kernel) ⟨Nat.le_of_ble_eq_true rfl, Nat.le_of_ble_eq_true rfl⟩) ⟨zPre_blind, zPre_at hPc hK hn⟩ rfl rfl hl.1 rfl (lv_room (Nat.le_of_ble_eq_true rfl)) dX4_lowest_32 ⟨Nat.le_of_ble_eq_true rfl, Nat.le_of_ble_eq_true rfl⟩) hS (fun _ _ h => h.elim) (fun _ h => h.elim) (fun r_2 u_9 t H locs ht hvm hw hB hz1 hk1 hS => ?_)
        have hP := zkeep hP hk1
        subst hw
        refine lv_if_eq (tgt := 42) hx hb dX4_lowest_35 (by decide) (fun c_3 => ?_) (fun c_3 => ?_)
        · skip
          have c9 := zb_0.mp c_3
          rw [b_and, hF x h1 z (by omega), hF y h2 z (by omega)] at c9
          have e9 : lf (fun h => up x h && up y h) (z + 1) = lf (fun h => up x h && up y h) z := by rw [lf_s]; simp only [c9]; rfl
          rw [← e9] at hl
          refine lv_iinc (v := nI (z + 1)) (lv' := [(5, .int (nI (z + 1))), (0, .ref (b 0)), (3, .int (ab x &&& ab y)), (4, .int (nI (lf (fun h => up x h && up y h) (z + 1))))]) hx hb dX4_lowest_42 hl (k := 3) rfl (zz_inc z 1) (by decide) rfl (fun ls hl => ?_)
          refine lv_goto (tgt := 20) hx hb dX4_lowest_45 (by decide) ?_
          exact ih_20 (z + 1) _ _ _ (by first | assumption | omega) (by omega) hP hS (lv_sub hl [1, 2, 3, 0] rfl)
        · skip
          have c9 := zb_1.mp c_3
          rw [b_and, hF x h1 z (by omega), hF y h2 z (by omega)] at c9
          have e9 : lf (fun h => up x h && up y h) (z + 1) = z := by rw [lf_s]; simp only [c9]; rfl
          refine lv_iload hx hb dX4_lowest_38 (lv_at hl 3 rfl) ?_
          refine zz_top (y := nI (lf (fun h => up x h && up y h) (z + 1))) (by rw [e9]) ?_
          refine lv_istore (lv' := [(4, .int (nI (lf (fun h => up x h && up y h) (z + 1)))), (0, .ref (b 0)), (3, .int (ab x &&& ab y)), (5, .int (nI z))]) hx hb dX4_lowest_40 hl (by decide) rfl (fun ls hl => ?_)
          refine lv_iinc (v := nI (z + 1)) (lv' := [(5, .int (nI (z + 1))), (4, .int (nI (lf (fun h => up x h && up y h) (z + 1)))), (0, .ref (b 0)), (3, .int (ab x &&& ab y))]) hx hb dX4_lowest_42 hl (k := 3) rfl (zz_inc z 1) (by decide) rfl (fun ls hl => ?_)
          refine lv_goto (tgt := 20) hx hb dX4_lowest_45 (by decide) ?_
          exact ih_20 (z + 1) _ _ _ (by first | assumption | omega) (by omega) hP hS (lv_sub hl [2, 3, 1, 0] rfl)
  exact J_20 _ 0 _ _ _ (by first | assumption | omega) (Nat.lt_succ_self _) hP hS (lv_sub hl [3, 2, 1, 0] rfl)

set_option maxHeartbeats 4000000 in
set_option maxRecDepth 100000 in
theorem c_X4_common (l : Launch) (dC : Nat → ClassId) (dI : Nat → Nat → Nat) (cI cZ cJ : ClassId) (b : Nat → Nat) (tw : Int32) (nk : Nat) (pa : Nat → Int32) (nc : Nat) (fo : Nat → Int32) (th : Nat → Int32) (tg : Nat → Int32) (nt : Nat) (tb : Nat → Int32) (te : Nat → Int32) (tk : Nat → Int32) (tt : Nat → Int32) (ex : Int32) (tc : Int32) (es : Int32) (wy : Int64) (ab : Nat → Int32) (re : Nat → Int32) (go : Nat → Int32) (be : Nat → Int32) (x : Int32) (y : Int32) (T : Nat → Nat → Nat) (up : Nat → Nat → Bool) (sz : Nat) (hg : g4 nk ab up nt tb te tk tt T) (hc : okC nk nc fo th tg) : Met l yX4_common wsX4_common ({ frames := 2, cells := 0, slots := 0, locals := 46 } : Room) (va_Pc [.ref (b 0), .int x, .int y] (zWr (dC, dI) [(cI, .int), (cZ, .boolean), (cJ, .long)] (w4 b cI cZ tw nk pa nc fo th tg nt tb te tk tt ex tc es wy ab re go be) sz)) (va_Qi (fun (r : Int32) (tw9 : Int32) => ((hasI x nk && hasI y nk) = true ∧ tw9 = 0 ∧ r = nI (lw up nk x.toNatClampNeg y.toNatClampNeg)) ∨ ((hasI x nk && hasI y nk) = false ∧ tw9 = 1)) (fun tw9 t => zWo (dC, dI) [(cI, .int), (cZ, .boolean), (cJ, .long)] (w4 b cI cZ tw9 nk pa nc fo th tg nt tb te tk tt ex tc es wy ab re go be) (va_A (w4 b cI cZ tw nk pa nc fo th tg nt tb te tk tt ex tc es wy ab re go be) sz) t) (va_A (w4 b cI cZ tw nk pa nc fo th tg nt tb te tk tt ex tc es wy ab re go be) sz)) 0 0 (va_A (w4 b cI cZ tw nk pa nc fo th tg nt tb te tk tt ex tc es wy ab re go be) sz) := by
  refine Met.ofW (cc := cX4_common) (maxL := 3) (ret := (some .int)) (by decide) rfl ?_
  intro p e s m args below meth c s₁ B hml hv
  obtain ⟨hav, hsz, ⟨hP, hK, hn⟩, hD0⟩ := hv
  have hx := B.exec
  have hb := B.bytes
  have hr := B.returns
  have hts := atoms_spec (ws := wsX4_common) B.pre
  have hown : s.vm.findClass RX4 = some m.cls := findClass_of_methodNamed B.named
  have hlocks := B.notSynchronized
  subst hsz
  have hD := hD0.self (sz := s.heap.size)
  generalize hAe : (va_A (w4 b cI cZ tw nk pa nc fo th tg nt tb te tk tt ex tc es wy ab re go be) s.heap.size) = A at hD ⊢
  have hA : ∀ q : Nat, s.heap.size ≤ q → A q := fun q h => by rw [← hAe]; exact Or.inr h
  have hS : va_S A s.heap s.heap [] := va_S.rf
  generalize hQ : MQ below (va_Qi (fun (r : Int32) (tw9 : Int32) => ((hasI x nk && hasI y nk) = true ∧ tw9 = 0 ∧ r = nI (lw up nk x.toNatClampNeg y.toNatClampNeg)) ∨ ((hasI x nk && hasI y nk) = false ∧ tw9 = 1)) (fun tw9 t => zWo (dC, dI) [(cI, .int), (cZ, .boolean), (cJ, .long)] (w4 b cI cZ tw9 nk pa nc fo th tg nt tb te tk tt ex tc es wy ab re go be) A t) A) args s 0 0 A = Q
  refine W.eq (g2 := entryFrame m ([.ref (b 0), .int x, .int y] : List Value).toArray 3) (by rw [hav]) ?_
  have hl := lv_entry ([.ref (b 0), .int x, .int y]) (n := 3) (Nat.le_of_ble_eq_true rfl)
  rw [lg_entry_eq]
  generalize (lg_sl ([.ref (b 0), .int x, .int y]) ++ List.replicate (3 - (lg_sl ([.ref (b 0), .int x, .int y])).length) Slot.unset).toArray = ls at hl ⊢
  have hl : lv_has ls 3 [(0, .ref (b 0)), (1, .int x), (2, .int y)] := hl
  obtain ⟨H, hH⟩ : ∃ H, H = s.heap := ⟨_, rfl⟩
  obtain ⟨locs, hlo⟩ : ∃ q : List Loc, q = [] := ⟨_, rfl⟩
  have hP : va_P (dC, dI) vwCl (w4 b cI cZ tw nk pa nc fo th tg nt tb te tk tt ex tc es wy ab re go be) H := by rw [hH]; exact hP
  have hS : va_S A s.heap H locs := by rw [hH, hlo]; exact hS
  refine zz_hl hH hlo ?_
  obtain ⟨hk01, hk8, hnt, hT, hO, hF, hU⟩ := id hg
  obtain ⟨hnc, hC⟩ := id hc
  refine lv_aload_n hx hb dX4_common_0 rfl (lv_at hl 0 rfl) ?_
  refine lv_iconst (v := 0) hx hb dX4_common_1 (by decide) ?_
  refine va_put (D := (dC, dI)) (ci := 4) (v := .int 0) (ty := .int) (C := RX4) (T := TX4) (N := 20) hx hb hts (by decide +kernel) tyX4 tyX4_ok nmX4 hown hK hP hD hS 0 rfl rfl 0 (by decide) (hts (.fieldLink RX4 54 "HandlerOptimizerModel" "thrown" "I") (by decide +kernel)) (fun _ h9 => h9) rfl (by decide +kernel) rfl rfl (Nat.le_of_ble_eq_true rfl) dX4_common_2 (fun H locs hP hD hS => ?_)
  have hP : va_P (dC, dI) vwCl (w4 b cI cZ 0 nk pa nc fo th tg nt tb te tk tt ex tc es wy ab re go be) H := hP
  have hD : va_D A (w4 b cI cZ 0 nk pa nc fo th tg nt tb te tk tt ex tc es wy ab re go be) := hD
  refine lv_aload_n hx hb dX4_common_5 rfl (lv_at hl 0 rfl) ?_
  refine lv_iload_n hx hb dX4_common_6 rfl (lv_at hl 1 rfl) ?_
  refine va_calli (va_runV (As := [.int x]) (rest := []) ⟨hx, hb, hml, hown, hts⟩ (c_X4_isKind l dC dI cI cZ cJ b 0 nk pa nc fo th tg nt tb te tk tt ex tc es wy ab re go be x (by omega)) (cwV 1 hts gX4_common_X4_isKind rfl rfl rfl (by decide +kernel) ⟨Nat.le_of_ble_eq_true rfl, Nat.le_of_ble_eq_true rfl⟩) ⟨zPre_blind, va_recv hK hP (ci := 4) (q0 := 0) rfl rfl, zPre_at hP hK hn⟩ rfl rfl hl.1 rfl (lv_room (Nat.le_of_ble_eq_true rfl)) dX4_common_7 ⟨Nat.le_of_ble_eq_true rfl, Nat.le_of_ble_eq_true rfl⟩) hS (fun _ _ h => h.elim) (fun _ h => h.elim) (fun r_1 u_9 t H locs ht hvm hw hB hz1 hk1 hS => ?_)
  have hP := zkeep hP hk1
  subst hw
  refine lv_if_eq (tgt := 30) hx hb dX4_common_10 (by decide) (fun c_2 => ?_) (fun c_2 => ?_)
  · skip
    have c9 : (hasI x nk && hasI y nk) = false := by rw [zb_0.mp c_2]; rfl
    refine lv_aload_n hx hb dX4_common_30 rfl (lv_at hl 0 rfl) ?_
    refine lv_iconst (v := 1) hx hb dX4_common_31 (by decide) ?_
    have hDc := hD
    have hFc := va_free (wc := w4 b cI cZ 0 nk pa nc fo th tg nt tb te tk tt ex tc es wy ab re go be) hD hS hA [0, 1, 2, 3, 4, 5, 6, 7, 8, 9, 10, 11, 12] rfl
    refine va_calli (va_runV (As := [.int 1]) (rest := []) ⟨hx, hb, hml, hown, hts⟩ (c_X4_no l dC dI cI cZ cJ b 0 nk pa nc fo th tg nt tb te tk tt ex tc es wy ab re go be 1 H.size ) (cwV 1 hts gX4_common_X4_no rfl rfl rfl (by decide +kernel) ⟨Nat.le_of_ble_eq_true rfl, Nat.le_of_ble_eq_true rfl⟩) ⟨zWr_blind, va_recv hK hP (ci := 4) (q0 := 0) rfl rfl, zWr_at hP hK hn (hDc.weaken (fun _ _ _ _ => trivial))⟩ rfl rfl hl.1 rfl (lv_room (Nat.le_of_ble_eq_true rfl)) dX4_common_32 ⟨Nat.le_of_ble_eq_true rfl, Nat.le_of_ble_eq_true rfl⟩) hS (fun q _ h => hFc q h) hFc (fun r_3 u_9 t H1 locs ht hvm hw hB hz1 hk1 hS => ?_)
    obtain ⟨hP1, -, hD1⟩ := hB
    rw [ht] at hP1
    obtain ⟨hP, hD⟩ := va_join (wr := []) (w1 := w4 b cI cZ 1 nk pa nc fo th tg nt tb te tk tt ex tc es wy ab re go be) hP hD [0, 1, 2, 3, 4, 5, 6, 7, 8, 9, 10, 11, 12] [] rfl rfl (by decide) (by decide) hk1 hFc hP1 hD1
    generalize H1 = H at hP hS ⊢
    have hP : va_P (dC, dI) vwCl (w4 b cI cZ 1 nk pa nc fo th tg nt tb te tk tt ex tc es wy ab re go be) H := hP
    have hD : va_D A (w4 b cI cZ 1 nk pa nc fo th tg nt tb te tk tt ex tc es wy ab re go be) := hD
    subst hw
    rw [← hQ]
    have hP9 := hP
    have hD9 := hD
    exact W.iret (v := 0) hx hb hr (fun t ht hW => ⟨⟨0, 1, rfl, (by first | exact Or.inr ⟨c9, rfl⟩ | (refine Or.inl ⟨c9, rfl, ?_⟩; rw [nI_clamp (by omega), nI_clamp (by omega)])), (by rw [ht]; exact hP9), va_K.moved hW.alike hK, hD9⟩, hS.F ht⟩) hS.2.2 dX4_common_35
  · skip
    have c5 := zb_1.mp c_2
    refine lv_aload_n hx hb dX4_common_13 rfl (lv_at hl 0 rfl) ?_
    refine lv_iload_n hx hb dX4_common_14 rfl (lv_at hl 2 rfl) ?_
    refine va_calli (va_runV (As := [.int y]) (rest := []) ⟨hx, hb, hml, hown, hts⟩ (c_X4_isKind l dC dI cI cZ cJ b 0 nk pa nc fo th tg nt tb te tk tt ex tc es wy ab re go be y (by omega)) (cwV 1 hts gX4_common_X4_isKind rfl rfl rfl (by decide +kernel) ⟨Nat.le_of_ble_eq_true rfl, Nat.le_of_ble_eq_true rfl⟩) ⟨zPre_blind, va_recv hK hP (ci := 4) (q0 := 0) rfl rfl, zPre_at hP hK hn⟩ rfl rfl hl.1 rfl (lv_room (Nat.le_of_ble_eq_true rfl)) dX4_common_15 ⟨Nat.le_of_ble_eq_true rfl, Nat.le_of_ble_eq_true rfl⟩) hS (fun _ _ h => h.elim) (fun _ h => h.elim) (fun r_4 u_9 t H locs ht hvm hw hB hz1 hk1 hS => ?_)
    have hP := zkeep hP hk1
    subst hw
    refine lv_if_eq (tgt := 30) hx hb dX4_common_18 (by decide) (fun c_5 => ?_) (fun c_5 => ?_)
    · skip
      have c9 : (hasI x nk && hasI y nk) = false := by rw [zb_0.mp c_5]; exact Bool.and_false _
      refine lv_aload_n hx hb dX4_common_30 rfl (lv_at hl 0 rfl) ?_
      refine lv_iconst (v := 1) hx hb dX4_common_31 (by decide) ?_
      have hDc := hD
      have hFc := va_free (wc := w4 b cI cZ 0 nk pa nc fo th tg nt tb te tk tt ex tc es wy ab re go be) hD hS hA [0, 1, 2, 3, 4, 5, 6, 7, 8, 9, 10, 11, 12] rfl
      refine va_calli (va_runV (As := [.int 1]) (rest := []) ⟨hx, hb, hml, hown, hts⟩ (c_X4_no l dC dI cI cZ cJ b 0 nk pa nc fo th tg nt tb te tk tt ex tc es wy ab re go be 1 H.size ) (cwV 1 hts gX4_common_X4_no rfl rfl rfl (by decide +kernel) ⟨Nat.le_of_ble_eq_true rfl, Nat.le_of_ble_eq_true rfl⟩) ⟨zWr_blind, va_recv hK hP (ci := 4) (q0 := 0) rfl rfl, zWr_at hP hK hn (hDc.weaken (fun _ _ _ _ => trivial))⟩ rfl rfl hl.1 rfl (lv_room (Nat.le_of_ble_eq_true rfl)) dX4_common_32 ⟨Nat.le_of_ble_eq_true rfl, Nat.le_of_ble_eq_true rfl⟩) hS (fun q _ h => hFc q h) hFc (fun r_6 u_9 t H1 locs ht hvm hw hB hz1 hk1 hS => ?_)
      obtain ⟨hP1, -, hD1⟩ := hB
      rw [ht] at hP1
      obtain ⟨hP, hD⟩ := va_join (wr := []) (w1 := w4 b cI cZ 1 nk pa nc fo th tg nt tb te tk tt ex tc es wy ab re go be) hP hD [0, 1, 2, 3, 4, 5, 6, 7, 8, 9, 10, 11, 12] [] rfl rfl (by decide) (by decide) hk1 hFc hP1 hD1
      generalize H1 = H at hP hS ⊢
      have hP : va_P (dC, dI) vwCl (w4 b cI cZ 1 nk pa nc fo th tg nt tb te tk tt ex tc es wy ab re go be) H := hP
      have hD : va_D A (w4 b cI cZ 1 nk pa nc fo th tg nt tb te tk tt ex tc es wy ab re go be) := hD
      subst hw
      rw [← hQ]
      have hP9 := hP
      have hD9 := hD
      exact W.iret (v := 0) hx hb hr (fun t ht hW => ⟨⟨0, 1, rfl, (by first | exact Or.inr ⟨c9, rfl⟩ | (refine Or.inl ⟨c9, rfl, ?_⟩; rw [nI_clamp (by omega), nI_clamp (by omega)])), (by rw [ht]; exact hP9), va_K.moved hW.alike hK, hD9⟩, hS.F ht⟩) hS.2.2 dX4_common_35
    · skip
      have c6 := zb_1.mp c_5
      have c9 : (hasI x nk && hasI y nk) = true := by rw [c5, c6]; rfl
      obtain ⟨i, hi, rfl⟩ := hasI_at (by omega) c5
      obtain ⟨j, hj, rfl⟩ := hasI_at (by omega) c6
      refine lv_aload_n hx hb dX4_common_21 rfl (lv_at hl 0 rfl) ?_
      refine lv_iload_n hx hb dX4_common_22 rfl (lv_at hl 1 rfl) ?_
      refine lv_iload_n hx hb dX4_common_23 rfl (lv_at hl 2 rfl) ?_
      refine va_calli (va_runV (As := [.int (nI i), .int (nI j)]) (rest := []) ⟨hx, hb, hml, hown, hts⟩ (c_X4_lowest l dC dI cI cZ cJ b 0 nk pa nc fo th tg nt tb te tk tt ex tc es wy ab re go be i j T up (by first | assumption | omega) (by first | assumption | omega) (hi) (hj)) (cwV 2 hts gX4_common_X4_lowest rfl rfl rfl (by decide +kernel) ⟨Nat.le_of_ble_eq_true rfl, Nat.le_of_ble_eq_true rfl⟩) ⟨zPre_blind, va_recv hK hP (ci := 4) (q0 := 0) rfl rfl, zPre_at hP hK hn⟩ rfl rfl hl.1 rfl (lv_room (Nat.le_of_ble_eq_true rfl)) dX4_common_24 ⟨Nat.le_of_ble_eq_true rfl, Nat.le_of_ble_eq_true rfl⟩) hS (fun _ _ h => h.elim) (fun _ h => h.elim) (fun r_7 u_9 t H locs ht hvm hw hB hz1 hk1 hS => ?_)
      have hP := zkeep hP hk1
      subst hw
      refine lv_goto (tgt := 35) hx hb dX4_common_27 (by decide) ?_
      rw [← hQ]
      have hP9 := hP
      have hD9 := hD
      exact W.iret (v := nI (lw up nk i j)) hx hb hr (fun t ht hW => ⟨⟨nI (lw up nk i j), 0, rfl, (by first | exact Or.inr ⟨c9, rfl⟩ | (refine Or.inl ⟨c9, rfl, ?_⟩; rw [nI_clamp (by omega), nI_clamp (by omega)])), (by rw [ht]; exact hP9), va_K.moved hW.alike hK, hD9⟩, hS.F ht⟩) hS.2.2 dX4_common_35

set_option maxHeartbeats 4000000 in
set_option maxRecDepth 100000 in
theorem c_X4_append (l : Launch) (dC : Nat → ClassId) (dI : Nat → Nat → Nat) (cI cZ cJ : ClassId) (b : Nat → Nat) (tw : Int32) (nk : Nat) (pa : Nat → Int32) (nc : Nat) (fo : Nat → Int32) (th : Nat → Int32) (tg : Nat → Int32) (nt : Nat) (tb : Nat → Int32) (te : Nat → Int32) (tk : Nat → Int32) (tt : Nat → Int32) (ex : Int32) (tc : Int32) (es : Int32) (wy : Int64) (ab : Nat → Int32) (re : Nat → Int32) (go : Nat → Int32) (be : Nat → Int32) (x : Int32) (y : Int32) (z : Int32) (w : Int32) (sz : Nat) (hnc : nc ≤ 48) : Met l yX4_append wsX4_append ({ frames := 1, cells := 0, slots := 0, locals := 21 } : Room) (va_Pc [.ref (b 0), .int x, .int y, .int z, .int w] (zWr (dC, dI) [(cI, .int), (cZ, .boolean), (cJ, .long)] (w4 b cI cZ tw nk pa nc fo th tg nt tb te tk tt ex tc es wy ab re go be) sz)) (va_Qi (fun (r : Int32) (u : Int32 × Nat × (Nat → Int32) × (Nat → Int32) × (Nat → Int32)) => match u with | (tw9, nc9, fo9, th9, tg9) => (nc = 48 ∧ tw9 = w ∧ nc9 = nc ∧ fo9 = fo ∧ th9 = th ∧ tg9 = tg) ∨ (nc < 48 ∧ tw9 = tw ∧ r = nI nc ∧ nc9 = nc + 1 ∧ fo9 = upd fo nc x ∧ th9 = upd th nc y ∧ tg9 = upd tg nc z)) (fun u t => match u with | (tw9, nc9, fo9, th9, tg9) => zWo (dC, dI) [(cI, .int), (cZ, .boolean), (cJ, .long)] (w4 b cI cZ tw9 nk pa nc9 fo9 th9 tg9 nt tb te tk tt ex tc es wy ab re go be) (va_A (w4 b cI cZ tw nk pa nc fo th tg nt tb te tk tt ex tc es wy ab re go be) sz) t) (va_A (w4 b cI cZ tw nk pa nc fo th tg nt tb te tk tt ex tc es wy ab re go be) sz)) 0 0 (va_A (w4 b cI cZ tw nk pa nc fo th tg nt tb te tk tt ex tc es wy ab re go be) sz) := by
  refine Met.ofW (cc := cX4_append) (maxL := 5) (ret := (some .int)) (by decide) rfl ?_
  intro p e s m args below meth c s₁ B hml hv
  obtain ⟨hav, hsz, ⟨hP, hK, hn⟩, hD0⟩ := hv
  have hx := B.exec
  have hb := B.bytes
  have hr := B.returns
  have hts := atoms_spec (ws := wsX4_append) B.pre
  have hown : s.vm.findClass RX4 = some m.cls := findClass_of_methodNamed B.named
  have hlocks := B.notSynchronized
  subst hsz
  have hD := hD0.self (sz := s.heap.size)
  generalize hAe : (va_A (w4 b cI cZ tw nk pa nc fo th tg nt tb te tk tt ex tc es wy ab re go be) s.heap.size) = A at hD ⊢
  have hA : ∀ q : Nat, s.heap.size ≤ q → A q := fun q h => by rw [← hAe]; exact Or.inr h
  have hS : va_S A s.heap s.heap [] := va_S.rf
  generalize hQ : MQ below (va_Qi (fun (r : Int32) (u : Int32 × Nat × (Nat → Int32) × (Nat → Int32) × (Nat → Int32)) => match u with | (tw9, nc9, fo9, th9, tg9) => (nc = 48 ∧ tw9 = w ∧ nc9 = nc ∧ fo9 = fo ∧ th9 = th ∧ tg9 = tg) ∨ (nc < 48 ∧ tw9 = tw ∧ r = nI nc ∧ nc9 = nc + 1 ∧ fo9 = upd fo nc x ∧ th9 = upd th nc y ∧ tg9 = upd tg nc z)) (fun u t => match u with | (tw9, nc9, fo9, th9, tg9) => zWo (dC, dI) [(cI, .int), (cZ, .boolean), (cJ, .long)] (w4 b cI cZ tw9 nk pa nc9 fo9 th9 tg9 nt tb te tk tt ex tc es wy ab re go be) A t) A) args s 0 0 A = Q
  refine W.eq (g2 := entryFrame m ([.ref (b 0), .int x, .int y, .int z, .int w] : List Value).toArray 5) (by rw [hav]) ?_
  have hl := lv_entry ([.ref (b 0), .int x, .int y, .int z, .int w]) (n := 5) (Nat.le_of_ble_eq_true rfl)
  rw [lg_entry_eq]
  generalize (lg_sl ([.ref (b 0), .int x, .int y, .int z, .int w]) ++ List.replicate (5 - (lg_sl ([.ref (b 0), .int x, .int y, .int z, .int w])).length) Slot.unset).toArray = ls at hl ⊢
  have hl : lv_has ls 5 [(0, .ref (b 0)), (1, .int x), (2, .int y), (3, .int z), (4, .int w)] := hl
  obtain ⟨H, hH⟩ : ∃ H, H = s.heap := ⟨_, rfl⟩
  obtain ⟨locs, hlo⟩ : ∃ q : List Loc, q = [] := ⟨_, rfl⟩
  have hP : va_P (dC, dI) vwCl (w4 b cI cZ tw nk pa nc fo th tg nt tb te tk tt ex tc es wy ab re go be) H := by rw [hH]; exact hP
  have hS : va_S A s.heap H locs := by rw [hH, hlo]; exact hS
  refine zz_hl hH hlo ?_
  refine lv_aload_n hx hb dX4_append_0 rfl (lv_at hl 0 rfl) ?_
  refine va_get (D := (dC, dI)) (ci := 4) (v := .int (nI nc)) (C := RX4) (T := TX4) (N := 20) hx hb hts (by decide +kernel) hown hK hP 0 rfl rfl 3 (by decide) (hts (.fieldLink RX4 61 "HandlerOptimizerModel" "size" "I") (by decide +kernel)) (fun _ h9 => h9) rfl dX4_append_1 ?_
  refine lv_bipush (v := 48) hx hb dX4_append_4 (by decide) ?_
  refine lv_icmp_ne (tgt := 16) hx hb dX4_append_6 (by decide) (fun c_1 => ?_) (fun c_1 => ?_)
  · skip
    have c_1 := (zz_net (a := nc) (b := 48) (by omega) (by omega)).mp c_1
    refine lv_aload_n hx hb dX4_append_16 rfl (lv_at hl 0 rfl) ?_
    refine va_get (D := (dC, dI)) (ci := 4) (v := .ref (b 2)) (C := RX4) (T := TX4) (N := 20) hx hb hts (by decide +kernel) hown hK hP 0 rfl rfl 4 (by decide) (hts (.fieldLink RX4 17 "HandlerOptimizerModel" "forms" "[I") (by decide +kernel)) (fun _ h9 => h9) rfl dX4_append_17 ?_
    refine lv_aload_n hx hb dX4_append_20 rfl (lv_at hl 0 rfl) ?_
    refine va_get (D := (dC, dI)) (ci := 4) (v := .int (nI nc)) (C := RX4) (T := TX4) (N := 20) hx hb hts (by decide +kernel) hown hK hP 0 rfl rfl 3 (by decide) (hts (.fieldLink RX4 61 "HandlerOptimizerModel" "size" "I") (by decide +kernel)) (fun _ h9 => h9) rfl dX4_append_21 ?_
    refine lv_iload_n hx hb dX4_append_24 rfl (lv_at hl 1 rfl) ?_
    refine va_iast hx hb hK hP hD hS 2 0 rfl rfl (vp_in_nI (n := nc) (by omega) (by decide)) dX4_append_25 (fun H locs hP hD hS => ?_)
    rw [nI_clamp (n := nc) (by omega)] at hP hD
    have hP : va_P (dC, dI) vwCl (w4 b cI cZ tw nk pa nc (upd fo nc x) th tg nt tb te tk tt ex tc es wy ab re go be) H := hP
    have hD : va_D A (w4 b cI cZ tw nk pa nc (upd fo nc x) th tg nt tb te tk tt ex tc es wy ab re go be) := hD
    refine lv_aload_n hx hb dX4_append_26 rfl (lv_at hl 0 rfl) ?_
    refine va_get (D := (dC, dI)) (ci := 4) (v := .ref (b 3)) (C := RX4) (T := TX4) (N := 20) hx hb hts (by decide +kernel) hown hK hP 0 rfl rfl 5 (by decide) (hts (.fieldLink RX4 20 "HandlerOptimizerModel" "errors" "[I") (by decide +kernel)) (fun _ h9 => h9) rfl dX4_append_27 ?_
    refine lv_aload_n hx hb dX4_append_30 rfl (lv_at hl 0 rfl) ?_
    refine va_get (D := (dC, dI)) (ci := 4) (v := .int (nI nc)) (C := RX4) (T := TX4) (N := 20) hx hb hts (by decide +kernel) hown hK hP 0 rfl rfl 3 (by decide) (hts (.fieldLink RX4 61 "HandlerOptimizerModel" "size" "I") (by decide +kernel)) (fun _ h9 => h9) rfl dX4_append_31 ?_
    refine lv_iload_n hx hb dX4_append_34 rfl (lv_at hl 2 rfl) ?_
    refine va_iast hx hb hK hP hD hS 3 0 rfl rfl (vp_in_nI (n := nc) (by omega) (by decide)) dX4_append_35 (fun H locs hP hD hS => ?_)
    rw [nI_clamp (n := nc) (by omega)] at hP hD
    have hP : va_P (dC, dI) vwCl (w4 b cI cZ tw nk pa nc (upd fo nc x) (upd th nc y) tg nt tb te tk tt ex tc es wy ab re go be) H := hP
    have hD : va_D A (w4 b cI cZ tw nk pa nc (upd fo nc x) (upd th nc y) tg nt tb te tk tt ex tc es wy ab re go be) := hD
    refine lv_aload_n hx hb dX4_append_36 rfl (lv_at hl 0 rfl) ?_
    refine va_get (D := (dC, dI)) (ci := 4) (v := .ref (b 4)) (C := RX4) (T := TX4) (N := 20) hx hb hts (by decide +kernel) hown hK hP 0 rfl rfl 6 (by decide) (hts (.fieldLink RX4 23 "HandlerOptimizerModel" "targets" "[I") (by decide +kernel)) (fun _ h9 => h9) rfl dX4_append_37 ?_
    refine lv_aload_n hx hb dX4_append_40 rfl (lv_at hl 0 rfl) ?_
    refine va_get (D := (dC, dI)) (ci := 4) (v := .int (nI nc)) (C := RX4) (T := TX4) (N := 20) hx hb hts (by decide +kernel) hown hK hP 0 rfl rfl 3 (by decide) (hts (.fieldLink RX4 61 "HandlerOptimizerModel" "size" "I") (by decide +kernel)) (fun _ h9 => h9) rfl dX4_append_41 ?_
    refine lv_iload_n hx hb dX4_append_44 rfl (lv_at hl 3 rfl) ?_
    refine va_iast hx hb hK hP hD hS 4 0 rfl rfl (vp_in_nI (n := nc) (by omega) (by decide)) dX4_append_45 (fun H locs hP hD hS => ?_)
    rw [nI_clamp (n := nc) (by omega)] at hP hD
    have hP : va_P (dC, dI) vwCl (w4 b cI cZ tw nk pa nc (upd fo nc x) (upd th nc y) (upd tg nc z) nt tb te tk tt ex tc es wy ab re go be) H := hP
    have hD : va_D A (w4 b cI cZ tw nk pa nc (upd fo nc x) (upd th nc y) (upd tg nc z) nt tb te tk tt ex tc es wy ab re go be) := hD
    refine lv_aload_n hx hb dX4_append_46 rfl (lv_at hl 0 rfl) ?_
    refine lv_dup hx hb dX4_append_47 rfl ?_
    refine va_get (D := (dC, dI)) (ci := 4) (v := .int (nI nc)) (C := RX4) (T := TX4) (N := 20) hx hb hts (by decide +kernel) hown hK hP 0 rfl rfl 3 (by decide) (hts (.fieldLink RX4 61 "HandlerOptimizerModel" "size" "I") (by decide +kernel)) (fun _ h9 => h9) rfl dX4_append_48 ?_
    refine lv_iconst (v := 1) hx hb dX4_append_51 (by decide) ?_
    refine lv_iadd hx hb dX4_append_52 ?_
    refine zz_top (y := nI (nc + 1)) (nI_add _ _) ?_
    refine va_put (D := (dC, dI)) (ci := 4) (v := .int (nI (nc + 1))) (ty := .int) (C := RX4) (T := TX4) (N := 20) hx hb hts (by decide +kernel) tyX4 tyX4_ok nmX4 hown hK hP hD hS 0 rfl rfl 3 (by decide) (hts (.fieldLink RX4 61 "HandlerOptimizerModel" "size" "I") (by decide +kernel)) (fun _ h9 => h9) rfl (by decide +kernel) rfl rfl (Nat.le_of_ble_eq_true rfl) dX4_append_53 (fun H locs hP hD hS => ?_)
    have hP : va_P (dC, dI) vwCl (w4 b cI cZ tw nk pa (nc + 1) (upd fo nc x) (upd th nc y) (upd tg nc z) nt tb te tk tt ex tc es wy ab re go be) H := hP
    have hD : va_D A (w4 b cI cZ tw nk pa (nc + 1) (upd fo nc x) (upd th nc y) (upd tg nc z) nt tb te tk tt ex tc es wy ab re go be) := hD
    refine lv_aload_n hx hb dX4_append_56 rfl (lv_at hl 0 rfl) ?_
    refine va_get (D := (dC, dI)) (ci := 4) (v := .int (nI (nc + 1))) (C := RX4) (T := TX4) (N := 20) hx hb hts (by decide +kernel) hown hK hP 0 rfl rfl 3 (by decide) (hts (.fieldLink RX4 61 "HandlerOptimizerModel" "size" "I") (by decide +kernel)) (fun _ h9 => h9) rfl dX4_append_57 ?_
    refine lv_iconst (v := 1) hx hb dX4_append_60 (by decide) ?_
    refine lv_isub hx hb dX4_append_61 ?_
    refine zz_top (y := nI nc) (nI_pred _) ?_
    rw [← hQ]
    have hP9 := hP
    have hD9 := hD
    exact W.iret (v := nI nc) hx hb hr (fun t ht hW => ⟨⟨nI nc, (tw, nc + 1, upd fo nc x, upd th nc y, upd tg nc z), rfl, (Or.inr ⟨by omega, rfl, rfl, rfl, rfl, rfl, rfl⟩), (by rw [ht]; exact hP9), va_K.moved hW.alike hK, hD9⟩, hS.F ht⟩) hS.2.2 dX4_append_62
  · skip
    have c_1 := (zz_nef (a := nc) (b := 48) (by omega) (by omega)).mp c_1
    refine lv_aload_n hx hb dX4_append_9 rfl (lv_at hl 0 rfl) ?_
    refine lv_iload hx hb dX4_append_10 (lv_at hl 4 rfl) ?_
    have hDc := hD
    have hFc := va_free (wc := w4 b cI cZ tw nk pa nc fo th tg nt tb te tk tt ex tc es wy ab re go be) hD hS hA [0, 1, 2, 3, 4, 5, 6, 7, 8, 9, 10, 11, 12] rfl
    refine va_calli (va_runV (As := [.int w]) (rest := []) ⟨hx, hb, hml, hown, hts⟩ (c_X4_no l dC dI cI cZ cJ b tw nk pa nc fo th tg nt tb te tk tt ex tc es wy ab re go be w H.size ) (cwV 1 hts gX4_append_X4_no rfl rfl rfl (by decide +kernel) ⟨Nat.le_of_ble_eq_true rfl, Nat.le_of_ble_eq_true rfl⟩) ⟨zWr_blind, va_recv hK hP (ci := 4) (q0 := 0) rfl rfl, zWr_at hP hK hn (hDc.weaken (fun _ _ _ _ => trivial))⟩ rfl rfl hl.1 rfl (lv_room (Nat.le_of_ble_eq_true rfl)) dX4_append_12 ⟨Nat.le_of_ble_eq_true rfl, Nat.le_of_ble_eq_true rfl⟩) hS (fun q _ h => hFc q h) hFc (fun r_2 u_9 t H1 locs ht hvm hw hB hz1 hk1 hS => ?_)
    obtain ⟨hP1, -, hD1⟩ := hB
    rw [ht] at hP1
    obtain ⟨hP, hD⟩ := va_join (wr := []) (w1 := w4 b cI cZ w nk pa nc fo th tg nt tb te tk tt ex tc es wy ab re go be) hP hD [0, 1, 2, 3, 4, 5, 6, 7, 8, 9, 10, 11, 12] [] rfl rfl (by decide) (by decide) hk1 hFc hP1 hD1
    generalize H1 = H at hP hS ⊢
    have hP : va_P (dC, dI) vwCl (w4 b cI cZ w nk pa nc fo th tg nt tb te tk tt ex tc es wy ab re go be) H := hP
    have hD : va_D A (w4 b cI cZ w nk pa nc fo th tg nt tb te tk tt ex tc es wy ab re go be) := hD
    subst hw
    rw [← hQ]
    have hP9 := hP
    have hD9 := hD
    exact W.iret (v := 0) hx hb hr (fun t ht hW => ⟨⟨0, (w, nc, fo, th, tg), rfl, (Or.inl ⟨by omega, rfl, rfl, rfl, rfl, rfl⟩), (by rw [ht]; exact hP9), va_K.moved hW.alike hK, hD9⟩, hS.F ht⟩) hS.2.2 dX4_append_15

set_option maxHeartbeats 4000000 in
set_option maxRecDepth 100000 in
theorem c_X4_step (l : Launch) (dC : Nat → ClassId) (dI : Nat → Nat → Nat) (cI cZ cJ : ClassId) (b : Nat → Nat) (tw : Int32) (nk : Nat) (pa : Nat → Int32) (nc : Nat) (fo : Nat → Int32) (th : Nat → Int32) (tg : Nat → Int32) (nt : Nat) (tb : Nat → Int32) (te : Nat → Int32) (tk : Nat → Int32) (tt : Nat → Int32) (ex : Int32) (tc : Int32) (es : Int32) (wy : Int64) (ab : Nat → Int32) (re : Nat → Int32) (go : Nat → Int32) (be : Nat → Int32) (x : Int32) (T : Nat → Nat → Nat) (up : Nat → Nat → Bool) (sz : Nat) (hg : g4 nk ab up nt tb te tk tt T) (hc : okC nk nc fo th tg) : Met l yX4_step wsX4_step ({ frames := 2, cells := 0, slots := 0, locals := 45 } : Room) (va_Pc [.ref (b 0), .int x] (zWr (dC, dI) [(cI, .int), (cZ, .boolean), (cJ, .long)] (w4 b cI cZ tw nk pa nc fo th tg nt tb te tk tt ex tc es wy ab re go be) sz)) (va_Qi (fun (r : Int32) (u : Int32 × Nat × (Nat → Int32) × (Nat → Int32) × (Nat → Int32)) => match u with | (tw9, nc9, fo9, th9, tg9) => (decide (x >>> (nI nk &&& 31) = 0) = false ∧ tw9 = 1 ∧ nc9 = nc ∧ fo9 = fo ∧ th9 = th ∧ tg9 = tg) ∨ (decide (x >>> (nI nk &&& 31) = 0) = true ∧ nc = 48 ∧ tw9 = 2 ∧ nc9 = nc ∧ fo9 = fo ∧ th9 = th ∧ tg9 = tg) ∨ (decide (x >>> (nI nk &&& 31) = 0) = true ∧ nc < 48 ∧ tw9 = 0 ∧ r = nI nc ∧ nc9 = nc + 1 ∧ fo9 = upd fo nc 0 ∧ th9 = upd th nc x ∧ tg9 = upd tg nc (-1))) (fun u t => match u with | (tw9, nc9, fo9, th9, tg9) => zWo (dC, dI) [(cI, .int), (cZ, .boolean), (cJ, .long)] (w4 b cI cZ tw9 nk pa nc9 fo9 th9 tg9 nt tb te tk tt ex tc es wy ab re go be) (va_A (w4 b cI cZ tw nk pa nc fo th tg nt tb te tk tt ex tc es wy ab re go be) sz) t) (va_A (w4 b cI cZ tw nk pa nc fo th tg nt tb te tk tt ex tc es wy ab re go be) sz)) 0 0 (va_A (w4 b cI cZ tw nk pa nc fo th tg nt tb te tk tt ex tc es wy ab re go be) sz) := by
  refine Met.ofW (cc := cX4_step) (maxL := 2) (ret := (some .int)) (by decide) rfl ?_
  intro p e s m args below meth c s₁ B hml hv
  obtain ⟨hav, hsz, ⟨hP, hK, hn⟩, hD0⟩ := hv
  have hx := B.exec
  have hb := B.bytes
  have hr := B.returns
  have hts := atoms_spec (ws := wsX4_step) B.pre
  have hown : s.vm.findClass RX4 = some m.cls := findClass_of_methodNamed B.named
  have hlocks := B.notSynchronized
  subst hsz
  have hD := hD0.self (sz := s.heap.size)
  generalize hAe : (va_A (w4 b cI cZ tw nk pa nc fo th tg nt tb te tk tt ex tc es wy ab re go be) s.heap.size) = A at hD ⊢
  have hA : ∀ q : Nat, s.heap.size ≤ q → A q := fun q h => by rw [← hAe]; exact Or.inr h
  have hS : va_S A s.heap s.heap [] := va_S.rf
  generalize hQ : MQ below (va_Qi (fun (r : Int32) (u : Int32 × Nat × (Nat → Int32) × (Nat → Int32) × (Nat → Int32)) => match u with | (tw9, nc9, fo9, th9, tg9) => (decide (x >>> (nI nk &&& 31) = 0) = false ∧ tw9 = 1 ∧ nc9 = nc ∧ fo9 = fo ∧ th9 = th ∧ tg9 = tg) ∨ (decide (x >>> (nI nk &&& 31) = 0) = true ∧ nc = 48 ∧ tw9 = 2 ∧ nc9 = nc ∧ fo9 = fo ∧ th9 = th ∧ tg9 = tg) ∨ (decide (x >>> (nI nk &&& 31) = 0) = true ∧ nc < 48 ∧ tw9 = 0 ∧ r = nI nc ∧ nc9 = nc + 1 ∧ fo9 = upd fo nc 0 ∧ th9 = upd th nc x ∧ tg9 = upd tg nc (-1))) (fun u t => match u with | (tw9, nc9, fo9, th9, tg9) => zWo (dC, dI) [(cI, .int), (cZ, .boolean), (cJ, .long)] (w4 b cI cZ tw9 nk pa nc9 fo9 th9 tg9 nt tb te tk tt ex tc es wy ab re go be) A t) A) args s 0 0 A = Q
  refine W.eq (g2 := entryFrame m ([.ref (b 0), .int x] : List Value).toArray 2) (by rw [hav]) ?_
  have hl := lv_entry ([.ref (b 0), .int x]) (n := 2) (Nat.le_of_ble_eq_true rfl)
  rw [lg_entry_eq]
  generalize (lg_sl ([.ref (b 0), .int x]) ++ List.replicate (2 - (lg_sl ([.ref (b 0), .int x])).length) Slot.unset).toArray = ls at hl ⊢
  have hl : lv_has ls 2 [(0, .ref (b 0)), (1, .int x)] := hl
  obtain ⟨H, hH⟩ : ∃ H, H = s.heap := ⟨_, rfl⟩
  obtain ⟨locs, hlo⟩ : ∃ q : List Loc, q = [] := ⟨_, rfl⟩
  have hP : va_P (dC, dI) vwCl (w4 b cI cZ tw nk pa nc fo th tg nt tb te tk tt ex tc es wy ab re go be) H := by rw [hH]; exact hP
  have hS : va_S A s.heap H locs := by rw [hH, hlo]; exact hS
  refine zz_hl hH hlo ?_
  obtain ⟨hk01, hk8, hnt, hT, hO, hF, hU⟩ := id hg
  obtain ⟨hnc, hC⟩ := id hc
  refine lv_aload_n hx hb dX4_step_0 rfl (lv_at hl 0 rfl) ?_
  refine lv_iconst (v := 0) hx hb dX4_step_1 (by decide) ?_
  refine va_put (D := (dC, dI)) (ci := 4) (v := .int 0) (ty := .int) (C := RX4) (T := TX4) (N := 20) hx hb hts (by decide +kernel) tyX4 tyX4_ok nmX4 hown hK hP hD hS 0 rfl rfl 0 (by decide) (hts (.fieldLink RX4 54 "HandlerOptimizerModel" "thrown" "I") (by decide +kernel)) (fun _ h9 => h9) rfl (by decide +kernel) rfl rfl (Nat.le_of_ble_eq_true rfl) dX4_step_2 (fun H locs hP hD hS => ?_)
  have hP : va_P (dC, dI) vwCl (w4 b cI cZ 0 nk pa nc fo th tg nt tb te tk tt ex tc es wy ab re go be) H := hP
  have hD : va_D A (w4 b cI cZ 0 nk pa nc fo th tg nt tb te tk tt ex tc es wy ab re go be) := hD
  refine lv_aload_n hx hb dX4_step_5 rfl (lv_at hl 0 rfl) ?_
  refine lv_iload_n hx hb dX4_step_6 rfl (lv_at hl 1 rfl) ?_
  refine va_calli (va_runV (As := [.int x]) (rest := []) ⟨hx, hb, hml, hown, hts⟩ (c_X4_areKinds l dC dI cI cZ cJ b 0 nk pa nc fo th tg nt tb te tk tt ex tc es wy ab re go be x (hk8)) (cwV 1 hts gX4_step_X4_areKinds rfl rfl rfl (by decide +kernel) ⟨Nat.le_of_ble_eq_true rfl, Nat.le_of_ble_eq_true rfl⟩) ⟨zPre_blind, va_recv hK hP (ci := 4) (q0 := 0) rfl rfl, zPre_at hP hK hn⟩ rfl rfl hl.1 rfl (lv_room (Nat.le_of_ble_eq_true rfl)) dX4_step_7 ⟨Nat.le_of_ble_eq_true rfl, Nat.le_of_ble_eq_true rfl⟩) hS (fun _ _ h => h.elim) (fun _ h => h.elim) (fun r_1 u_9 t H locs ht hvm hw hB hz1 hk1 hS => ?_)
  have hP := zkeep hP hk1
  subst hw
  refine lv_if_eq (tgt := 24) hx hb dX4_step_10 (by decide) (fun c_2 => ?_) (fun c_2 => ?_)
  · skip
    have c9 := zb_0.mp c_2
    refine lv_aload_n hx hb dX4_step_24 rfl (lv_at hl 0 rfl) ?_
    refine lv_iconst (v := 1) hx hb dX4_step_25 (by decide) ?_
    have hDc := hD
    have hFc := va_free (wc := w4 b cI cZ 0 nk pa nc fo th tg nt tb te tk tt ex tc es wy ab re go be) hD hS hA [0, 1, 2, 3, 4, 5, 6, 7, 8, 9, 10, 11, 12] rfl
    refine va_calli (va_runV (As := [.int 1]) (rest := []) ⟨hx, hb, hml, hown, hts⟩ (c_X4_no l dC dI cI cZ cJ b 0 nk pa nc fo th tg nt tb te tk tt ex tc es wy ab re go be 1 H.size ) (cwV 1 hts gX4_step_X4_no rfl rfl rfl (by decide +kernel) ⟨Nat.le_of_ble_eq_true rfl, Nat.le_of_ble_eq_true rfl⟩) ⟨zWr_blind, va_recv hK hP (ci := 4) (q0 := 0) rfl rfl, zWr_at hP hK hn (hDc.weaken (fun _ _ _ _ => trivial))⟩ rfl rfl hl.1 rfl (lv_room (Nat.le_of_ble_eq_true rfl)) dX4_step_26 ⟨Nat.le_of_ble_eq_true rfl, Nat.le_of_ble_eq_true rfl⟩) hS (fun q _ h => hFc q h) hFc (fun r_3 u_9 t H1 locs ht hvm hw hB hz1 hk1 hS => ?_)
    obtain ⟨hP1, -, hD1⟩ := hB
    rw [ht] at hP1
    obtain ⟨hP, hD⟩ := va_join (wr := []) (w1 := w4 b cI cZ 1 nk pa nc fo th tg nt tb te tk tt ex tc es wy ab re go be) hP hD [0, 1, 2, 3, 4, 5, 6, 7, 8, 9, 10, 11, 12] [] rfl rfl (by decide) (by decide) hk1 hFc hP1 hD1
    generalize H1 = H at hP hS ⊢
    have hP : va_P (dC, dI) vwCl (w4 b cI cZ 1 nk pa nc fo th tg nt tb te tk tt ex tc es wy ab re go be) H := hP
    have hD : va_D A (w4 b cI cZ 1 nk pa nc fo th tg nt tb te tk tt ex tc es wy ab re go be) := hD
    subst hw
    rw [← hQ]
    have hP9 := hP
    have hD9 := hD
    exact W.iret (v := 0) hx hb hr (fun t ht hW => ⟨⟨0, (1, nc, fo, th, tg), rfl, (by first | exact Or.inl ⟨c9, rfl, rfl, rfl, rfl, rfl⟩ | (rcases hap with ⟨q1, q2, q3⟩ | ⟨q1, q2, q3⟩; exact Or.inr (Or.inl ⟨c9, q1, q2, q3⟩); exact Or.inr (Or.inr ⟨c9, q1, q2, q3⟩))), (by rw [ht]; exact hP9), va_K.moved hW.alike hK, hD9⟩, hS.F ht⟩) hS.2.2 dX4_step_29
  · skip
    have c9 := zb_1.mp c_2
    refine lv_aload_n hx hb dX4_step_13 rfl (lv_at hl 0 rfl) ?_
    refine lv_iconst (v := 0) hx hb dX4_step_14 (by decide) ?_
    refine lv_iload_n hx hb dX4_step_15 rfl (lv_at hl 1 rfl) ?_
    refine lv_iconst (v := -1) hx hb dX4_step_16 (by decide) ?_
    refine lv_iconst (v := 2) hx hb dX4_step_17 (by decide) ?_
    have hDc := hD
    have hFc := va_free (wc := w4 b cI cZ 0 nk pa nc fo th tg nt tb te tk tt ex tc es wy ab re go be) hD hS hA [0, 1, 2, 3, 4, 5, 6, 7, 8, 9, 10, 11, 12] rfl
    refine va_calli (va_runV (As := [.int 0, .int x, .int (-1), .int 2]) (rest := []) ⟨hx, hb, hml, hown, hts⟩ (c_X4_append l dC dI cI cZ cJ b 0 nk pa nc fo th tg nt tb te tk tt ex tc es wy ab re go be 0 x (-1) 2 H.size (by first | assumption | omega)) (cwV 4 hts gX4_step_X4_append rfl rfl rfl (by decide +kernel) ⟨Nat.le_of_ble_eq_true rfl, Nat.le_of_ble_eq_true rfl⟩) ⟨zWr_blind, va_recv hK hP (ci := 4) (q0 := 0) rfl rfl, zWr_at hP hK hn (hDc.weaken (fun _ _ _ _ => trivial))⟩ rfl rfl hl.1 rfl (lv_room (Nat.le_of_ble_eq_true rfl)) dX4_step_18 ⟨Nat.le_of_ble_eq_true rfl, Nat.le_of_ble_eq_true rfl⟩) hS (fun q _ h => hFc q h) hFc (fun r_4 u_9 t H1 locs ht hvm hw hB hz1 hk1 hS => ?_)
    obtain ⟨tw_n, nc_n, fo_n, th_n, tg_n⟩ := u_9
    dsimp only at hw hB
    obtain ⟨hP1, -, hD1⟩ := hB
    rw [ht] at hP1
    obtain ⟨hP, hD⟩ := va_join (wr := []) (w1 := w4 b cI cZ tw_n nk pa nc_n fo_n th_n tg_n nt tb te tk tt ex tc es wy ab re go be) hP hD [0, 1, 2, 3, 4, 5, 6, 7, 8, 9, 10, 11, 12] [] rfl rfl (by decide) (by decide) hk1 hFc hP1 hD1
    generalize H1 = H at hP hS ⊢
    have hP : va_P (dC, dI) vwCl (w4 b cI cZ tw_n nk pa nc_n fo_n th_n tg_n nt tb te tk tt ex tc es wy ab re go be) H := hP
    have hD : va_D A (w4 b cI cZ tw_n nk pa nc_n fo_n th_n tg_n nt tb te tk tt ex tc es wy ab re go be) := hD
    have hap := hw
    refine lv_goto (tgt := 29) hx hb dX4_step_21 (by decide) ?_
    rw [← hQ]
    have hP9 := hP
    have hD9 := hD
    exact W.iret (v := r_4) hx hb hr (fun t ht hW => ⟨⟨r_4, (tw_n, nc_n, fo_n, th_n, tg_n), rfl, (by first | exact Or.inl ⟨c9, rfl, rfl, rfl, rfl, rfl⟩ | (rcases hap with ⟨q1, q2, q3⟩ | ⟨q1, q2, q3⟩; exact Or.inr (Or.inl ⟨c9, q1, q2, q3⟩); exact Or.inr (Or.inr ⟨c9, q1, q2, q3⟩))), (by rw [ht]; exact hP9), va_K.moved hW.alike hK, hD9⟩, hS.F ht⟩) hS.2.2 dX4_step_29

set_option maxHeartbeats 4000000 in
set_option maxRecDepth 100000 in
theorem c_X4_jump (l : Launch) (dC : Nat → ClassId) (dI : Nat → Nat → Nat) (cI cZ cJ : ClassId) (b : Nat → Nat) (tw : Int32) (nk : Nat) (pa : Nat → Int32) (nc : Nat) (fo : Nat → Int32) (th : Nat → Int32) (tg : Nat → Int32) (nt : Nat) (tb : Nat → Int32) (te : Nat → Int32) (tk : Nat → Int32) (tt : Nat → Int32) (ex : Int32) (tc : Int32) (es : Int32) (wy : Int64) (ab : Nat → Int32) (re : Nat → Int32) (go : Nat → Int32) (be : Nat → Int32) (x : Int32) (T : Nat → Nat → Nat) (up : Nat → Nat → Bool) (sz : Nat) (hg : g4 nk ab up nt tb te tk tt T) (hc : okC nk nc fo th tg) : Met l yX4_jump wsX4_jump ({ frames := 2, cells := 0, slots := 0, locals := 45 } : Room) (va_Pc [.ref (b 0), .int x] (zWr (dC, dI) [(cI, .int), (cZ, .boolean), (cJ, .long)] (w4 b cI cZ tw nk pa nc fo th tg nt tb te tk tt ex tc es wy ab re go be) sz)) (va_Qi (fun (r : Int32) (u : Int32 × Nat × (Nat → Int32) × (Nat → Int32) × (Nat → Int32)) => match u with | (tw9, nc9, fo9, th9, tg9) => (hasI x 48 = false ∧ tw9 = 1 ∧ nc9 = nc ∧ fo9 = fo ∧ th9 = th ∧ tg9 = tg) ∨ (hasI x 48 = true ∧ nc = 48 ∧ tw9 = 2 ∧ nc9 = nc ∧ fo9 = fo ∧ th9 = th ∧ tg9 = tg) ∨ (hasI x 48 = true ∧ nc < 48 ∧ tw9 = 0 ∧ r = nI nc ∧ nc9 = nc + 1 ∧ fo9 = upd fo nc 1 ∧ th9 = upd th nc 0 ∧ tg9 = upd tg nc x)) (fun u t => match u with | (tw9, nc9, fo9, th9, tg9) => zWo (dC, dI) [(cI, .int), (cZ, .boolean), (cJ, .long)] (w4 b cI cZ tw9 nk pa nc9 fo9 th9 tg9 nt tb te tk tt ex tc es wy ab re go be) (va_A (w4 b cI cZ tw nk pa nc fo th tg nt tb te tk tt ex tc es wy ab re go be) sz) t) (va_A (w4 b cI cZ tw nk pa nc fo th tg nt tb te tk tt ex tc es wy ab re go be) sz)) 0 0 (va_A (w4 b cI cZ tw nk pa nc fo th tg nt tb te tk tt ex tc es wy ab re go be) sz) := by
  refine Met.ofW (cc := cX4_jump) (maxL := 2) (ret := (some .int)) (by decide) rfl ?_
  intro p e s m args below meth c s₁ B hml hv
  obtain ⟨hav, hsz, ⟨hP, hK, hn⟩, hD0⟩ := hv
  have hx := B.exec
  have hb := B.bytes
  have hr := B.returns
  have hts := atoms_spec (ws := wsX4_jump) B.pre
  have hown : s.vm.findClass RX4 = some m.cls := findClass_of_methodNamed B.named
  have hlocks := B.notSynchronized
  subst hsz
  have hD := hD0.self (sz := s.heap.size)
  generalize hAe : (va_A (w4 b cI cZ tw nk pa nc fo th tg nt tb te tk tt ex tc es wy ab re go be) s.heap.size) = A at hD ⊢
  have hA : ∀ q : Nat, s.heap.size ≤ q → A q := fun q h => by rw [← hAe]; exact Or.inr h
  have hS : va_S A s.heap s.heap [] := va_S.rf
  generalize hQ : MQ below (va_Qi (fun (r : Int32) (u : Int32 × Nat × (Nat → Int32) × (Nat → Int32) × (Nat → Int32)) => match u with | (tw9, nc9, fo9, th9, tg9) => (hasI x 48 = false ∧ tw9 = 1 ∧ nc9 = nc ∧ fo9 = fo ∧ th9 = th ∧ tg9 = tg) ∨ (hasI x 48 = true ∧ nc = 48 ∧ tw9 = 2 ∧ nc9 = nc ∧ fo9 = fo ∧ th9 = th ∧ tg9 = tg) ∨ (hasI x 48 = true ∧ nc < 48 ∧ tw9 = 0 ∧ r = nI nc ∧ nc9 = nc + 1 ∧ fo9 = upd fo nc 1 ∧ th9 = upd th nc 0 ∧ tg9 = upd tg nc x)) (fun u t => match u with | (tw9, nc9, fo9, th9, tg9) => zWo (dC, dI) [(cI, .int), (cZ, .boolean), (cJ, .long)] (w4 b cI cZ tw9 nk pa nc9 fo9 th9 tg9 nt tb te tk tt ex tc es wy ab re go be) A t) A) args s 0 0 A = Q
  refine W.eq (g2 := entryFrame m ([.ref (b 0), .int x] : List Value).toArray 2) (by rw [hav]) ?_
  have hl := lv_entry ([.ref (b 0), .int x]) (n := 2) (Nat.le_of_ble_eq_true rfl)
  rw [lg_entry_eq]
  generalize (lg_sl ([.ref (b 0), .int x]) ++ List.replicate (2 - (lg_sl ([.ref (b 0), .int x])).length) Slot.unset).toArray = ls at hl ⊢
  have hl : lv_has ls 2 [(0, .ref (b 0)), (1, .int x)] := hl
  obtain ⟨H, hH⟩ : ∃ H, H = s.heap := ⟨_, rfl⟩
  obtain ⟨locs, hlo⟩ : ∃ q : List Loc, q = [] := ⟨_, rfl⟩
  have hP : va_P (dC, dI) vwCl (w4 b cI cZ tw nk pa nc fo th tg nt tb te tk tt ex tc es wy ab re go be) H := by rw [hH]; exact hP
  have hS : va_S A s.heap H locs := by rw [hH, hlo]; exact hS
  refine zz_hl hH hlo ?_
  obtain ⟨hk01, hk8, hnt, hT, hO, hF, hU⟩ := id hg
  obtain ⟨hnc, hC⟩ := id hc
  refine lv_aload_n hx hb dX4_jump_0 rfl (lv_at hl 0 rfl) ?_
  refine lv_iconst (v := 0) hx hb dX4_jump_1 (by decide) ?_
  refine va_put (D := (dC, dI)) (ci := 4) (v := .int 0) (ty := .int) (C := RX4) (T := TX4) (N := 20) hx hb hts (by decide +kernel) tyX4 tyX4_ok nmX4 hown hK hP hD hS 0 rfl rfl 0 (by decide) (hts (.fieldLink RX4 54 "HandlerOptimizerModel" "thrown" "I") (by decide +kernel)) (fun _ h9 => h9) rfl (by decide +kernel) rfl rfl (Nat.le_of_ble_eq_true rfl) dX4_jump_2 (fun H locs hP hD hS => ?_)
  have hP : va_P (dC, dI) vwCl (w4 b cI cZ 0 nk pa nc fo th tg nt tb te tk tt ex tc es wy ab re go be) H := hP
  have hD : va_D A (w4 b cI cZ 0 nk pa nc fo th tg nt tb te tk tt ex tc es wy ab re go be) := hD
  refine lv_iload_n hx hb dX4_jump_5 rfl (lv_at hl 1 rfl) ?_
  have hPc : va_P (dC, dI) vwCl [] H := fun k q h => by simp at h
  refine va_calli (va_runS (As := [.int x]) (rest := []) ⟨hx, hb, hml, hown, hts⟩ (c_X4_isTarget l dC dI cI cZ cJ x ) (va_cwS 1 hts gX4_jump_X4_isTarget rfl rfl rfl (by decide +kernel) ⟨Nat.le_of_ble_eq_true rfl, Nat.le_of_ble_eq_true rfl⟩) ⟨zPre_blind, zPre_at hPc hK hn⟩ rfl rfl hl.1 rfl (lv_room (Nat.le_of_ble_eq_true rfl)) dX4_jump_6 ⟨Nat.le_of_ble_eq_true rfl, Nat.le_of_ble_eq_true rfl⟩) hS (fun _ _ h => h.elim) (fun _ h => h.elim) (fun r_1 u_9 t H locs ht hvm hw hB hz1 hk1 hS => ?_)
  have hP := zkeep hP hk1
  subst hw
  refine lv_if_eq (tgt := 23) hx hb dX4_jump_9 (by decide) (fun c_2 => ?_) (fun c_2 => ?_)
  · skip
    have c9 := zb_0.mp c_2
    refine lv_aload_n hx hb dX4_jump_23 rfl (lv_at hl 0 rfl) ?_
    refine lv_iconst (v := 1) hx hb dX4_jump_24 (by decide) ?_
    have hDc := hD
    have hFc := va_free (wc := w4 b cI cZ 0 nk pa nc fo th tg nt tb te tk tt ex tc es wy ab re go be) hD hS hA [0, 1, 2, 3, 4, 5, 6, 7, 8, 9, 10, 11, 12] rfl
    refine va_calli (va_runV (As := [.int 1]) (rest := []) ⟨hx, hb, hml, hown, hts⟩ (c_X4_no l dC dI cI cZ cJ b 0 nk pa nc fo th tg nt tb te tk tt ex tc es wy ab re go be 1 H.size ) (cwV 1 hts gX4_jump_X4_no rfl rfl rfl (by decide +kernel) ⟨Nat.le_of_ble_eq_true rfl, Nat.le_of_ble_eq_true rfl⟩) ⟨zWr_blind, va_recv hK hP (ci := 4) (q0 := 0) rfl rfl, zWr_at hP hK hn (hDc.weaken (fun _ _ _ _ => trivial))⟩ rfl rfl hl.1 rfl (lv_room (Nat.le_of_ble_eq_true rfl)) dX4_jump_25 ⟨Nat.le_of_ble_eq_true rfl, Nat.le_of_ble_eq_true rfl⟩) hS (fun q _ h => hFc q h) hFc (fun r_3 u_9 t H1 locs ht hvm hw hB hz1 hk1 hS => ?_)
    obtain ⟨hP1, -, hD1⟩ := hB
    rw [ht] at hP1
    obtain ⟨hP, hD⟩ := va_join (wr := []) (w1 := w4 b cI cZ 1 nk pa nc fo th tg nt tb te tk tt ex tc es wy ab re go be) hP hD [0, 1, 2, 3, 4, 5, 6, 7, 8, 9, 10, 11, 12] [] rfl rfl (by decide) (by decide) hk1 hFc hP1 hD1
    generalize H1 = H at hP hS ⊢
    have hP : va_P (dC, dI) vwCl (w4 b cI cZ 1 nk pa nc fo th tg nt tb te tk tt ex tc es wy ab re go be) H := hP
    have hD : va_D A (w4 b cI cZ 1 nk pa nc fo th tg nt tb te tk tt ex tc es wy ab re go be) := hD
    subst hw
    rw [← hQ]
    have hP9 := hP
    have hD9 := hD
    exact W.iret (v := 0) hx hb hr (fun t ht hW => ⟨⟨0, (1, nc, fo, th, tg), rfl, (by first | exact Or.inl ⟨c9, rfl, rfl, rfl, rfl, rfl⟩ | (rcases hap with ⟨q1, q2, q3⟩ | ⟨q1, q2, q3⟩; exact Or.inr (Or.inl ⟨c9, q1, q2, q3⟩); exact Or.inr (Or.inr ⟨c9, q1, q2, q3⟩))), (by rw [ht]; exact hP9), va_K.moved hW.alike hK, hD9⟩, hS.F ht⟩) hS.2.2 dX4_jump_28
  · skip
    have c9 := zb_1.mp c_2
    refine lv_aload_n hx hb dX4_jump_12 rfl (lv_at hl 0 rfl) ?_
    refine lv_iconst (v := 1) hx hb dX4_jump_13 (by decide) ?_
    refine lv_iconst (v := 0) hx hb dX4_jump_14 (by decide) ?_
    refine lv_iload_n hx hb dX4_jump_15 rfl (lv_at hl 1 rfl) ?_
    refine lv_iconst (v := 2) hx hb dX4_jump_16 (by decide) ?_
    have hDc := hD
    have hFc := va_free (wc := w4 b cI cZ 0 nk pa nc fo th tg nt tb te tk tt ex tc es wy ab re go be) hD hS hA [0, 1, 2, 3, 4, 5, 6, 7, 8, 9, 10, 11, 12] rfl
    refine va_calli (va_runV (As := [.int 1, .int 0, .int x, .int 2]) (rest := []) ⟨hx, hb, hml, hown, hts⟩ (c_X4_append l dC dI cI cZ cJ b 0 nk pa nc fo th tg nt tb te tk tt ex tc es wy ab re go be 1 0 x 2 H.size (by first | assumption | omega)) (cwV 4 hts gX4_jump_X4_append rfl rfl rfl (by decide +kernel) ⟨Nat.le_of_ble_eq_true rfl, Nat.le_of_ble_eq_true rfl⟩) ⟨zWr_blind, va_recv hK hP (ci := 4) (q0 := 0) rfl rfl, zWr_at hP hK hn (hDc.weaken (fun _ _ _ _ => trivial))⟩ rfl rfl hl.1 rfl (lv_room (Nat.le_of_ble_eq_true rfl)) dX4_jump_17 ⟨Nat.le_of_ble_eq_true rfl, Nat.le_of_ble_eq_true rfl⟩) hS (fun q _ h => hFc q h) hFc (fun r_4 u_9 t H1 locs ht hvm hw hB hz1 hk1 hS => ?_)
    obtain ⟨tw_n, nc_n, fo_n, th_n, tg_n⟩ := u_9
    dsimp only at hw hB
    obtain ⟨hP1, -, hD1⟩ := hB
    rw [ht] at hP1
    obtain ⟨hP, hD⟩ := va_join (wr := []) (w1 := w4 b cI cZ tw_n nk pa nc_n fo_n th_n tg_n nt tb te tk tt ex tc es wy ab re go be) hP hD [0, 1, 2, 3, 4, 5, 6, 7, 8, 9, 10, 11, 12] [] rfl rfl (by decide) (by decide) hk1 hFc hP1 hD1
    generalize H1 = H at hP hS ⊢
    have hP : va_P (dC, dI) vwCl (w4 b cI cZ tw_n nk pa nc_n fo_n th_n tg_n nt tb te tk tt ex tc es wy ab re go be) H := hP
    have hD : va_D A (w4 b cI cZ tw_n nk pa nc_n fo_n th_n tg_n nt tb te tk tt ex tc es wy ab re go be) := hD
    have hap := hw
    refine lv_goto (tgt := 28) hx hb dX4_jump_20 (by decide) ?_
    rw [← hQ]
    have hP9 := hP
    have hD9 := hD
    exact W.iret (v := r_4) hx hb hr (fun t ht hW => ⟨⟨r_4, (tw_n, nc_n, fo_n, th_n, tg_n), rfl, (by first | exact Or.inl ⟨c9, rfl, rfl, rfl, rfl, rfl⟩ | (rcases hap with ⟨q1, q2, q3⟩ | ⟨q1, q2, q3⟩; exact Or.inr (Or.inl ⟨c9, q1, q2, q3⟩); exact Or.inr (Or.inr ⟨c9, q1, q2, q3⟩))), (by rw [ht]; exact hP9), va_K.moved hW.alike hK, hD9⟩, hS.F ht⟩) hS.2.2 dX4_jump_28

set_option maxHeartbeats 4000000 in
set_option maxRecDepth 100000 in
theorem c_X4_branch (l : Launch) (dC : Nat → ClassId) (dI : Nat → Nat → Nat) (cI cZ cJ : ClassId) (b : Nat → Nat) (tw : Int32) (nk : Nat) (pa : Nat → Int32) (nc : Nat) (fo : Nat → Int32) (th : Nat → Int32) (tg : Nat → Int32) (nt : Nat) (tb : Nat → Int32) (te : Nat → Int32) (tk : Nat → Int32) (tt : Nat → Int32) (ex : Int32) (tc : Int32) (es : Int32) (wy : Int64) (ab : Nat → Int32) (re : Nat → Int32) (go : Nat → Int32) (be : Nat → Int32) (x : Int32) (y : Int32) (T : Nat → Nat → Nat) (up : Nat → Nat → Bool) (sz : Nat) (hg : g4 nk ab up nt tb te tk tt T) (hc : okC nk nc fo th tg) : Met l yX4_branch wsX4_branch ({ frames := 2, cells := 0, slots := 0, locals := 45 } : Room) (va_Pc [.ref (b 0), .int x, .int y] (zWr (dC, dI) [(cI, .int), (cZ, .boolean), (cJ, .long)] (w4 b cI cZ tw nk pa nc fo th tg nt tb te tk tt ex tc es wy ab re go be) sz)) (va_Qi (fun (r : Int32) (u : Int32 × Nat × (Nat → Int32) × (Nat → Int32) × (Nat → Int32)) => match u with | (tw9, nc9, fo9, th9, tg9) => ((decide (x >>> (nI nk &&& 31) = 0) && hasI y 48) = false ∧ tw9 = 1 ∧ nc9 = nc ∧ fo9 = fo ∧ th9 = th ∧ tg9 = tg) ∨ ((decide (x >>> (nI nk &&& 31) = 0) && hasI y 48) = true ∧ nc = 48 ∧ tw9 = 2 ∧ nc9 = nc ∧ fo9 = fo ∧ th9 = th ∧ tg9 = tg) ∨ ((decide (x >>> (nI nk &&& 31) = 0) && hasI y 48) = true ∧ nc < 48 ∧ tw9 = 0 ∧ r = nI nc ∧ nc9 = nc + 1 ∧ fo9 = upd fo nc 2 ∧ th9 = upd th nc x ∧ tg9 = upd tg nc y)) (fun u t => match u with | (tw9, nc9, fo9, th9, tg9) => zWo (dC, dI) [(cI, .int), (cZ, .boolean), (cJ, .long)] (w4 b cI cZ tw9 nk pa nc9 fo9 th9 tg9 nt tb te tk tt ex tc es wy ab re go be) (va_A (w4 b cI cZ tw nk pa nc fo th tg nt tb te tk tt ex tc es wy ab re go be) sz) t) (va_A (w4 b cI cZ tw nk pa nc fo th tg nt tb te tk tt ex tc es wy ab re go be) sz)) 0 0 (va_A (w4 b cI cZ tw nk pa nc fo th tg nt tb te tk tt ex tc es wy ab re go be) sz) := by
  refine Met.ofW (cc := cX4_branch) (maxL := 3) (ret := (some .int)) (by decide) rfl ?_
  intro p e s m args below meth c s₁ B hml hv
  obtain ⟨hav, hsz, ⟨hP, hK, hn⟩, hD0⟩ := hv
  have hx := B.exec
  have hb := B.bytes
  have hr := B.returns
  have hts := atoms_spec (ws := wsX4_branch) B.pre
  have hown : s.vm.findClass RX4 = some m.cls := findClass_of_methodNamed B.named
  have hlocks := B.notSynchronized
  subst hsz
  have hD := hD0.self (sz := s.heap.size)
  generalize hAe : (va_A (w4 b cI cZ tw nk pa nc fo th tg nt tb te tk tt ex tc es wy ab re go be) s.heap.size) = A at hD ⊢
  have hA : ∀ q : Nat, s.heap.size ≤ q → A q := fun q h => by rw [← hAe]; exact Or.inr h
  have hS : va_S A s.heap s.heap [] := va_S.rf
  generalize hQ : MQ below (va_Qi (fun (r : Int32) (u : Int32 × Nat × (Nat → Int32) × (Nat → Int32) × (Nat → Int32)) => match u with | (tw9, nc9, fo9, th9, tg9) => ((decide (x >>> (nI nk &&& 31) = 0) && hasI y 48) = false ∧ tw9 = 1 ∧ nc9 = nc ∧ fo9 = fo ∧ th9 = th ∧ tg9 = tg) ∨ ((decide (x >>> (nI nk &&& 31) = 0) && hasI y 48) = true ∧ nc = 48 ∧ tw9 = 2 ∧ nc9 = nc ∧ fo9 = fo ∧ th9 = th ∧ tg9 = tg) ∨ ((decide (x >>> (nI nk &&& 31) = 0) && hasI y 48) = true ∧ nc < 48 ∧ tw9 = 0 ∧ r = nI nc ∧ nc9 = nc + 1 ∧ fo9 = upd fo nc 2 ∧ th9 = upd th nc x ∧ tg9 = upd tg nc y)) (fun u t => match u with | (tw9, nc9, fo9, th9, tg9) => zWo (dC, dI) [(cI, .int), (cZ, .boolean), (cJ, .long)] (w4 b cI cZ tw9 nk pa nc9 fo9 th9 tg9 nt tb te tk tt ex tc es wy ab re go be) A t) A) args s 0 0 A = Q
  refine W.eq (g2 := entryFrame m ([.ref (b 0), .int x, .int y] : List Value).toArray 3) (by rw [hav]) ?_
  have hl := lv_entry ([.ref (b 0), .int x, .int y]) (n := 3) (Nat.le_of_ble_eq_true rfl)
  rw [lg_entry_eq]
  generalize (lg_sl ([.ref (b 0), .int x, .int y]) ++ List.replicate (3 - (lg_sl ([.ref (b 0), .int x, .int y])).length) Slot.unset).toArray = ls at hl ⊢
  have hl : lv_has ls 3 [(0, .ref (b 0)), (1, .int x), (2, .int y)] := hl
  obtain ⟨H, hH⟩ : ∃ H, H = s.heap := ⟨_, rfl⟩
  obtain ⟨locs, hlo⟩ : ∃ q : List Loc, q = [] := ⟨_, rfl⟩
  have hP : va_P (dC, dI) vwCl (w4 b cI cZ tw nk pa nc fo th tg nt tb te tk tt ex tc es wy ab re go be) H := by rw [hH]; exact hP
  have hS : va_S A s.heap H locs := by rw [hH, hlo]; exact hS
  refine zz_hl hH hlo ?_
  obtain ⟨hk01, hk8, hnt, hT, hO, hF, hU⟩ := id hg
  obtain ⟨hnc, hC⟩ := id hc
  refine lv_aload_n hx hb dX4_branch_0 rfl (lv_at hl 0 rfl) ?_
  refine lv_iconst (v := 0) hx hb dX4_branch_1 (by decide) ?_
  refine va_put (D := (dC, dI)) (ci := 4) (v := .int 0) (ty := .int) (C := RX4) (T := TX4) (N := 20) hx hb hts (by decide +kernel) tyX4 tyX4_ok nmX4 hown hK hP hD hS 0 rfl rfl 0 (by decide) (hts (.fieldLink RX4 54 "HandlerOptimizerModel" "thrown" "I") (by decide +kernel)) (fun _ h9 => h9) rfl (by decide +kernel) rfl rfl (Nat.le_of_ble_eq_true rfl) dX4_branch_2 (fun H locs hP hD hS => ?_)
  have hP : va_P (dC, dI) vwCl (w4 b cI cZ 0 nk pa nc fo th tg nt tb te tk tt ex tc es wy ab re go be) H := hP
  have hD : va_D A (w4 b cI cZ 0 nk pa nc fo th tg nt tb te tk tt ex tc es wy ab re go be) := hD
  refine lv_aload_n hx hb dX4_branch_5 rfl (lv_at hl 0 rfl) ?_
  refine lv_iload_n hx hb dX4_branch_6 rfl (lv_at hl 1 rfl) ?_
  refine va_calli (va_runV (As := [.int x]) (rest := []) ⟨hx, hb, hml, hown, hts⟩ (c_X4_areKinds l dC dI cI cZ cJ b 0 nk pa nc fo th tg nt tb te tk tt ex tc es wy ab re go be x (hk8)) (cwV 1 hts gX4_branch_X4_areKinds rfl rfl rfl (by decide +kernel) ⟨Nat.le_of_ble_eq_true rfl, Nat.le_of_ble_eq_true rfl⟩) ⟨zPre_blind, va_recv hK hP (ci := 4) (q0 := 0) rfl rfl, zPre_at hP hK hn⟩ rfl rfl hl.1 rfl (lv_room (Nat.le_of_ble_eq_true rfl)) dX4_branch_7 ⟨Nat.le_of_ble_eq_true rfl, Nat.le_of_ble_eq_true rfl⟩) hS (fun _ _ h => h.elim) (fun _ h => h.elim) (fun r_1 u_9 t H locs ht hvm hw hB hz1 hk1 hS => ?_)
  have hP := zkeep hP hk1
  subst hw
  refine lv_if_eq (tgt := 31) hx hb dX4_branch_10 (by decide) (fun c_2 => ?_) (fun c_2 => ?_)
  · skip
    have c9 : (decide (x >>> (nI nk &&& 31) = 0) && hasI y 48) = false := by rw [zb_0.mp c_2]; rfl
    refine lv_aload_n hx hb dX4_branch_31 rfl (lv_at hl 0 rfl) ?_
    refine lv_iconst (v := 1) hx hb dX4_branch_32 (by decide) ?_
    have hDc := hD
    have hFc := va_free (wc := w4 b cI cZ 0 nk pa nc fo th tg nt tb te tk tt ex tc es wy ab re go be) hD hS hA [0, 1, 2, 3, 4, 5, 6, 7, 8, 9, 10, 11, 12] rfl
    refine va_calli (va_runV (As := [.int 1]) (rest := []) ⟨hx, hb, hml, hown, hts⟩ (c_X4_no l dC dI cI cZ cJ b 0 nk pa nc fo th tg nt tb te tk tt ex tc es wy ab re go be 1 H.size ) (cwV 1 hts gX4_branch_X4_no rfl rfl rfl (by decide +kernel) ⟨Nat.le_of_ble_eq_true rfl, Nat.le_of_ble_eq_true rfl⟩) ⟨zWr_blind, va_recv hK hP (ci := 4) (q0 := 0) rfl rfl, zWr_at hP hK hn (hDc.weaken (fun _ _ _ _ => trivial))⟩ rfl rfl hl.1 rfl (lv_room (Nat.le_of_ble_eq_true rfl)) dX4_branch_33 ⟨Nat.le_of_ble_eq_true rfl, Nat.le_of_ble_eq_true rfl⟩) hS (fun q _ h => hFc q h) hFc (fun r_3 u_9 t H1 locs ht hvm hw hB hz1 hk1 hS => ?_)
    obtain ⟨hP1, -, hD1⟩ := hB
    rw [ht] at hP1
    obtain ⟨hP, hD⟩ := va_join (wr := []) (w1 := w4 b cI cZ 1 nk pa nc fo th tg nt tb te tk tt ex tc es wy ab re go be) hP hD [0, 1, 2, 3, 4, 5, 6, 7, 8, 9, 10, 11, 12] [] rfl rfl (by decide) (by decide) hk1 hFc hP1 hD1
    generalize H1 = H at hP hS ⊢
    have hP : va_P (dC, dI) vwCl (w4 b cI cZ 1 nk pa nc fo th tg nt tb te tk tt ex tc es wy ab re go be) H := hP
    have hD : va_D A (w4 b cI cZ 1 nk pa nc fo th tg nt tb te tk tt ex tc es wy ab re go be) := hD
    subst hw
    rw [← hQ]
    have hP9 := hP
    have hD9 := hD
    exact W.iret (v := 0) hx hb hr (fun t ht hW => ⟨⟨0, (1, nc, fo, th, tg), rfl, (by first | exact Or.inl ⟨c9, rfl, rfl, rfl, rfl, rfl⟩ | (rcases hap with ⟨q1, q2, q3⟩ | ⟨q1, q2, q3⟩; exact Or.inr (Or.inl ⟨c9, q1, q2, q3⟩); exact Or.inr (Or.inr ⟨c9, q1, q2, q3⟩))), (by rw [ht]; exact hP9), va_K.moved hW.alike hK, hD9⟩, hS.F ht⟩) hS.2.2 dX4_branch_36
  · skip
    have c5 := zb_1.mp c_2
    refine lv_iload_n hx hb dX4_branch_13 rfl (lv_at hl 2 rfl) ?_
    have hPc : va_P (dC, dI) vwCl [] H := fun k q h => by simp at h
    refine va_calli (va_runS (As := [.int y]) (rest := []) ⟨hx, hb, hml, hown, hts⟩ (c_X4_isTarget l dC dI cI cZ cJ y ) (va_cwS 1 hts gX4_branch_X4_isTarget rfl rfl rfl (by decide +kernel) ⟨Nat.le_of_ble_eq_true rfl, Nat.le_of_ble_eq_true rfl⟩) ⟨zPre_blind, zPre_at hPc hK hn⟩ rfl rfl hl.1 rfl (lv_room (Nat.le_of_ble_eq_true rfl)) dX4_branch_14 ⟨Nat.le_of_ble_eq_true rfl, Nat.le_of_ble_eq_true rfl⟩) hS (fun _ _ h => h.elim) (fun _ h => h.elim) (fun r_4 u_9 t H locs ht hvm hw hB hz1 hk1 hS => ?_)
    have hP := zkeep hP hk1
    subst hw
    refine lv_if_eq (tgt := 31) hx hb dX4_branch_17 (by decide) (fun c_5 => ?_) (fun c_5 => ?_)
    · skip
      have c9 : (decide (x >>> (nI nk &&& 31) = 0) && hasI y 48) = false := by rw [zb_0.mp c_5]; exact Bool.and_false _
      refine lv_aload_n hx hb dX4_branch_31 rfl (lv_at hl 0 rfl) ?_
      refine lv_iconst (v := 1) hx hb dX4_branch_32 (by decide) ?_
      have hDc := hD
      have hFc := va_free (wc := w4 b cI cZ 0 nk pa nc fo th tg nt tb te tk tt ex tc es wy ab re go be) hD hS hA [0, 1, 2, 3, 4, 5, 6, 7, 8, 9, 10, 11, 12] rfl
      refine va_calli (va_runV (As := [.int 1]) (rest := []) ⟨hx, hb, hml, hown, hts⟩ (c_X4_no l dC dI cI cZ cJ b 0 nk pa nc fo th tg nt tb te tk tt ex tc es wy ab re go be 1 H.size ) (cwV 1 hts gX4_branch_X4_no rfl rfl rfl (by decide +kernel) ⟨Nat.le_of_ble_eq_true rfl, Nat.le_of_ble_eq_true rfl⟩) ⟨zWr_blind, va_recv hK hP (ci := 4) (q0 := 0) rfl rfl, zWr_at hP hK hn (hDc.weaken (fun _ _ _ _ => trivial))⟩ rfl rfl hl.1 rfl (lv_room (Nat.le_of_ble_eq_true rfl)) dX4_branch_33 ⟨Nat.le_of_ble_eq_true rfl, Nat.le_of_ble_eq_true rfl⟩) hS (fun q _ h => hFc q h) hFc (fun r_6 u_9 t H1 locs ht hvm hw hB hz1 hk1 hS => ?_)
      obtain ⟨hP1, -, hD1⟩ := hB
      rw [ht] at hP1
      obtain ⟨hP, hD⟩ := va_join (wr := []) (w1 := w4 b cI cZ 1 nk pa nc fo th tg nt tb te tk tt ex tc es wy ab re go be) hP hD [0, 1, 2, 3, 4, 5, 6, 7, 8, 9, 10, 11, 12] [] rfl rfl (by decide) (by decide) hk1 hFc hP1 hD1
      generalize H1 = H at hP hS ⊢
      have hP : va_P (dC, dI) vwCl (w4 b cI cZ 1 nk pa nc fo th tg nt tb te tk tt ex tc es wy ab re go be) H := hP
      have hD : va_D A (w4 b cI cZ 1 nk pa nc fo th tg nt tb te tk tt ex tc es wy ab re go be) := hD
      subst hw
      rw [← hQ]
      have hP9 := hP
      have hD9 := hD
      exact W.iret (v := 0) hx hb hr (fun t ht hW => ⟨⟨0, (1, nc, fo, th, tg), rfl, (by first | exact Or.inl ⟨c9, rfl, rfl, rfl, rfl, rfl⟩ | (rcases hap with ⟨q1, q2, q3⟩ | ⟨q1, q2, q3⟩; exact Or.inr (Or.inl ⟨c9, q1, q2, q3⟩); exact Or.inr (Or.inr ⟨c9, q1, q2, q3⟩))), (by rw [ht]; exact hP9), va_K.moved hW.alike hK, hD9⟩, hS.F ht⟩) hS.2.2 dX4_branch_36
    · skip
      have c6 := zb_1.mp c_5
      have c9 : (decide (x >>> (nI nk &&& 31) = 0) && hasI y 48) = true := by rw [c5, c6]; rfl
      refine lv_aload_n hx hb dX4_branch_20 rfl (lv_at hl 0 rfl) ?_
      refine lv_iconst (v := 2) hx hb dX4_branch_21 (by decide) ?_
      refine lv_iload_n hx hb dX4_branch_22 rfl (lv_at hl 1 rfl) ?_
      refine lv_iload_n hx hb dX4_branch_23 rfl (lv_at hl 2 rfl) ?_
      refine lv_iconst (v := 2) hx hb dX4_branch_24 (by decide) ?_
      have hDc := hD
      have hFc := va_free (wc := w4 b cI cZ 0 nk pa nc fo th tg nt tb te tk tt ex tc es wy ab re go be) hD hS hA [0, 1, 2, 3, 4, 5, 6, 7, 8, 9, 10, 11, 12] rfl
      refine va_calli (va_runV (As := [.int 2, .int x, .int y, .int 2]) (rest := []) ⟨hx, hb, hml, hown, hts⟩ (c_X4_append l dC dI cI cZ cJ b 0 nk pa nc fo th tg nt tb te tk tt ex tc es wy ab re go be 2 x y 2 H.size (by first | assumption | omega)) (cwV 4 hts gX4_branch_X4_append rfl rfl rfl (by decide +kernel) ⟨Nat.le_of_ble_eq_true rfl, Nat.le_of_ble_eq_true rfl⟩) ⟨zWr_blind, va_recv hK hP (ci := 4) (q0 := 0) rfl rfl, zWr_at hP hK hn (hDc.weaken (fun _ _ _ _ => trivial))⟩ rfl rfl hl.1 rfl (lv_room (Nat.le_of_ble_eq_true rfl)) dX4_branch_25 ⟨Nat.le_of_ble_eq_true rfl, Nat.le_of_ble_eq_true rfl⟩) hS (fun q _ h => hFc q h) hFc (fun r_7 u_9 t H1 locs ht hvm hw hB hz1 hk1 hS => ?_)
      obtain ⟨tw_n, nc_n, fo_n, th_n, tg_n⟩ := u_9
      dsimp only at hw hB
      obtain ⟨hP1, -, hD1⟩ := hB
      rw [ht] at hP1
      obtain ⟨hP, hD⟩ := va_join (wr := []) (w1 := w4 b cI cZ tw_n nk pa nc_n fo_n th_n tg_n nt tb te tk tt ex tc es wy ab re go be) hP hD [0, 1, 2, 3, 4, 5, 6, 7, 8, 9, 10, 11, 12] [] rfl rfl (by decide) (by decide) hk1 hFc hP1 hD1
      generalize H1 = H at hP hS ⊢
      have hP : va_P (dC, dI) vwCl (w4 b cI cZ tw_n nk pa nc_n fo_n th_n tg_n nt tb te tk tt ex tc es wy ab re go be) H := hP
      have hD : va_D A (w4 b cI cZ tw_n nk pa nc_n fo_n th_n tg_n nt tb te tk tt ex tc es wy ab re go be) := hD
      have hap := hw
      refine lv_goto (tgt := 36) hx hb dX4_branch_28 (by decide) ?_
      rw [← hQ]
      have hP9 := hP
      have hD9 := hD
      exact W.iret (v := r_7) hx hb hr (fun t ht hW => ⟨⟨r_7, (tw_n, nc_n, fo_n, th_n, tg_n), rfl, (by first | exact Or.inl ⟨c9, rfl, rfl, rfl, rfl, rfl⟩ | (rcases hap with ⟨q1, q2, q3⟩ | ⟨q1, q2, q3⟩; exact Or.inr (Or.inl ⟨c9, q1, q2, q3⟩); exact Or.inr (Or.inr ⟨c9, q1, q2, q3⟩))), (by rw [ht]; exact hP9), va_K.moved hW.alike hK, hD9⟩, hS.F ht⟩) hS.2.2 dX4_branch_36

set_option maxHeartbeats 4000000 in
set_option maxRecDepth 100000 in
theorem c_X4_raise (l : Launch) (dC : Nat → ClassId) (dI : Nat → Nat → Nat) (cI cZ cJ : ClassId) (b : Nat → Nat) (tw : Int32) (nk : Nat) (pa : Nat → Int32) (nc : Nat) (fo : Nat → Int32) (th : Nat → Int32) (tg : Nat → Int32) (nt : Nat) (tb : Nat → Int32) (te : Nat → Int32) (tk : Nat → Int32) (tt : Nat → Int32) (ex : Int32) (tc : Int32) (es : Int32) (wy : Int64) (ab : Nat → Int32) (re : Nat → Int32) (go : Nat → Int32) (be : Nat → Int32) (x : Int32) (T : Nat → Nat → Nat) (up : Nat → Nat → Bool) (sz : Nat) (hg : g4 nk ab up nt tb te tk tt T) (hc : okC nk nc fo th tg) : Met l yX4_raise wsX4_raise ({ frames := 2, cells := 0, slots := 0, locals := 45 } : Room) (va_Pc [.ref (b 0), .int x] (zWr (dC, dI) [(cI, .int), (cZ, .boolean), (cJ, .long)] (w4 b cI cZ tw nk pa nc fo th tg nt tb te tk tt ex tc es wy ab re go be) sz)) (va_Qi (fun (r : Int32) (u : Int32 × Nat × (Nat → Int32) × (Nat → Int32) × (Nat → Int32)) => match u with | (tw9, nc9, fo9, th9, tg9) => (hasI x nk = false ∧ tw9 = 1 ∧ nc9 = nc ∧ fo9 = fo ∧ th9 = th ∧ tg9 = tg) ∨ (hasI x nk = true ∧ nc = 48 ∧ tw9 = 2 ∧ nc9 = nc ∧ fo9 = fo ∧ th9 = th ∧ tg9 = tg) ∨ (hasI x nk = true ∧ nc < 48 ∧ tw9 = 0 ∧ r = nI nc ∧ nc9 = nc + 1 ∧ fo9 = upd fo nc 4 ∧ th9 = upd th nc (1 <<< (x &&& 31)) ∧ tg9 = upd tg nc (-1))) (fun u t => match u with | (tw9, nc9, fo9, th9, tg9) => zWo (dC, dI) [(cI, .int), (cZ, .boolean), (cJ, .long)] (w4 b cI cZ tw9 nk pa nc9 fo9 th9 tg9 nt tb te tk tt ex tc es wy ab re go be) (va_A (w4 b cI cZ tw nk pa nc fo th tg nt tb te tk tt ex tc es wy ab re go be) sz) t) (va_A (w4 b cI cZ tw nk pa nc fo th tg nt tb te tk tt ex tc es wy ab re go be) sz)) 0 0 (va_A (w4 b cI cZ tw nk pa nc fo th tg nt tb te tk tt ex tc es wy ab re go be) sz) := by
  refine Met.ofW (cc := cX4_raise) (maxL := 2) (ret := (some .int)) (by decide) rfl ?_
  intro p e s m args below meth c s₁ B hml hv
  obtain ⟨hav, hsz, ⟨hP, hK, hn⟩, hD0⟩ := hv
  have hx := B.exec
  have hb := B.bytes
  have hr := B.returns
  have hts := atoms_spec (ws := wsX4_raise) B.pre
  have hown : s.vm.findClass RX4 = some m.cls := findClass_of_methodNamed B.named
  have hlocks := B.notSynchronized
  subst hsz
  have hD := hD0.self (sz := s.heap.size)
  generalize hAe : (va_A (w4 b cI cZ tw nk pa nc fo th tg nt tb te tk tt ex tc es wy ab re go be) s.heap.size) = A at hD ⊢
  have hA : ∀ q : Nat, s.heap.size ≤ q → A q := fun q h => by rw [← hAe]; exact Or.inr h
  have hS : va_S A s.heap s.heap [] := va_S.rf
  generalize hQ : MQ below (va_Qi (fun (r : Int32) (u : Int32 × Nat × (Nat → Int32) × (Nat → Int32) × (Nat → Int32)) => match u with | (tw9, nc9, fo9, th9, tg9) => (hasI x nk = false ∧ tw9 = 1 ∧ nc9 = nc ∧ fo9 = fo ∧ th9 = th ∧ tg9 = tg) ∨ (hasI x nk = true ∧ nc = 48 ∧ tw9 = 2 ∧ nc9 = nc ∧ fo9 = fo ∧ th9 = th ∧ tg9 = tg) ∨ (hasI x nk = true ∧ nc < 48 ∧ tw9 = 0 ∧ r = nI nc ∧ nc9 = nc + 1 ∧ fo9 = upd fo nc 4 ∧ th9 = upd th nc (1 <<< (x &&& 31)) ∧ tg9 = upd tg nc (-1))) (fun u t => match u with | (tw9, nc9, fo9, th9, tg9) => zWo (dC, dI) [(cI, .int), (cZ, .boolean), (cJ, .long)] (w4 b cI cZ tw9 nk pa nc9 fo9 th9 tg9 nt tb te tk tt ex tc es wy ab re go be) A t) A) args s 0 0 A = Q
  refine W.eq (g2 := entryFrame m ([.ref (b 0), .int x] : List Value).toArray 2) (by rw [hav]) ?_
  have hl := lv_entry ([.ref (b 0), .int x]) (n := 2) (Nat.le_of_ble_eq_true rfl)
  rw [lg_entry_eq]
  generalize (lg_sl ([.ref (b 0), .int x]) ++ List.replicate (2 - (lg_sl ([.ref (b 0), .int x])).length) Slot.unset).toArray = ls at hl ⊢
  have hl : lv_has ls 2 [(0, .ref (b 0)), (1, .int x)] := hl
  obtain ⟨H, hH⟩ : ∃ H, H = s.heap := ⟨_, rfl⟩
  obtain ⟨locs, hlo⟩ : ∃ q : List Loc, q = [] := ⟨_, rfl⟩
  have hP : va_P (dC, dI) vwCl (w4 b cI cZ tw nk pa nc fo th tg nt tb te tk tt ex tc es wy ab re go be) H := by rw [hH]; exact hP
  have hS : va_S A s.heap H locs := by rw [hH, hlo]; exact hS
  refine zz_hl hH hlo ?_
  obtain ⟨hk01, hk8, hnt, hT, hO, hF, hU⟩ := id hg
  obtain ⟨hnc, hC⟩ := id hc
  refine lv_aload_n hx hb dX4_raise_0 rfl (lv_at hl 0 rfl) ?_
  refine lv_iconst (v := 0) hx hb dX4_raise_1 (by decide) ?_
  refine va_put (D := (dC, dI)) (ci := 4) (v := .int 0) (ty := .int) (C := RX4) (T := TX4) (N := 20) hx hb hts (by decide +kernel) tyX4 tyX4_ok nmX4 hown hK hP hD hS 0 rfl rfl 0 (by decide) (hts (.fieldLink RX4 54 "HandlerOptimizerModel" "thrown" "I") (by decide +kernel)) (fun _ h9 => h9) rfl (by decide +kernel) rfl rfl (Nat.le_of_ble_eq_true rfl) dX4_raise_2 (fun H locs hP hD hS => ?_)
  have hP : va_P (dC, dI) vwCl (w4 b cI cZ 0 nk pa nc fo th tg nt tb te tk tt ex tc es wy ab re go be) H := hP
  have hD : va_D A (w4 b cI cZ 0 nk pa nc fo th tg nt tb te tk tt ex tc es wy ab re go be) := hD
  refine lv_aload_n hx hb dX4_raise_5 rfl (lv_at hl 0 rfl) ?_
  refine lv_iload_n hx hb dX4_raise_6 rfl (lv_at hl 1 rfl) ?_
  refine va_calli (va_runV (As := [.int x]) (rest := []) ⟨hx, hb, hml, hown, hts⟩ (c_X4_isKind l dC dI cI cZ cJ b 0 nk pa nc fo th tg nt tb te tk tt ex tc es wy ab re go be x (by omega)) (cwV 1 hts gX4_raise_X4_isKind rfl rfl rfl (by decide +kernel) ⟨Nat.le_of_ble_eq_true rfl, Nat.le_of_ble_eq_true rfl⟩) ⟨zPre_blind, va_recv hK hP (ci := 4) (q0 := 0) rfl rfl, zPre_at hP hK hn⟩ rfl rfl hl.1 rfl (lv_room (Nat.le_of_ble_eq_true rfl)) dX4_raise_7 ⟨Nat.le_of_ble_eq_true rfl, Nat.le_of_ble_eq_true rfl⟩) hS (fun _ _ h => h.elim) (fun _ h => h.elim) (fun r_1 u_9 t H locs ht hvm hw hB hz1 hk1 hS => ?_)
  have hP := zkeep hP hk1
  subst hw
  refine lv_if_eq (tgt := 26) hx hb dX4_raise_10 (by decide) (fun c_2 => ?_) (fun c_2 => ?_)
  · skip
    have c9 := zb_0.mp c_2
    refine lv_aload_n hx hb dX4_raise_26 rfl (lv_at hl 0 rfl) ?_
    refine lv_iconst (v := 1) hx hb dX4_raise_27 (by decide) ?_
    have hDc := hD
    have hFc := va_free (wc := w4 b cI cZ 0 nk pa nc fo th tg nt tb te tk tt ex tc es wy ab re go be) hD hS hA [0, 1, 2, 3, 4, 5, 6, 7, 8, 9, 10, 11, 12] rfl
    refine va_calli (va_runV (As := [.int 1]) (rest := []) ⟨hx, hb, hml, hown, hts⟩ (c_X4_no l dC dI cI cZ cJ b 0 nk pa nc fo th tg nt tb te tk tt ex tc es wy ab re go be 1 H.size ) (cwV 1 hts gX4_raise_X4_no rfl rfl rfl (by decide +kernel) ⟨Nat.le_of_ble_eq_true rfl, Nat.le_of_ble_eq_true rfl⟩) ⟨zWr_blind, va_recv hK hP (ci := 4) (q0 := 0) rfl rfl, zWr_at hP hK hn (hDc.weaken (fun _ _ _ _ => trivial))⟩ rfl rfl hl.1 rfl (lv_room (Nat.le_of_ble_eq_true rfl)) dX4_raise_28 ⟨Nat.le_of_ble_eq_true rfl, Nat.le_of_ble_eq_true rfl⟩) hS (fun q _ h => hFc q h) hFc (fun r_3 u_9 t H1 locs ht hvm hw hB hz1 hk1 hS => ?_)
    obtain ⟨hP1, -, hD1⟩ := hB
    rw [ht] at hP1
    obtain ⟨hP, hD⟩ := va_join (wr := []) (w1 := w4 b cI cZ 1 nk pa nc fo th tg nt tb te tk tt ex tc es wy ab re go be) hP hD [0, 1, 2, 3, 4, 5, 6, 7, 8, 9, 10, 11, 12] [] rfl rfl (by decide) (by decide) hk1 hFc hP1 hD1
    generalize H1 = H at hP hS ⊢
    have hP : va_P (dC, dI) vwCl (w4 b cI cZ 1 nk pa nc fo th tg nt tb te tk tt ex tc es wy ab re go be) H := hP
    have hD : va_D A (w4 b cI cZ 1 nk pa nc fo th tg nt tb te tk tt ex tc es wy ab re go be) := hD
    subst hw
    rw [← hQ]
    have hP9 := hP
    have hD9 := hD
    exact W.iret (v := 0) hx hb hr (fun t ht hW => ⟨⟨0, (1, nc, fo, th, tg), rfl, (by first | exact Or.inl ⟨c9, rfl, rfl, rfl, rfl, rfl⟩ | (rcases hap with ⟨q1, q2, q3⟩ | ⟨q1, q2, q3⟩; exact Or.inr (Or.inl ⟨c9, q1, q2, q3⟩); exact Or.inr (Or.inr ⟨c9, q1, q2, q3⟩))), (by rw [ht]; exact hP9), va_K.moved hW.alike hK, hD9⟩, hS.F ht⟩) hS.2.2 dX4_raise_31
  · skip
    have c9 := zb_1.mp c_2
    refine lv_aload_n hx hb dX4_raise_13 rfl (lv_at hl 0 rfl) ?_
    refine lv_iconst (v := 4) hx hb dX4_raise_14 (by decide) ?_
    refine lv_iconst (v := 1) hx hb dX4_raise_15 (by decide) ?_
    refine lv_iload_n hx hb dX4_raise_16 rfl (lv_at hl 1 rfl) ?_
    refine lv_ishl hx hb dX4_raise_17 ?_
    refine lv_iconst (v := -1) hx hb dX4_raise_18 (by decide) ?_
    refine lv_iconst (v := 2) hx hb dX4_raise_19 (by decide) ?_
    have hDc := hD
    have hFc := va_free (wc := w4 b cI cZ 0 nk pa nc fo th tg nt tb te tk tt ex tc es wy ab re go be) hD hS hA [0, 1, 2, 3, 4, 5, 6, 7, 8, 9, 10, 11, 12] rfl
    refine va_calli (va_runV (As := [.int 4, .int (1 <<< (x &&& 31)), .int (-1), .int 2]) (rest := []) ⟨hx, hb, hml, hown, hts⟩ (c_X4_append l dC dI cI cZ cJ b 0 nk pa nc fo th tg nt tb te tk tt ex tc es wy ab re go be 4 (1 <<< (x &&& 31)) (-1) 2 H.size (by first | assumption | omega)) (cwV 4 hts gX4_raise_X4_append rfl rfl rfl (by decide +kernel) ⟨Nat.le_of_ble_eq_true rfl, Nat.le_of_ble_eq_true rfl⟩) ⟨zWr_blind, va_recv hK hP (ci := 4) (q0 := 0) rfl rfl, zWr_at hP hK hn (hDc.weaken (fun _ _ _ _ => trivial))⟩ rfl rfl hl.1 rfl (lv_room (Nat.le_of_ble_eq_true rfl)) dX4_raise_20 ⟨Nat.le_of_ble_eq_true rfl, Nat.le_of_ble_eq_true rfl⟩) hS (fun q _ h => hFc q h) hFc (fun r_4 u_9 t H1 locs ht hvm hw hB hz1 hk1 hS => ?_)
    obtain ⟨tw_n, nc_n, fo_n, th_n, tg_n⟩ := u_9
    dsimp only at hw hB
    obtain ⟨hP1, -, hD1⟩ := hB
    rw [ht] at hP1
    obtain ⟨hP, hD⟩ := va_join (wr := []) (w1 := w4 b cI cZ tw_n nk pa nc_n fo_n th_n tg_n nt tb te tk tt ex tc es wy ab re go be) hP hD [0, 1, 2, 3, 4, 5, 6, 7, 8, 9, 10, 11, 12] [] rfl rfl (by decide) (by decide) hk1 hFc hP1 hD1
    generalize H1 = H at hP hS ⊢
    have hP : va_P (dC, dI) vwCl (w4 b cI cZ tw_n nk pa nc_n fo_n th_n tg_n nt tb te tk tt ex tc es wy ab re go be) H := hP
    have hD : va_D A (w4 b cI cZ tw_n nk pa nc_n fo_n th_n tg_n nt tb te tk tt ex tc es wy ab re go be) := hD
    have hap := hw
    refine lv_goto (tgt := 31) hx hb dX4_raise_23 (by decide) ?_
    rw [← hQ]
    have hP9 := hP
    have hD9 := hD
    exact W.iret (v := r_4) hx hb hr (fun t ht hW => ⟨⟨r_4, (tw_n, nc_n, fo_n, th_n, tg_n), rfl, (by first | exact Or.inl ⟨c9, rfl, rfl, rfl, rfl, rfl⟩ | (rcases hap with ⟨q1, q2, q3⟩ | ⟨q1, q2, q3⟩; exact Or.inr (Or.inl ⟨c9, q1, q2, q3⟩); exact Or.inr (Or.inr ⟨c9, q1, q2, q3⟩))), (by rw [ht]; exact hP9), va_K.moved hW.alike hK, hD9⟩, hS.F ht⟩) hS.2.2 dX4_raise_31

set_option maxHeartbeats 4000000 in
set_option maxRecDepth 100000 in
theorem c_X4_end (l : Launch) (dC : Nat → ClassId) (dI : Nat → Nat → Nat) (cI cZ cJ : ClassId) (b : Nat → Nat) (tw : Int32) (nk : Nat) (pa : Nat → Int32) (nc : Nat) (fo : Nat → Int32) (th : Nat → Int32) (tg : Nat → Int32) (nt : Nat) (tb : Nat → Int32) (te : Nat → Int32) (tk : Nat → Int32) (tt : Nat → Int32) (ex : Int32) (tc : Int32) (es : Int32) (wy : Int64) (ab : Nat → Int32) (re : Nat → Int32) (go : Nat → Int32) (be : Nat → Int32) (T : Nat → Nat → Nat) (up : Nat → Nat → Bool) (sz : Nat) (hg : g4 nk ab up nt tb te tk tt T) (hc : okC nk nc fo th tg) : Met l yX4_end wsX4_end ({ frames := 2, cells := 0, slots := 0, locals := 45 } : Room) (va_Pc [.ref (b 0)] (zWr (dC, dI) [(cI, .int), (cZ, .boolean), (cJ, .long)] (w4 b cI cZ tw nk pa nc fo th tg nt tb te tk tt ex tc es wy ab re go be) sz)) (va_Qi (fun (r : Int32) (u : Int32 × Nat × (Nat → Int32) × (Nat → Int32) × (Nat → Int32)) => match u with | (tw9, nc9, fo9, th9, tg9) => (nc = 48 ∧ tw9 = 1 ∧ nc9 = nc ∧ fo9 = fo ∧ th9 = th ∧ tg9 = tg) ∨ (nc < 48 ∧ tw9 = 0 ∧ r = nI nc ∧ nc9 = nc + 1 ∧ fo9 = upd fo nc 3 ∧ th9 = upd th nc 0 ∧ tg9 = upd tg nc (-1))) (fun u t => match u with | (tw9, nc9, fo9, th9, tg9) => zWo (dC, dI) [(cI, .int), (cZ, .boolean), (cJ, .long)] (w4 b cI cZ tw9 nk pa nc9 fo9 th9 tg9 nt tb te tk tt ex tc es wy ab re go be) (va_A (w4 b cI cZ tw nk pa nc fo th tg nt tb te tk tt ex tc es wy ab re go be) sz) t) (va_A (w4 b cI cZ tw nk pa nc fo th tg nt tb te tk tt ex tc es wy ab re go be) sz)) 0 0 (va_A (w4 b cI cZ tw nk pa nc fo th tg nt tb te tk tt ex tc es wy ab re go be) sz) := by
  refine Met.ofW (cc := cX4_end) (maxL := 1) (ret := (some .int)) (by decide) rfl ?_
  intro p e s m args below meth c s₁ B hml hv
  obtain ⟨hav, hsz, ⟨hP, hK, hn⟩, hD0⟩ := hv
  have hx := B.exec
  have hb := B.bytes
  have hr := B.returns
  have hts := atoms_spec (ws := wsX4_end) B.pre
  have hown : s.vm.findClass RX4 = some m.cls := findClass_of_methodNamed B.named
  have hlocks := B.notSynchronized
  subst hsz
  have hD := hD0.self (sz := s.heap.size)
  generalize hAe : (va_A (w4 b cI cZ tw nk pa nc fo th tg nt tb te tk tt ex tc es wy ab re go be) s.heap.size) = A at hD ⊢
  have hA : ∀ q : Nat, s.heap.size ≤ q → A q := fun q h => by rw [← hAe]; exact Or.inr h
  have hS : va_S A s.heap s.heap [] := va_S.rf
  generalize hQ : MQ below (va_Qi (fun (r : Int32) (u : Int32 × Nat × (Nat → Int32) × (Nat → Int32) × (Nat → Int32)) => match u with | (tw9, nc9, fo9, th9, tg9) => (nc = 48 ∧ tw9 = 1 ∧ nc9 = nc ∧ fo9 = fo ∧ th9 = th ∧ tg9 = tg) ∨ (nc < 48 ∧ tw9 = 0 ∧ r = nI nc ∧ nc9 = nc + 1 ∧ fo9 = upd fo nc 3 ∧ th9 = upd th nc 0 ∧ tg9 = upd tg nc (-1))) (fun u t => match u with | (tw9, nc9, fo9, th9, tg9) => zWo (dC, dI) [(cI, .int), (cZ, .boolean), (cJ, .long)] (w4 b cI cZ tw9 nk pa nc9 fo9 th9 tg9 nt tb te tk tt ex tc es wy ab re go be) A t) A) args s 0 0 A = Q
  refine W.eq (g2 := entryFrame m ([.ref (b 0)] : List Value).toArray 1) (by rw [hav]) ?_
  have hl := lv_entry ([.ref (b 0)]) (n := 1) (Nat.le_of_ble_eq_true rfl)
  rw [lg_entry_eq]
  generalize (lg_sl ([.ref (b 0)]) ++ List.replicate (1 - (lg_sl ([.ref (b 0)])).length) Slot.unset).toArray = ls at hl ⊢
  have hl : lv_has ls 1 [(0, .ref (b 0))] := hl
  obtain ⟨H, hH⟩ : ∃ H, H = s.heap := ⟨_, rfl⟩
  obtain ⟨locs, hlo⟩ : ∃ q : List Loc, q = [] := ⟨_, rfl⟩
  have hP : va_P (dC, dI) vwCl (w4 b cI cZ tw nk pa nc fo th tg nt tb te tk tt ex tc es wy ab re go be) H := by rw [hH]; exact hP
  have hS : va_S A s.heap H locs := by rw [hH, hlo]; exact hS
  refine zz_hl hH hlo ?_
  obtain ⟨hk01, hk8, hnt, hT, hO, hF, hU⟩ := id hg
  obtain ⟨hnc, hC⟩ := id hc
  refine lv_aload_n hx hb dX4_end_0 rfl (lv_at hl 0 rfl) ?_
  refine lv_iconst (v := 0) hx hb dX4_end_1 (by decide) ?_
  refine va_put (D := (dC, dI)) (ci := 4) (v := .int 0) (ty := .int) (C := RX4) (T := TX4) (N := 20) hx hb hts (by decide +kernel) tyX4 tyX4_ok nmX4 hown hK hP hD hS 0 rfl rfl 0 (by decide) (hts (.fieldLink RX4 54 "HandlerOptimizerModel" "thrown" "I") (by decide +kernel)) (fun _ h9 => h9) rfl (by decide +kernel) rfl rfl (Nat.le_of_ble_eq_true rfl) dX4_end_2 (fun H locs hP hD hS => ?_)
  have hP : va_P (dC, dI) vwCl (w4 b cI cZ 0 nk pa nc fo th tg nt tb te tk tt ex tc es wy ab re go be) H := hP
  have hD : va_D A (w4 b cI cZ 0 nk pa nc fo th tg nt tb te tk tt ex tc es wy ab re go be) := hD
  refine lv_aload_n hx hb dX4_end_5 rfl (lv_at hl 0 rfl) ?_
  refine lv_iconst (v := 3) hx hb dX4_end_6 (by decide) ?_
  refine lv_iconst (v := 0) hx hb dX4_end_7 (by decide) ?_
  refine lv_iconst (v := -1) hx hb dX4_end_8 (by decide) ?_
  refine lv_iconst (v := 1) hx hb dX4_end_9 (by decide) ?_
  have hDc := hD
  have hFc := va_free (wc := w4 b cI cZ 0 nk pa nc fo th tg nt tb te tk tt ex tc es wy ab re go be) hD hS hA [0, 1, 2, 3, 4, 5, 6, 7, 8, 9, 10, 11, 12] rfl
  refine va_calli (va_runV (As := [.int 3, .int 0, .int (-1), .int 1]) (rest := []) ⟨hx, hb, hml, hown, hts⟩ (c_X4_append l dC dI cI cZ cJ b 0 nk pa nc fo th tg nt tb te tk tt ex tc es wy ab re go be 3 0 (-1) 1 H.size (by first | assumption | omega)) (cwV 4 hts gX4_end_X4_append rfl rfl rfl (by decide +kernel) ⟨Nat.le_of_ble_eq_true rfl, Nat.le_of_ble_eq_true rfl⟩) ⟨zWr_blind, va_recv hK hP (ci := 4) (q0 := 0) rfl rfl, zWr_at hP hK hn (hDc.weaken (fun _ _ _ _ => trivial))⟩ rfl rfl hl.1 rfl (lv_room (Nat.le_of_ble_eq_true rfl)) dX4_end_10 ⟨Nat.le_of_ble_eq_true rfl, Nat.le_of_ble_eq_true rfl⟩) hS (fun q _ h => hFc q h) hFc (fun r_1 u_9 t H1 locs ht hvm hw hB hz1 hk1 hS => ?_)
  obtain ⟨tw_n, nc_n, fo_n, th_n, tg_n⟩ := u_9
  dsimp only at hw hB
  obtain ⟨hP1, -, hD1⟩ := hB
  rw [ht] at hP1
  obtain ⟨hP, hD⟩ := va_join (wr := []) (w1 := w4 b cI cZ tw_n nk pa nc_n fo_n th_n tg_n nt tb te tk tt ex tc es wy ab re go be) hP hD [0, 1, 2, 3, 4, 5, 6, 7, 8, 9, 10, 11, 12] [] rfl rfl (by decide) (by decide) hk1 hFc hP1 hD1
  generalize H1 = H at hP hS ⊢
  have hP : va_P (dC, dI) vwCl (w4 b cI cZ tw_n nk pa nc_n fo_n th_n tg_n nt tb te tk tt ex tc es wy ab re go be) H := hP
  have hD : va_D A (w4 b cI cZ tw_n nk pa nc_n fo_n th_n tg_n nt tb te tk tt ex tc es wy ab re go be) := hD
  rw [← hQ]
  have hP9 := hP
  have hD9 := hD
  exact W.iret (v := r_1) hx hb hr (fun t ht hW => ⟨⟨r_1, (tw_n, nc_n, fo_n, th_n, tg_n), rfl, hw, (by rw [ht]; exact hP9), va_K.moved hW.alike hK, hD9⟩, hS.F ht⟩) hS.2.2 dX4_end_13

set_option maxHeartbeats 4000000 in
set_option maxRecDepth 100000 in
theorem c_X4_instruction (l : Launch) (dC : Nat → ClassId) (dI : Nat → Nat → Nat) (cI cZ cJ : ClassId) (b : Nat → Nat) (tw : Int32) (nk : Nat) (pa : Nat → Int32) (nc : Nat) (fo : Nat → Int32) (th : Nat → Int32) (tg : Nat → Int32) (nt : Nat) (tb : Nat → Int32) (te : Nat → Int32) (tk : Nat → Int32) (tt : Nat → Int32) (ex : Int32) (tc : Int32) (es : Int32) (wy : Int64) (ab : Nat → Int32) (re : Nat → Int32) (go : Nat → Int32) (be : Nat → Int32) (x : Int32) (wh : Int32) (T : Nat → Nat → Nat) (up : Nat → Nat → Bool) (sz : Nat) (hg : g4 nk ab up nt tb te tk tt T) (hc : okC nk nc fo th tg) : Met l yX4_instruction wsX4_instruction ({ frames := 2, cells := 0, slots := 0, locals := 43 } : Room) (va_Pc [.ref (b 0), .int x, .int wh] (zWr (dC, dI) [(cI, .int), (cZ, .boolean), (cJ, .long)] (w4 b cI cZ tw nk pa nc fo th tg nt tb te tk tt ex tc es wy ab re go be) sz)) (va_Qi (fun (r : Int32) (tw9 : Int32) => ((hasI x nc && hasI wh 3) = true ∧ tw9 = 0 ∧ r = insV fo th tg x.toNatClampNeg wh) ∨ ((hasI x nc && hasI wh 3) = false ∧ tw9 = 1)) (fun tw9 t => zWo (dC, dI) [(cI, .int), (cZ, .boolean), (cJ, .long)] (w4 b cI cZ tw9 nk pa nc fo th tg nt tb te tk tt ex tc es wy ab re go be) (va_A (w4 b cI cZ tw nk pa nc fo th tg nt tb te tk tt ex tc es wy ab re go be) sz) t) (va_A (w4 b cI cZ tw nk pa nc fo th tg nt tb te tk tt ex tc es wy ab re go be) sz)) 0 0 (va_A (w4 b cI cZ tw nk pa nc fo th tg nt tb te tk tt ex tc es wy ab re go be) sz) := by
  refine Met.ofW (cc := cX4_instruction) (maxL := 3) (ret := (some .int)) (by decide) rfl ?_
  intro p e s m args below meth c s₁ B hml hv
  obtain ⟨hav, hsz, ⟨hP, hK, hn⟩, hD0⟩ := hv
  have hx := B.exec
  have hb := B.bytes
  have hr := B.returns
  have hts := atoms_spec (ws := wsX4_instruction) B.pre
  have hown : s.vm.findClass RX4 = some m.cls := findClass_of_methodNamed B.named
  have hlocks := B.notSynchronized
  subst hsz
  have hD := hD0.self (sz := s.heap.size)
  generalize hAe : (va_A (w4 b cI cZ tw nk pa nc fo th tg nt tb te tk tt ex tc es wy ab re go be) s.heap.size) = A at hD ⊢
  have hA : ∀ q : Nat, s.heap.size ≤ q → A q := fun q h => by rw [← hAe]; exact Or.inr h
  have hS : va_S A s.heap s.heap [] := va_S.rf
  generalize hQ : MQ below (va_Qi (fun (r : Int32) (tw9 : Int32) => ((hasI x nc && hasI wh 3) = true ∧ tw9 = 0 ∧ r = insV fo th tg x.toNatClampNeg wh) ∨ ((hasI x nc && hasI wh 3) = false ∧ tw9 = 1)) (fun tw9 t => zWo (dC, dI) [(cI, .int), (cZ, .boolean), (cJ, .long)] (w4 b cI cZ tw9 nk pa nc fo th tg nt tb te tk tt ex tc es wy ab re go be) A t) A) args s 0 0 A = Q
  refine W.eq (g2 := entryFrame m ([.ref (b 0), .int x, .int wh] : List Value).toArray 3) (by rw [hav]) ?_
  have hl := lv_entry ([.ref (b 0), .int x, .int wh]) (n := 3) (Nat.le_of_ble_eq_true rfl)
  rw [lg_entry_eq]
  generalize (lg_sl ([.ref (b 0), .int x, .int wh]) ++ List.replicate (3 - (lg_sl ([.ref (b 0), .int x, .int wh])).length) Slot.unset).toArray = ls at hl ⊢
  have hl : lv_has ls 3 [(0, .ref (b 0)), (1, .int x), (2, .int wh)] := hl
  obtain ⟨H, hH⟩ : ∃ H, H = s.heap := ⟨_, rfl⟩
  obtain ⟨locs, hlo⟩ : ∃ q : List Loc, q = [] := ⟨_, rfl⟩
  have hP : va_P (dC, dI) vwCl (w4 b cI cZ tw nk pa nc fo th tg nt tb te tk tt ex tc es wy ab re go be) H := by rw [hH]; exact hP
  have hS : va_S A s.heap H locs := by rw [hH, hlo]; exact hS
  refine zz_hl hH hlo ?_
  obtain ⟨hk01, hk8, hnt, hT, hO, hF, hU⟩ := id hg
  obtain ⟨hnc, hC⟩ := id hc
  refine lv_aload_n hx hb dX4_instruction_0 rfl (lv_at hl 0 rfl) ?_
  refine lv_iconst (v := 0) hx hb dX4_instruction_1 (by decide) ?_
  refine va_put (D := (dC, dI)) (ci := 4) (v := .int 0) (ty := .int) (C := RX4) (T := TX4) (N := 20) hx hb hts (by decide +kernel) tyX4 tyX4_ok nmX4 hown hK hP hD hS 0 rfl rfl 0 (by decide) (hts (.fieldLink RX4 54 "HandlerOptimizerModel" "thrown" "I") (by decide +kernel)) (fun _ h9 => h9) rfl (by decide +kernel) rfl rfl (Nat.le_of_ble_eq_true rfl) dX4_instruction_2 (fun H locs hP hD hS => ?_)
  have hP : va_P (dC, dI) vwCl (w4 b cI cZ 0 nk pa nc fo th tg nt tb te tk tt ex tc es wy ab re go be) H := hP
  have hD : va_D A (w4 b cI cZ 0 nk pa nc fo th tg nt tb te tk tt ex tc es wy ab re go be) := hD
  refine lv_aload_n hx hb dX4_instruction_5 rfl (lv_at hl 0 rfl) ?_
  refine lv_iload_n hx hb dX4_instruction_6 rfl (lv_at hl 1 rfl) ?_
  refine va_calli (va_runV (As := [.int x]) (rest := []) ⟨hx, hb, hml, hown, hts⟩ (c_X4_isInstruction l dC dI cI cZ cJ b 0 nk pa nc fo th tg nt tb te tk tt ex tc es wy ab re go be x (by omega)) (cwV 1 hts gX4_instruction_X4_isInstruction rfl rfl rfl (by decide +kernel) ⟨Nat.le_of_ble_eq_true rfl, Nat.le_of_ble_eq_true rfl⟩) ⟨zPre_blind, va_recv hK hP (ci := 4) (q0 := 0) rfl rfl, zPre_at hP hK hn⟩ rfl rfl hl.1 rfl (lv_room (Nat.le_of_ble_eq_true rfl)) dX4_instruction_7 ⟨Nat.le_of_ble_eq_true rfl, Nat.le_of_ble_eq_true rfl⟩) hS (fun _ _ h => h.elim) (fun _ h => h.elim) (fun r_1 u_9 t H locs ht hvm hw hB hz1 hk1 hS => ?_)
  have hP := zkeep hP hk1
  subst hw
  refine lv_if_eq (tgt := 22) hx hb dX4_instruction_10 (by decide) (fun c_2 => ?_) (fun c_2 => ?_)
  · skip
    have c9 : (hasI x nc && hasI wh 3) = false := by rw [zb_0.mp c_2]; rfl
    refine lv_aload_n hx hb dX4_instruction_22 rfl (lv_at hl 0 rfl) ?_
    refine lv_iconst (v := 1) hx hb dX4_instruction_23 (by decide) ?_
    have hDc := hD
    have hFc := va_free (wc := w4 b cI cZ 0 nk pa nc fo th tg nt tb te tk tt ex tc es wy ab re go be) hD hS hA [0, 1, 2, 3, 4, 5, 6, 7, 8, 9, 10, 11, 12] rfl
    refine va_calli (va_runV (As := [.int 1]) (rest := []) ⟨hx, hb, hml, hown, hts⟩ (c_X4_no l dC dI cI cZ cJ b 0 nk pa nc fo th tg nt tb te tk tt ex tc es wy ab re go be 1 H.size ) (cwV 1 hts gX4_instruction_X4_no rfl rfl rfl (by decide +kernel) ⟨Nat.le_of_ble_eq_true rfl, Nat.le_of_ble_eq_true rfl⟩) ⟨zWr_blind, va_recv hK hP (ci := 4) (q0 := 0) rfl rfl, zWr_at hP hK hn (hDc.weaken (fun _ _ _ _ => trivial))⟩ rfl rfl hl.1 rfl (lv_room (Nat.le_of_ble_eq_true rfl)) dX4_instruction_24 ⟨Nat.le_of_ble_eq_true rfl, Nat.le_of_ble_eq_true rfl⟩) hS (fun q _ h => hFc q h) hFc (fun r_3 u_9 t H1 locs ht hvm hw hB hz1 hk1 hS => ?_)
    obtain ⟨hP1, -, hD1⟩ := hB
    rw [ht] at hP1
    obtain ⟨hP, hD⟩ := va_join (wr := []) (w1 := w4 b cI cZ 1 nk pa nc fo th tg nt tb te tk tt ex tc es wy ab re go be) hP hD [0, 1, 2, 3, 4, 5, 6, 7, 8, 9, 10, 11, 12] [] rfl rfl (by decide) (by decide) hk1 hFc hP1 hD1
    generalize H1 = H at hP hS ⊢
    have hP : va_P (dC, dI) vwCl (w4 b cI cZ 1 nk pa nc fo th tg nt tb te tk tt ex tc es wy ab re go be) H := hP
    have hD : va_D A (w4 b cI cZ 1 nk pa nc fo th tg nt tb te tk tt ex tc es wy ab re go be) := hD
    subst hw
    rw [← hQ]
    have hP9 := hP
    have hD9 := hD
    exact W.iret (v := 0) hx hb hr (fun t ht hW => ⟨⟨0, 1, rfl, (Or.inr ⟨c9, rfl⟩), (by rw [ht]; exact hP9), va_K.moved hW.alike hK, hD9⟩, hS.F ht⟩) hS.2.2 dX4_instruction_27
  · skip
    have c5 := zb_1.mp c_2
    refine lv_iload_n hx hb dX4_instruction_13 rfl (lv_at hl 2 rfl) ?_
    refine lv_iconst (v := 0) hx hb dX4_instruction_14 (by decide) ?_
    refine lv_iconst (v := 2) hx hb dX4_instruction_15 (by decide) ?_
    have hPc : va_P (dC, dI) vwCl [] H := fun k q h => by simp at h
    refine va_calli (va_runS (As := [.int wh, .int 0, .int 2]) (rest := []) ⟨hx, hb, hml, hown, hts⟩ (c_X4_isIn l dC dI cI cZ cJ wh 0 2 ) (va_cwS 3 hts gX4_instruction_X4_isIn rfl rfl rfl (by decide +kernel) ⟨Nat.le_of_ble_eq_true rfl, Nat.le_of_ble_eq_true rfl⟩) ⟨zPre_blind, zPre_at hPc hK hn⟩ rfl rfl hl.1 rfl (lv_room (Nat.le_of_ble_eq_true rfl)) dX4_instruction_16 ⟨Nat.le_of_ble_eq_true rfl, Nat.le_of_ble_eq_true rfl⟩) hS (fun _ _ h => h.elim) (fun _ h => h.elim) (fun r_4 u_9 t H locs ht hvm hw hB hz1 hk1 hS => ?_)
    have hP := zkeep hP hk1
    subst hw
    refine lv_if_ne (tgt := 28) hx hb dX4_instruction_19 (by decide) (fun c_5 => ?_) (fun c_5 => ?_)
    · skip
      have c6 : hasI wh 3 = true := by rw [← inI (n := 3) (by omega)]; exact zb_1.mp c_5
      have c9 : (hasI x nc && hasI wh 3) = true := by rw [c5, c6]; rfl
      obtain ⟨i, hi, rfl⟩ := hasI_at (by omega) c5
      refine lv_iload_n hx hb dX4_instruction_28 rfl (lv_at hl 2 rfl) ?_
      refine lv_if_ne (tgt := 41) hx hb dX4_instruction_29 (by decide) (fun c_6 => ?_) (fun c_6 => ?_)
      · skip
        skip
        refine lv_iload_n hx hb dX4_instruction_41 rfl (lv_at hl 2 rfl) ?_
        refine lv_iconst (v := 1) hx hb dX4_instruction_42 (by decide) ?_
        refine lv_icmp_ne (tgt := 55) hx hb dX4_instruction_43 (by decide) (fun c_7 => ?_) (fun c_7 => ?_)
        · skip
          skip
          refine lv_aload_n hx hb dX4_instruction_55 rfl (lv_at hl 0 rfl) ?_
          refine va_get (D := (dC, dI)) (ci := 4) (v := .ref (b 4)) (C := RX4) (T := TX4) (N := 20) hx hb hts (by decide +kernel) hown hK hP 0 rfl rfl 6 (by decide) (hts (.fieldLink RX4 23 "HandlerOptimizerModel" "targets" "[I") (by decide +kernel)) (fun _ h9 => h9) rfl dX4_instruction_56 ?_
          refine lv_iload_n hx hb dX4_instruction_59 rfl (lv_at hl 1 rfl) ?_
          refine va_iald hx hb hK hP 4 0 rfl rfl (vp_in_nI (n := i) (by omega) (by decide)) dX4_instruction_60 ?_
          refine zz_top (y := tg i) (congrArg _ (nI_clamp (by omega))) ?_
          rw [← hQ]
          have hP9 := hP
          have hD9 := hD
          exact W.iret (v := tg i) hx hb hr (fun t ht hW => ⟨⟨tg i, 0, rfl, (by refine Or.inl ⟨c9, rfl, ?_⟩; rw [nI_clamp (by omega)]; simp [insV, *]), (by rw [ht]; exact hP9), va_K.moved hW.alike hK, hD9⟩, hS.F ht⟩) hS.2.2 dX4_instruction_61
        · skip
          skip
          refine lv_aload_n hx hb dX4_instruction_46 rfl (lv_at hl 0 rfl) ?_
          refine va_get (D := (dC, dI)) (ci := 4) (v := .ref (b 3)) (C := RX4) (T := TX4) (N := 20) hx hb hts (by decide +kernel) hown hK hP 0 rfl rfl 5 (by decide) (hts (.fieldLink RX4 20 "HandlerOptimizerModel" "errors" "[I") (by decide +kernel)) (fun _ h9 => h9) rfl dX4_instruction_47 ?_
          refine lv_iload_n hx hb dX4_instruction_50 rfl (lv_at hl 1 rfl) ?_
          refine va_iald hx hb hK hP 3 0 rfl rfl (vp_in_nI (n := i) (by omega) (by decide)) dX4_instruction_51 ?_
          refine zz_top (y := th i) (congrArg _ (nI_clamp (by omega))) ?_
          refine lv_goto (tgt := 61) hx hb dX4_instruction_52 (by decide) ?_
          rw [← hQ]
          have hP9 := hP
          have hD9 := hD
          exact W.iret (v := th i) hx hb hr (fun t ht hW => ⟨⟨th i, 0, rfl, (by refine Or.inl ⟨c9, rfl, ?_⟩; rw [nI_clamp (by omega)]; simp [insV, *]), (by rw [ht]; exact hP9), va_K.moved hW.alike hK, hD9⟩, hS.F ht⟩) hS.2.2 dX4_instruction_61
      · skip
        skip
        refine lv_aload_n hx hb dX4_instruction_32 rfl (lv_at hl 0 rfl) ?_
        refine va_get (D := (dC, dI)) (ci := 4) (v := .ref (b 2)) (C := RX4) (T := TX4) (N := 20) hx hb hts (by decide +kernel) hown hK hP 0 rfl rfl 4 (by decide) (hts (.fieldLink RX4 17 "HandlerOptimizerModel" "forms" "[I") (by decide +kernel)) (fun _ h9 => h9) rfl dX4_instruction_33 ?_
        refine lv_iload_n hx hb dX4_instruction_36 rfl (lv_at hl 1 rfl) ?_
        refine va_iald hx hb hK hP 2 0 rfl rfl (vp_in_nI (n := i) (by omega) (by decide)) dX4_instruction_37 ?_
        refine zz_top (y := fo i) (congrArg _ (nI_clamp (by omega))) ?_
        refine lv_goto (tgt := 61) hx hb dX4_instruction_38 (by decide) ?_
        rw [← hQ]
        have hP9 := hP
        have hD9 := hD
        exact W.iret (v := fo i) hx hb hr (fun t ht hW => ⟨⟨fo i, 0, rfl, (by refine Or.inl ⟨c9, rfl, ?_⟩; rw [nI_clamp (by omega)]; simp [insV, *]), (by rw [ht]; exact hP9), va_K.moved hW.alike hK, hD9⟩, hS.F ht⟩) hS.2.2 dX4_instruction_61
    · skip
      have c9 : (hasI x nc && hasI wh 3) = false := by rw [← inI (n := 3) (by omega)]; rw [show (!decide (wh < 0) && !decide (nI 3 - 1 < wh)) = false from zb_0.mp c_5]; exact Bool.and_false _
      refine lv_aload_n hx hb dX4_instruction_22 rfl (lv_at hl 0 rfl) ?_
      refine lv_iconst (v := 1) hx hb dX4_instruction_23 (by decide) ?_
      have hDc := hD
      have hFc := va_free (wc := w4 b cI cZ 0 nk pa nc fo th tg nt tb te tk tt ex tc es wy ab re go be) hD hS hA [0, 1, 2, 3, 4, 5, 6, 7, 8, 9, 10, 11, 12] rfl
      refine va_calli (va_runV (As := [.int 1]) (rest := []) ⟨hx, hb, hml, hown, hts⟩ (c_X4_no l dC dI cI cZ cJ b 0 nk pa nc fo th tg nt tb te tk tt ex tc es wy ab re go be 1 H.size ) (cwV 1 hts gX4_instruction_X4_no rfl rfl rfl (by decide +kernel) ⟨Nat.le_of_ble_eq_true rfl, Nat.le_of_ble_eq_true rfl⟩) ⟨zWr_blind, va_recv hK hP (ci := 4) (q0 := 0) rfl rfl, zWr_at hP hK hn (hDc.weaken (fun _ _ _ _ => trivial))⟩ rfl rfl hl.1 rfl (lv_room (Nat.le_of_ble_eq_true rfl)) dX4_instruction_24 ⟨Nat.le_of_ble_eq_true rfl, Nat.le_of_ble_eq_true rfl⟩) hS (fun q _ h => hFc q h) hFc (fun r_8 u_9 t H1 locs ht hvm hw hB hz1 hk1 hS => ?_)
      obtain ⟨hP1, -, hD1⟩ := hB
      rw [ht] at hP1
      obtain ⟨hP, hD⟩ := va_join (wr := []) (w1 := w4 b cI cZ 1 nk pa nc fo th tg nt tb te tk tt ex tc es wy ab re go be) hP hD [0, 1, 2, 3, 4, 5, 6, 7, 8, 9, 10, 11, 12] [] rfl rfl (by decide) (by decide) hk1 hFc hP1 hD1
      generalize H1 = H at hP hS ⊢
      have hP : va_P (dC, dI) vwCl (w4 b cI cZ 1 nk pa nc fo th tg nt tb te tk tt ex tc es wy ab re go be) H := hP
      have hD : va_D A (w4 b cI cZ 1 nk pa nc fo th tg nt tb te tk tt ex tc es wy ab re go be) := hD
      subst hw
      rw [← hQ]
      have hP9 := hP
      have hD9 := hD
      exact W.iret (v := 0) hx hb hr (fun t ht hW => ⟨⟨0, 1, rfl, (Or.inr ⟨c9, rfl⟩), (by rw [ht]; exact hP9), va_K.moved hW.alike hK, hD9⟩, hS.F ht⟩) hS.2.2 dX4_instruction_27

set_option maxHeartbeats 4000000 in
set_option maxRecDepth 100000 in
theorem c_X4_put (l : Launch) (dC : Nat → ClassId) (dI : Nat → Nat → Nat) (cI cZ cJ : ClassId) (b : Nat → Nat) (tw : Int32) (nk : Nat) (pa : Nat → Int32) (nc : Nat) (fo : Nat → Int32) (th : Nat → Int32) (tg : Nat → Int32) (nt : Nat) (tb : Nat → Int32) (te : Nat → Int32) (tk : Nat → Int32) (tt : Nat → Int32) (ex : Int32) (tc : Int32) (es : Int32) (wy : Int64) (ab : Nat → Int32) (re : Nat → Int32) (go : Nat → Int32) (be : Nat → Int32) (ei : Nat) (x : Int32) (y : Int32) (z : Int32) (w : Int32) (sz : Nat) (hei : ei < 24) : Met l yX4_put wsX4_put ({ frames := 0, cells := 0, slots := 0, locals := 0 } : Room) (va_Pc [.ref (b 0), .int (nI ei), .int x, .int y, .int z, .int w] (zWr (dC, dI) [(cI, .int), (cZ, .boolean), (cJ, .long)] (w4 b cI cZ tw nk pa nc fo th tg nt tb te tk tt ex tc es wy ab re go be) sz)) (va_Qv (fun (_ : Unit) => True) (fun _ t => zWo (dC, dI) [(cI, .int), (cZ, .boolean), (cJ, .long)] (w4 b cI cZ tw nk pa nc fo th tg nt (upd tb ei x) (upd te ei y) (upd tk ei z) (upd tt ei w) ex tc es wy ab re go be) (va_A (w4 b cI cZ tw nk pa nc fo th tg nt tb te tk tt ex tc es wy ab re go be) sz) t) (va_A (w4 b cI cZ tw nk pa nc fo th tg nt tb te tk tt ex tc es wy ab re go be) sz)) 0 0 (va_A (w4 b cI cZ tw nk pa nc fo th tg nt tb te tk tt ex tc es wy ab re go be) sz) := by
  refine Met.ofW (cc := cX4_put) (maxL := 6) (ret := none) (by decide) rfl ?_
  intro p e s m args below meth c s₁ B hml hv
  obtain ⟨hav, hsz, ⟨hP, hK, hn⟩, hD0⟩ := hv
  have hx := B.exec
  have hb := B.bytes
  have hr := B.returns
  have hts := atoms_spec (ws := wsX4_put) B.pre
  have hown : s.vm.findClass RX4 = some m.cls := findClass_of_methodNamed B.named
  have hlocks := B.notSynchronized
  subst hsz
  have hD := hD0.self (sz := s.heap.size)
  generalize hAe : (va_A (w4 b cI cZ tw nk pa nc fo th tg nt tb te tk tt ex tc es wy ab re go be) s.heap.size) = A at hD ⊢
  have hA : ∀ q : Nat, s.heap.size ≤ q → A q := fun q h => by rw [← hAe]; exact Or.inr h
  have hS : va_S A s.heap s.heap [] := va_S.rf
  generalize hQ : MQ below (va_Qv (fun (_ : Unit) => True) (fun _ t => zWo (dC, dI) [(cI, .int), (cZ, .boolean), (cJ, .long)] (w4 b cI cZ tw nk pa nc fo th tg nt (upd tb ei x) (upd te ei y) (upd tk ei z) (upd tt ei w) ex tc es wy ab re go be) A t) A) args s 0 0 A = Q
  refine W.eq (g2 := entryFrame m ([.ref (b 0), .int (nI ei), .int x, .int y, .int z, .int w] : List Value).toArray 6) (by rw [hav]) ?_
  have hl := lv_entry ([.ref (b 0), .int (nI ei), .int x, .int y, .int z, .int w]) (n := 6) (Nat.le_of_ble_eq_true rfl)
  rw [lg_entry_eq]
  generalize (lg_sl ([.ref (b 0), .int (nI ei), .int x, .int y, .int z, .int w]) ++ List.replicate (6 - (lg_sl ([.ref (b 0), .int (nI ei), .int x, .int y, .int z, .int w])).length) Slot.unset).toArray = ls at hl ⊢
  have hl : lv_has ls 6 [(0, .ref (b 0)), (1, .int (nI ei)), (2, .int x), (3, .int y), (4, .int z), (5, .int w)] := hl
  obtain ⟨H, hH⟩ : ∃ H, H = s.heap := ⟨_, rfl⟩
  obtain ⟨locs, hlo⟩ : ∃ q : List Loc, q = [] := ⟨_, rfl⟩
  have hP : va_P (dC, dI) vwCl (w4 b cI cZ tw nk pa nc fo th tg nt tb te tk tt ex tc es wy ab re go be) H := by rw [hH]; exact hP
  have hS : va_S A s.heap H locs := by rw [hH, hlo]; exact hS
  refine zz_hl hH hlo ?_
  refine lv_aload_n hx hb dX4_put_0 rfl (lv_at hl 0 rfl) ?_
  refine va_get (D := (dC, dI)) (ci := 4) (v := .ref (b 5)) (C := RX4) (T := TX4) (N := 20) hx hb hts (by decide +kernel) hown hK hP 0 rfl rfl 8 (by decide) (hts (.fieldLink RX4 26 "HandlerOptimizerModel" "froms" "[I") (by decide +kernel)) (fun _ h9 => h9) rfl dX4_put_1 ?_
  refine lv_iload_n hx hb dX4_put_4 rfl (lv_at hl 1 rfl) ?_
  refine lv_iload_n hx hb dX4_put_5 rfl (lv_at hl 2 rfl) ?_
  refine va_iast hx hb hK hP hD hS 5 0 rfl rfl (vp_in_nI (n := ei) (by omega) (by decide)) dX4_put_6 (fun H locs hP hD hS => ?_)
  rw [nI_clamp (n := ei) (by omega)] at hP hD
  have hP : va_P (dC, dI) vwCl (w4 b cI cZ tw nk pa nc fo th tg nt (upd tb ei x) te tk tt ex tc es wy ab re go be) H := hP
  have hD : va_D A (w4 b cI cZ tw nk pa nc fo th tg nt (upd tb ei x) te tk tt ex tc es wy ab re go be) := hD
  refine lv_aload_n hx hb dX4_put_7 rfl (lv_at hl 0 rfl) ?_
  refine va_get (D := (dC, dI)) (ci := 4) (v := .ref (b 6)) (C := RX4) (T := TX4) (N := 20) hx hb hts (by decide +kernel) hown hK hP 0 rfl rfl 9 (by decide) (hts (.fieldLink RX4 29 "HandlerOptimizerModel" "tos" "[I") (by decide +kernel)) (fun _ h9 => h9) rfl dX4_put_8 ?_
  refine lv_iload_n hx hb dX4_put_11 rfl (lv_at hl 1 rfl) ?_
  refine lv_iload_n hx hb dX4_put_12 rfl (lv_at hl 3 rfl) ?_
  refine va_iast hx hb hK hP hD hS 6 0 rfl rfl (vp_in_nI (n := ei) (by omega) (by decide)) dX4_put_13 (fun H locs hP hD hS => ?_)
  rw [nI_clamp (n := ei) (by omega)] at hP hD
  have hP : va_P (dC, dI) vwCl (w4 b cI cZ tw nk pa nc fo th tg nt (upd tb ei x) (upd te ei y) tk tt ex tc es wy ab re go be) H := hP
  have hD : va_D A (w4 b cI cZ tw nk pa nc fo th tg nt (upd tb ei x) (upd te ei y) tk tt ex tc es wy ab re go be) := hD
  refine lv_aload_n hx hb dX4_put_14 rfl (lv_at hl 0 rfl) ?_
  refine va_get (D := (dC, dI)) (ci := 4) (v := .ref (b 7)) (C := RX4) (T := TX4) (N := 20) hx hb hts (by decide +kernel) hown hK hP 0 rfl rfl 10 (by decide) (hts (.fieldLink RX4 32 "HandlerOptimizerModel" "entryKinds" "[I") (by decide +kernel)) (fun _ h9 => h9) rfl dX4_put_15 ?_
  refine lv_iload_n hx hb dX4_put_18 rfl (lv_at hl 1 rfl) ?_
  refine lv_iload hx hb dX4_put_19 (lv_at hl 4 rfl) ?_
  refine va_iast hx hb hK hP hD hS 7 0 rfl rfl (vp_in_nI (n := ei) (by omega) (by decide)) dX4_put_21 (fun H locs hP hD hS => ?_)
  rw [nI_clamp (n := ei) (by omega)] at hP hD
  have hP : va_P (dC, dI) vwCl (w4 b cI cZ tw nk pa nc fo th tg nt (upd tb ei x) (upd te ei y) (upd tk ei z) tt ex tc es wy ab re go be) H := hP
  have hD : va_D A (w4 b cI cZ tw nk pa nc fo th tg nt (upd tb ei x) (upd te ei y) (upd tk ei z) tt ex tc es wy ab re go be) := hD
  refine lv_aload_n hx hb dX4_put_22 rfl (lv_at hl 0 rfl) ?_
  refine va_get (D := (dC, dI)) (ci := 4) (v := .ref (b 8)) (C := RX4) (T := TX4) (N := 20) hx hb hts (by decide +kernel) hown hK hP 0 rfl rfl 11 (by decide) (hts (.fieldLink RX4 35 "HandlerOptimizerModel" "entryTargets" "[I") (by decide +kernel)) (fun _ h9 => h9) rfl dX4_put_23 ?_
  refine lv_iload_n hx hb dX4_put_26 rfl (lv_at hl 1 rfl) ?_
  refine lv_iload hx hb dX4_put_27 (lv_at hl 5 rfl) ?_
  refine va_iast hx hb hK hP hD hS 8 0 rfl rfl (vp_in_nI (n := ei) (by omega) (by decide)) dX4_put_29 (fun H locs hP hD hS => ?_)
  rw [nI_clamp (n := ei) (by omega)] at hP hD
  have hP : va_P (dC, dI) vwCl (w4 b cI cZ tw nk pa nc fo th tg nt (upd tb ei x) (upd te ei y) (upd tk ei z) (upd tt ei w) ex tc es wy ab re go be) H := hP
  have hD : va_D A (w4 b cI cZ tw nk pa nc fo th tg nt (upd tb ei x) (upd te ei y) (upd tk ei z) (upd tt ei w) ex tc es wy ab re go be) := hD
  rw [← hQ]
  have hP9 := hP
  have hD9 := hD
  exact W.vret hx hb hr (fun t ht hW => ⟨⟨(), rfl, trivial, (by rw [ht]; exact hP9), va_K.moved hW.alike hK, hD9⟩, hS.F ht⟩) hS.2.2 dX4_put_30

set_option maxHeartbeats 4000000 in
set_option maxRecDepth 100000 in
theorem c_X4_remove (l : Launch) (dC : Nat → ClassId) (dI : Nat → Nat → Nat) (cI cZ cJ : ClassId) (b : Nat → Nat) (tw : Int32) (nk : Nat) (pa : Nat → Int32) (nc : Nat) (fo : Nat → Int32) (th : Nat → Int32) (tg : Nat → Int32) (nt : Nat) (tb : Nat → Int32) (te : Nat → Int32) (tk : Nat → Int32) (tt : Nat → Int32) (ex : Int32) (tc : Int32) (es : Int32) (wy : Int64) (ab : Nat → Int32) (re : Nat → Int32) (go : Nat → Int32) (be : Nat → Int32) (ei : Nat) (T : Nat → Nat → Nat) (sz : Nat) (hei : ei < nt) (hnt : nt ≤ 24) (hT : rT nt tb te tk tt T) : Met l yX4_remove wsX4_remove ({ frames := 1, cells := 0, slots := 0, locals := 25 } : Room) (va_Pc [.ref (b 0), .int (nI ei)] (zWr (dC, dI) [(cI, .int), (cZ, .boolean), (cJ, .long)] (w4 b cI cZ tw nk pa nc fo th tg nt tb te tk tt ex tc es wy ab re go be) sz)) (va_Qv (fun (u : (Nat → Int32) × (Nat → Int32) × (Nat → Int32) × (Nat → Int32)) => match u with | (tb9, te9, tk9, tt9) => rT (nt - 1) tb9 te9 tk9 tt9 (dT T ei)) (fun u t => match u with | (tb9, te9, tk9, tt9) => zWo (dC, dI) [(cI, .int), (cZ, .boolean), (cJ, .long)] (w4 b cI cZ tw nk pa nc fo th tg (nt - 1) tb9 te9 tk9 tt9 ex tc es wy ab re go be) (va_A (w4 b cI cZ tw nk pa nc fo th tg nt tb te tk tt ex tc es wy ab re go be) sz) t) (va_A (w4 b cI cZ tw nk pa nc fo th tg nt tb te tk tt ex tc es wy ab re go be) sz)) 0 0 (va_A (w4 b cI cZ tw nk pa nc fo th tg nt tb te tk tt ex tc es wy ab re go be) sz) := by
  refine Met.ofW (cc := cX4_remove) (maxL := 3) (ret := none) (by decide) rfl ?_
  intro p e s m args below meth c s₁ B hml hv
  obtain ⟨hav, hsz, ⟨hP, hK, hn⟩, hD0⟩ := hv
  have hx := B.exec
  have hb := B.bytes
  have hr := B.returns
  have hts := atoms_spec (ws := wsX4_remove) B.pre
  have hown : s.vm.findClass RX4 = some m.cls := findClass_of_methodNamed B.named
  have hlocks := B.notSynchronized
  subst hsz
  have hD := hD0.self (sz := s.heap.size)
  generalize hAe : (va_A (w4 b cI cZ tw nk pa nc fo th tg nt tb te tk tt ex tc es wy ab re go be) s.heap.size) = A at hD ⊢
  have hA : ∀ q : Nat, s.heap.size ≤ q → A q := fun q h => by rw [← hAe]; exact Or.inr h
  have hS : va_S A s.heap s.heap [] := va_S.rf
  generalize hQ : MQ below (va_Qv (fun (u : (Nat → Int32) × (Nat → Int32) × (Nat → Int32) × (Nat → Int32)) => match u with | (tb9, te9, tk9, tt9) => rT (nt - 1) tb9 te9 tk9 tt9 (dT T ei)) (fun u t => match u with | (tb9, te9, tk9, tt9) => zWo (dC, dI) [(cI, .int), (cZ, .boolean), (cJ, .long)] (w4 b cI cZ tw nk pa nc fo th tg (nt - 1) tb9 te9 tk9 tt9 ex tc es wy ab re go be) A t) A) args s 0 0 A = Q
  refine W.eq (g2 := entryFrame m ([.ref (b 0), .int (nI ei)] : List Value).toArray 3) (by rw [hav]) ?_
  have hl := lv_entry ([.ref (b 0), .int (nI ei)]) (n := 3) (Nat.le_of_ble_eq_true rfl)
  rw [lg_entry_eq]
  generalize (lg_sl ([.ref (b 0), .int (nI ei)]) ++ List.replicate (3 - (lg_sl ([.ref (b 0), .int (nI ei)])).length) Slot.unset).toArray = ls at hl ⊢
  have hl : lv_has ls 3 [(0, .ref (b 0)), (1, .int (nI ei))] := hl
  obtain ⟨H, hH⟩ : ∃ H, H = s.heap := ⟨_, rfl⟩
  obtain ⟨locs, hlo⟩ : ∃ q : List Loc, q = [] := ⟨_, rfl⟩
  have hP : va_P (dC, dI) vwCl (w4 b cI cZ tw nk pa nc fo th tg nt tb te tk tt ex tc es wy ab re go be) H := by rw [hH]; exact hP
  have hS : va_S A s.heap H locs := by rw [hH, hlo]; exact hS
  refine zz_hl hH hlo ?_
  refine lv_iload_n hx hb dX4_remove_0 rfl (lv_at hl 1 rfl) ?_
  refine lv_iconst (v := 1) hx hb dX4_remove_1 (by decide) ?_
  refine lv_iadd hx hb dX4_remove_2 ?_
  refine zz_top (y := nI (ei + 1)) (nI_add _ _) ?_
  refine lv_istore_n (lv' := [(2, .int (nI (ei + 1))), (0, .ref (b 0)), (1, .int (nI ei))]) hx hb dX4_remove_3 rfl hl (by decide) rfl (fun ls hl => ?_)
  have J_4 : ∀ (n9 : Nat) (y : Nat) (gb : Nat → Int32) (ge : Nat → Int32) (gk : Nat → Int32) (gt : Nat → Int32) (H : Heap) (locs : List Loc) (ls : Array Slot), (ei ≤ y) → (y < nt) → (rT nt gb ge gk gt (mxT T ei y)) → nt - y < n9 → va_P (dC, dI) vwCl (w4 b cI cZ tw nk pa nc fo th tg nt gb ge gk gt ex tc es wy ab re go be) H → va_D A (w4 b cI cZ tw nk pa nc fo th tg nt gb ge gk gt ex tc es wy ab re go be) → va_S A s.heap H locs → lv_has ls 3 [(0, .ref (b 0)), (1, .int (nI ei)), (2, .int (nI (y + 1)))] → W p l e (headSpec wsX4_remove ({ frames := 1, cells := 0, slots := 0, locals := 25 } : Room)).room s m args below meth c H locs 0 0 Q (F0 m 4 ls []) := by
    intro n9
    induction n9 with
    | zero => intro y gb ge gk gt H locs ls hy hy2 hr9 hmu; exact absurd hmu (Nat.not_lt_zero _)
    | succ n9 ih_4 =>
      intro y gb ge gk gt H locs ls hy hy2 hr9 hmu hP hD hS hl
      refine lv_iload_n hx hb dX4_remove_4 rfl (lv_at hl 2 rfl) ?_
      refine lv_aload_n hx hb dX4_remove_5 rfl (lv_at hl 0 rfl) ?_
      refine va_get (D := (dC, dI)) (ci := 4) (v := .int (nI nt)) (C := RX4) (T := TX4) (N := 20) hx hb hts (by decide +kernel) hown hK hP 0 rfl rfl 7 (by decide) (hts (.fieldLink RX4 64 "HandlerOptimizerModel" "entries" "I") (by decide +kernel)) (fun _ h9 => h9) rfl dX4_remove_6 ?_
      refine lv_icmp_ge (tgt := 49) hx hb dX4_remove_9 (by decide) (fun c_1 => ?_) (fun c_1 => ?_)
      · skip
        have c_1 := (zz_get (a := y + 1) (b := nt) (by omega) (by omega)).mp c_1
        refine lv_aload_n hx hb dX4_remove_49 rfl (lv_at hl 0 rfl) ?_
        refine lv_dup hx hb dX4_remove_50 rfl ?_
        refine va_get (D := (dC, dI)) (ci := 4) (v := .int (nI nt)) (C := RX4) (T := TX4) (N := 20) hx hb hts (by decide +kernel) hown hK hP 0 rfl rfl 7 (by decide) (hts (.fieldLink RX4 64 "HandlerOptimizerModel" "entries" "I") (by decide +kernel)) (fun _ h9 => h9) rfl dX4_remove_51 ?_
        refine lv_iconst (v := 1) hx hb dX4_remove_54 (by decide) ?_
        refine lv_isub hx hb dX4_remove_55 ?_
        refine zz_top (y := nI (nt - 1)) (zz_pred (by omega)) ?_
        refine va_put (D := (dC, dI)) (ci := 4) (v := .int (nI (nt - 1))) (ty := .int) (C := RX4) (T := TX4) (N := 20) hx hb hts (by decide +kernel) tyX4 tyX4_ok nmX4 hown hK hP hD hS 0 rfl rfl 7 (by decide) (hts (.fieldLink RX4 64 "HandlerOptimizerModel" "entries" "I") (by decide +kernel)) (fun _ h9 => h9) rfl (by decide +kernel) rfl rfl (Nat.le_of_ble_eq_true rfl) dX4_remove_56 (fun H locs hP hD hS => ?_)
        have hP : va_P (dC, dI) vwCl (w4 b cI cZ tw nk pa nc fo th tg (nt - 1) gb ge gk gt ex tc es wy ab re go be) H := hP
        have hD : va_D A (w4 b cI cZ tw nk pa nc fo th tg (nt - 1) gb ge gk gt ex tc es wy ab re go be) := hD
        rw [← hQ]
        have hP9 := hP
        have hD9 := hD
        exact W.vret hx hb hr (fun t ht hW => ⟨⟨(gb, ge, gk, gt), rfl, (rT_end hr9 (by omega)), (by rw [ht]; exact hP9), va_K.moved hW.alike hK, hD9⟩, hS.F ht⟩) hS.2.2 dX4_remove_59
      · skip
        have c_1 := (zz_gef (a := y + 1) (b := nt) (by omega) (by omega)).mp c_1
        refine lv_aload_n hx hb dX4_remove_12 rfl (lv_at hl 0 rfl) ?_
        refine lv_iload_n hx hb dX4_remove_13 rfl (lv_at hl 2 rfl) ?_
        refine lv_iconst (v := 1) hx hb dX4_remove_14 (by decide) ?_
        refine lv_isub hx hb dX4_remove_15 ?_
        refine zz_top (y := nI y) (nI_pred _) ?_
        refine lv_aload_n hx hb dX4_remove_16 rfl (lv_at hl 0 rfl) ?_
        refine va_get (D := (dC, dI)) (ci := 4) (v := .ref (b 5)) (C := RX4) (T := TX4) (N := 20) hx hb hts (by decide +kernel) hown hK hP 0 rfl rfl 8 (by decide) (hts (.fieldLink RX4 26 "HandlerOptimizerModel" "froms" "[I") (by decide +kernel)) (fun _ h9 => h9) rfl dX4_remove_17 ?_
        refine lv_iload_n hx hb dX4_remove_20 rfl (lv_at hl 2 rfl) ?_
        refine va_iald hx hb hK hP 5 0 rfl rfl (vp_in_nI (n := y + 1) (by omega) (by decide)) dX4_remove_21 ?_
        refine zz_top (y := gb (y + 1)) (congrArg _ (nI_clamp (by omega))) ?_
        refine lv_aload_n hx hb dX4_remove_22 rfl (lv_at hl 0 rfl) ?_
        refine va_get (D := (dC, dI)) (ci := 4) (v := .ref (b 6)) (C := RX4) (T := TX4) (N := 20) hx hb hts (by decide +kernel) hown hK hP 0 rfl rfl 9 (by decide) (hts (.fieldLink RX4 29 "HandlerOptimizerModel" "tos" "[I") (by decide +kernel)) (fun _ h9 => h9) rfl dX4_remove_23 ?_
        refine lv_iload_n hx hb dX4_remove_26 rfl (lv_at hl 2 rfl) ?_
        refine va_iald hx hb hK hP 6 0 rfl rfl (vp_in_nI (n := y + 1) (by omega) (by decide)) dX4_remove_27 ?_
        refine zz_top (y := ge (y + 1)) (congrArg _ (nI_clamp (by omega))) ?_
        refine lv_aload_n hx hb dX4_remove_28 rfl (lv_at hl 0 rfl) ?_
        refine va_get (D := (dC, dI)) (ci := 4) (v := .ref (b 7)) (C := RX4) (T := TX4) (N := 20) hx hb hts (by decide +kernel) hown hK hP 0 rfl rfl 10 (by decide) (hts (.fieldLink RX4 32 "HandlerOptimizerModel" "entryKinds" "[I") (by decide +kernel)) (fun _ h9 => h9) rfl dX4_remove_29 ?_
        refine lv_iload_n hx hb dX4_remove_32 rfl (lv_at hl 2 rfl) ?_
        refine va_iald hx hb hK hP 7 0 rfl rfl (vp_in_nI (n := y + 1) (by omega) (by decide)) dX4_remove_33 ?_
        refine zz_top (y := gk (y + 1)) (congrArg _ (nI_clamp (by omega))) ?_
        refine lv_aload_n hx hb dX4_remove_34 rfl (lv_at hl 0 rfl) ?_
        refine va_get (D := (dC, dI)) (ci := 4) (v := .ref (b 8)) (C := RX4) (T := TX4) (N := 20) hx hb hts (by decide +kernel) hown hK hP 0 rfl rfl 11 (by decide) (hts (.fieldLink RX4 35 "HandlerOptimizerModel" "entryTargets" "[I") (by decide +kernel)) (fun _ h9 => h9) rfl dX4_remove_35 ?_
        refine lv_iload_n hx hb dX4_remove_38 rfl (lv_at hl 2 rfl) ?_
        refine va_iald hx hb hK hP 8 0 rfl rfl (vp_in_nI (n := y + 1) (by omega) (by decide)) dX4_remove_39 ?_
        refine zz_top (y := gt (y + 1)) (congrArg _ (nI_clamp (by omega))) ?_
        have hDc := hD
        have hFc := va_free (wc := w4 b cI cZ tw nk pa nc fo th tg nt gb ge gk gt ex tc es wy ab re go be) hD hS hA [0, 1, 2, 3, 4, 5, 6, 7, 8, 9, 10, 11, 12] rfl
        refine va_callv (va_runV (As := [.int (nI y), .int (gb (y + 1)), .int (ge (y + 1)), .int (gk (y + 1)), .int (gt (y + 1))]) (rest := []) ⟨hx, hb, hml, hown, hts⟩ (c_X4_put l dC dI cI cZ cJ b tw nk pa nc fo th tg nt gb ge gk gt ex tc es wy ab re go be y (gb (y + 1)) (ge (y + 1)) (gk (y + 1)) (gt (y + 1)) H.size (by omega)) (cwV 5 hts gX4_remove_X4_put rfl rfl rfl (by decide +kernel) ⟨Nat.le_of_ble_eq_true rfl, Nat.le_of_ble_eq_true rfl⟩) ⟨zWr_blind, va_recv hK hP (ci := 4) (q0 := 0) rfl rfl, zWr_at hP hK hn (hDc.weaken (fun _ _ _ _ => trivial))⟩ rfl rfl hl.1 rfl (lv_room (Nat.le_of_ble_eq_true rfl)) dX4_remove_40 ⟨Nat.le_of_ble_eq_true rfl, Nat.le_of_ble_eq_true rfl⟩) hS (fun q _ h => hFc q h) hFc (fun u_9 t H1 locs ht hvm hw hB hz1 hk1 hS => ?_)
        obtain ⟨hP1, -, hD1⟩ := hB
        rw [ht] at hP1
        obtain ⟨hP, hD⟩ := va_join (wr := []) (w1 := w4 b cI cZ tw nk pa nc fo th tg nt (upd gb y (gb (y + 1))) (upd ge y (ge (y + 1))) (upd gk y (gk (y + 1))) (upd gt y (gt (y + 1))) ex tc es wy ab re go be) hP hD [0, 1, 2, 3, 4, 5, 6, 7, 8, 9, 10, 11, 12] [] rfl rfl (by decide) (by decide) hk1 hFc hP1 hD1
        generalize H1 = H at hP hS ⊢
        have hP : va_P (dC, dI) vwCl (w4 b cI cZ tw nk pa nc fo th tg nt (upd gb y (gb (y + 1))) (upd ge y (ge (y + 1))) (upd gk y (gk (y + 1))) (upd gt y (gt (y + 1))) ex tc es wy ab re go be) H := hP
        have hD : va_D A (w4 b cI cZ tw nk pa nc fo th tg nt (upd gb y (gb (y + 1))) (upd ge y (ge (y + 1))) (upd gk y (gk (y + 1))) (upd gt y (gt (y + 1))) ex tc es wy ab re go be) := hD
        refine lv_iinc (v := nI (y + 1 + 1)) (lv' := [(2, .int (nI (y + 1 + 1))), (0, .ref (b 0)), (1, .int (nI ei))]) hx hb dX4_remove_43 hl (k := 2) rfl (zz_inc (y + 1) 1) (by decide) rfl (fun ls hl => ?_)
        refine lv_goto (tgt := 4) hx hb dX4_remove_46 (by decide) ?_
        exact ih_4 (y + 1) (upd gb y (gb (y + 1))) (upd ge y (ge (y + 1))) (upd gk y (gk (y + 1))) (upd gt y (gt (y + 1))) _ _ _ (by first | assumption | omega) (by first | assumption | omega) (rT_del hr9 hy (by omega)) (by omega) hP hD hS (lv_sub hl [1, 2, 0] rfl)
  exact J_4 _ ei tb te tk tt _ _ _ (by first | assumption | omega) (by first | assumption | omega) (rT_start hT) (Nat.lt_succ_self _) hP hD hS (lv_sub hl [1, 2, 0] rfl)

set_option maxHeartbeats 4000000 in
set_option maxRecDepth 100000 in
theorem c_X4_removeEntry (l : Launch) (dC : Nat → ClassId) (dI : Nat → Nat → Nat) (cI cZ cJ : ClassId) (b : Nat → Nat) (tw : Int32) (nk : Nat) (pa : Nat → Int32) (nc : Nat) (fo : Nat → Int32) (th : Nat → Int32) (tg : Nat → Int32) (nt : Nat) (tb : Nat → Int32) (te : Nat → Int32) (tk : Nat → Int32) (tt : Nat → Int32) (ex : Int32) (tc : Int32) (es : Int32) (wy : Int64) (ab : Nat → Int32) (re : Nat → Int32) (go : Nat → Int32) (be : Nat → Int32) (x : Int32) (T : Nat → Nat → Nat) (up : Nat → Nat → Bool) (sz : Nat) (hg : g4 nk ab up nt tb te tk tt T) (hc : okC nk nc fo th tg) : Met l yX4_removeEntry wsX4_removeEntry ({ frames := 2, cells := 0, slots := 0, locals := 47 } : Room) (va_Pc [.ref (b 0), .int x] (zWr (dC, dI) [(cI, .int), (cZ, .boolean), (cJ, .long)] (w4 b cI cZ tw nk pa nc fo th tg nt tb te tk tt ex tc es wy ab re go be) sz)) (va_Qi (fun (r : Int32) (u : Int32 × Nat × (Nat → Int32) × (Nat → Int32) × (Nat → Int32) × (Nat → Int32)) => match u with | (tw9, nt9, tb9, te9, tk9, tt9) => (hasI x nt = false ∧ tw9 = 1 ∧ nt9 = nt ∧ tb9 = tb ∧ te9 = te ∧ tk9 = tk ∧ tt9 = tt) ∨ (hasI x nt = true ∧ tw9 = 0 ∧ nt9 = nt - 1 ∧ r = nI (nt - 1) ∧ g4 nk ab up (nt - 1) tb9 te9 tk9 tt9 (dT T x.toNatClampNeg))) (fun u t => match u with | (tw9, nt9, tb9, te9, tk9, tt9) => zWo (dC, dI) [(cI, .int), (cZ, .boolean), (cJ, .long)] (w4 b cI cZ tw9 nk pa nc fo th tg nt9 tb9 te9 tk9 tt9 ex tc es wy ab re go be) (va_A (w4 b cI cZ tw nk pa nc fo th tg nt tb te tk tt ex tc es wy ab re go be) sz) t) (va_A (w4 b cI cZ tw nk pa nc fo th tg nt tb te tk tt ex tc es wy ab re go be) sz)) 0 0 (va_A (w4 b cI cZ tw nk pa nc fo th tg nt tb te tk tt ex tc es wy ab re go be) sz) := by
  refine Met.ofW (cc := cX4_removeEntry) (maxL := 2) (ret := (some .int)) (by decide) rfl ?_
  intro p e s m args below meth c s₁ B hml hv
  obtain ⟨hav, hsz, ⟨hP, hK, hn⟩, hD0⟩ := hv
  have hx := B.exec
  have hb := B.bytes
  have hr := B.returns
  have hts := atoms_spec (ws := wsX4_removeEntry) B.pre
  have hown : s.vm.findClass RX4 = some m.cls := findClass_of_methodNamed B.named
  have hlocks := B.notSynchronized
  subst hsz
  have hD := hD0.self (sz := s.heap.size)
  generalize hAe : (va_A (w4 b cI cZ tw nk pa nc fo th tg nt tb te tk tt ex tc es wy ab re go be) s.heap.size) = A at hD ⊢
  have hA : ∀ q : Nat, s.heap.size ≤ q → A q := fun q h => by rw [← hAe]; exact Or.inr h
  have hS : va_S A s.heap s.heap [] := va_S.rf
  generalize hQ : MQ below (va_Qi (fun (r : Int32) (u : Int32 × Nat × (Nat → Int32) × (Nat → Int32) × (Nat → Int32) × (Nat → Int32)) => match u with | (tw9, nt9, tb9, te9, tk9, tt9) => (hasI x nt = false ∧ tw9 = 1 ∧ nt9 = nt ∧ tb9 = tb ∧ te9 = te ∧ tk9 = tk ∧ tt9 = tt) ∨ (hasI x nt = true ∧ tw9 = 0 ∧ nt9 = nt - 1 ∧ r = nI (nt - 1) ∧ g4 nk ab up (nt - 1) tb9 te9 tk9 tt9 (dT T x.toNatClampNeg))) (fun u t => match u with | (tw9, nt9, tb9, te9, tk9, tt9) => zWo (dC, dI) [(cI, .int), (cZ, .boolean), (cJ, .long)] (w4 b cI cZ tw9 nk pa nc fo th tg nt9 tb9 te9 tk9 tt9 ex tc es wy ab re go be) A t) A) args s 0 0 A = Q
  refine W.eq (g2 := entryFrame m ([.ref (b 0), .int x] : List Value).toArray 2) (by rw [hav]) ?_
  have hl := lv_entry ([.ref (b 0), .int x]) (n := 2) (Nat.le_of_ble_eq_true rfl)
  rw [lg_entry_eq]
  generalize (lg_sl ([.ref (b 0), .int x]) ++ List.replicate (2 - (lg_sl ([.ref (b 0), .int x])).length) Slot.unset).toArray = ls at hl ⊢
  have hl : lv_has ls 2 [(0, .ref (b 0)), (1, .int x)] := hl
  obtain ⟨H, hH⟩ : ∃ H, H = s.heap := ⟨_, rfl⟩
  obtain ⟨locs, hlo⟩ : ∃ q : List Loc, q = [] := ⟨_, rfl⟩
  have hP : va_P (dC, dI) vwCl (w4 b cI cZ tw nk pa nc fo th tg nt tb te tk tt ex tc es wy ab re go be) H := by rw [hH]; exact hP
  have hS : va_S A s.heap H locs := by rw [hH, hlo]; exact hS
  refine zz_hl hH hlo ?_
  obtain ⟨hk01, hk8, hnt, hT, hO, hF, hU⟩ := id hg
  obtain ⟨hnc, hC⟩ := id hc
  refine lv_aload_n hx hb dX4_removeEntry_0 rfl (lv_at hl 0 rfl) ?_
  refine lv_iconst (v := 0) hx hb dX4_removeEntry_1 (by decide) ?_
  refine va_put (D := (dC, dI)) (ci := 4) (v := .int 0) (ty := .int) (C := RX4) (T := TX4) (N := 20) hx hb hts (by decide +kernel) tyX4 tyX4_ok nmX4 hown hK hP hD hS 0 rfl rfl 0 (by decide) (hts (.fieldLink RX4 54 "HandlerOptimizerModel" "thrown" "I") (by decide +kernel)) (fun _ h9 => h9) rfl (by decide +kernel) rfl rfl (Nat.le_of_ble_eq_true rfl) dX4_removeEntry_2 (fun H locs hP hD hS => ?_)
  have hP : va_P (dC, dI) vwCl (w4 b cI cZ 0 nk pa nc fo th tg nt tb te tk tt ex tc es wy ab re go be) H := hP
  have hD : va_D A (w4 b cI cZ 0 nk pa nc fo th tg nt tb te tk tt ex tc es wy ab re go be) := hD
  refine lv_aload_n hx hb dX4_removeEntry_5 rfl (lv_at hl 0 rfl) ?_
  refine lv_iload_n hx hb dX4_removeEntry_6 rfl (lv_at hl 1 rfl) ?_
  refine va_calli (va_runV (As := [.int x]) (rest := []) ⟨hx, hb, hml, hown, hts⟩ (c_X4_isEntry l dC dI cI cZ cJ b 0 nk pa nc fo th tg nt tb te tk tt ex tc es wy ab re go be x (by omega)) (cwV 1 hts gX4_removeEntry_X4_isEntry rfl rfl rfl (by decide +kernel) ⟨Nat.le_of_ble_eq_true rfl, Nat.le_of_ble_eq_true rfl⟩) ⟨zPre_blind, va_recv hK hP (ci := 4) (q0 := 0) rfl rfl, zPre_at hP hK hn⟩ rfl rfl hl.1 rfl (lv_room (Nat.le_of_ble_eq_true rfl)) dX4_removeEntry_7 ⟨Nat.le_of_ble_eq_true rfl, Nat.le_of_ble_eq_true rfl⟩) hS (fun _ _ h => h.elim) (fun _ h => h.elim) (fun r_1 u_9 t H locs ht hvm hw hB hz1 hk1 hS => ?_)
  have hP := zkeep hP hk1
  subst hw
  refine lv_if_ne (tgt := 19) hx hb dX4_removeEntry_10 (by decide) (fun c_2 => ?_) (fun c_2 => ?_)
  · skip
    have c9 := zb_1.mp c_2
    obtain ⟨i, hi, rfl⟩ := hasI_at (by omega) c9
    refine lv_aload_n hx hb dX4_removeEntry_19 rfl (lv_at hl 0 rfl) ?_
    refine lv_iload_n hx hb dX4_removeEntry_20 rfl (lv_at hl 1 rfl) ?_
    have hDc := hD
    have hFc := va_free (wc := w4 b cI cZ 0 nk pa nc fo th tg nt tb te tk tt ex tc es wy ab re go be) hD hS hA [0, 1, 2, 3, 4, 5, 6, 7, 8, 9, 10, 11, 12] rfl
    refine va_callv (va_runV (As := [.int (nI i)]) (rest := []) ⟨hx, hb, hml, hown, hts⟩ (c_X4_remove l dC dI cI cZ cJ b 0 nk pa nc fo th tg nt tb te tk tt ex tc es wy ab re go be i T H.size (by first | assumption | omega) (by first | assumption | omega) (by first | assumption | omega)) (cwV 1 hts gX4_removeEntry_X4_remove rfl rfl rfl (by decide +kernel) ⟨Nat.le_of_ble_eq_true rfl, Nat.le_of_ble_eq_true rfl⟩) ⟨zWr_blind, va_recv hK hP (ci := 4) (q0 := 0) rfl rfl, zWr_at hP hK hn (hDc.weaken (fun _ _ _ _ => trivial))⟩ rfl rfl hl.1 rfl (lv_room (Nat.le_of_ble_eq_true rfl)) dX4_removeEntry_21 ⟨Nat.le_of_ble_eq_true rfl, Nat.le_of_ble_eq_true rfl⟩) hS (fun q _ h => hFc q h) hFc (fun u_9 t H1 locs ht hvm hw hB hz1 hk1 hS => ?_)
    obtain ⟨tb_n, te_n, tk_n, tt_n⟩ := u_9
    dsimp only at hw hB
    obtain ⟨hP1, -, hD1⟩ := hB
    rw [ht] at hP1
    obtain ⟨hP, hD⟩ := va_join (wr := []) (w1 := w4 b cI cZ 0 nk pa nc fo th tg (nt - 1) tb_n te_n tk_n tt_n ex tc es wy ab re go be) hP hD [0, 1, 2, 3, 4, 5, 6, 7, 8, 9, 10, 11, 12] [] rfl rfl (by decide) (by decide) hk1 hFc hP1 hD1
    generalize H1 = H at hP hS ⊢
    have hP : va_P (dC, dI) vwCl (w4 b cI cZ 0 nk pa nc fo th tg (nt - 1) tb_n te_n tk_n tt_n ex tc es wy ab re go be) H := hP
    have hD : va_D A (w4 b cI cZ 0 nk pa nc fo th tg (nt - 1) tb_n te_n tk_n tt_n ex tc es wy ab re go be) := hD
    have hTd := hw
    refine lv_aload_n hx hb dX4_removeEntry_24 rfl (lv_at hl 0 rfl) ?_
    refine va_get (D := (dC, dI)) (ci := 4) (v := .int (nI (nt - 1))) (C := RX4) (T := TX4) (N := 20) hx hb hts (by decide +kernel) hown hK hP 0 rfl rfl 7 (by decide) (hts (.fieldLink RX4 64 "HandlerOptimizerModel" "entries" "I") (by decide +kernel)) (fun _ h9 => h9) rfl dX4_removeEntry_25 ?_
    rw [← hQ]
    have hP9 := hP
    have hD9 := hD
    exact W.iret (v := nI (nt - 1)) hx hb hr (fun t ht hW => ⟨⟨nI (nt - 1), (0, nt - 1, tb_n, te_n, tk_n, tt_n), rfl, (by rw [nI_clamp (by omega)]; exact Or.inr ⟨c9, rfl, rfl, rfl, hk01, hk8, by omega, hTd, okT_del hO, hF, hU⟩), (by rw [ht]; exact hP9), va_K.moved hW.alike hK, hD9⟩, hS.F ht⟩) hS.2.2 dX4_removeEntry_28
  · skip
    have c9 := zb_0.mp c_2
    refine lv_aload_n hx hb dX4_removeEntry_13 rfl (lv_at hl 0 rfl) ?_
    refine lv_iconst (v := 1) hx hb dX4_removeEntry_14 (by decide) ?_
    have hDc := hD
    have hFc := va_free (wc := w4 b cI cZ 0 nk pa nc fo th tg nt tb te tk tt ex tc es wy ab re go be) hD hS hA [0, 1, 2, 3, 4, 5, 6, 7, 8, 9, 10, 11, 12] rfl
    refine va_calli (va_runV (As := [.int 1]) (rest := []) ⟨hx, hb, hml, hown, hts⟩ (c_X4_no l dC dI cI cZ cJ b 0 nk pa nc fo th tg nt tb te tk tt ex tc es wy ab re go be 1 H.size ) (cwV 1 hts gX4_removeEntry_X4_no rfl rfl rfl (by decide +kernel) ⟨Nat.le_of_ble_eq_true rfl, Nat.le_of_ble_eq_true rfl⟩) ⟨zWr_blind, va_recv hK hP (ci := 4) (q0 := 0) rfl rfl, zWr_at hP hK hn (hDc.weaken (fun _ _ _ _ => trivial))⟩ rfl rfl hl.1 rfl (lv_room (Nat.le_of_ble_eq_true rfl)) dX4_removeEntry_15 ⟨Nat.le_of_ble_eq_true rfl, Nat.le_of_ble_eq_true rfl⟩) hS (fun q _ h => hFc q h) hFc (fun r_8 u_9 t H1 locs ht hvm hw hB hz1 hk1 hS => ?_)
    obtain ⟨hP1, -, hD1⟩ := hB
    rw [ht] at hP1
    obtain ⟨hP, hD⟩ := va_join (wr := []) (w1 := w4 b cI cZ 1 nk pa nc fo th tg nt tb te tk tt ex tc es wy ab re go be) hP hD [0, 1, 2, 3, 4, 5, 6, 7, 8, 9, 10, 11, 12] [] rfl rfl (by decide) (by decide) hk1 hFc hP1 hD1
    generalize H1 = H at hP hS ⊢
    have hP : va_P (dC, dI) vwCl (w4 b cI cZ 1 nk pa nc fo th tg nt tb te tk tt ex tc es wy ab re go be) H := hP
    have hD : va_D A (w4 b cI cZ 1 nk pa nc fo th tg nt tb te tk tt ex tc es wy ab re go be) := hD
    subst hw
    rw [← hQ]
    have hP9 := hP
    have hD9 := hD
    exact W.iret (v := 0) hx hb hr (fun t ht hW => ⟨⟨0, (1, nt, tb, te, tk, tt), rfl, (Or.inl ⟨c9, rfl, rfl, rfl, rfl, rfl, rfl⟩), (by rw [ht]; exact hP9), va_K.moved hW.alike hK, hD9⟩, hS.F ht⟩) hS.2.2 dX4_removeEntry_18

set_option maxHeartbeats 4000000 in
set_option maxRecDepth 100000 in
theorem c_X4_entry (l : Launch) (dC : Nat → ClassId) (dI : Nat → Nat → Nat) (cI cZ cJ : ClassId) (b : Nat → Nat) (tw : Int32) (nk : Nat) (pa : Nat → Int32) (nc : Nat) (fo : Nat → Int32) (th : Nat → Int32) (tg : Nat → Int32) (nt : Nat) (tb : Nat → Int32) (te : Nat → Int32) (tk : Nat → Int32) (tt : Nat → Int32) (ex : Int32) (tc : Int32) (es : Int32) (wy : Int64) (ab : Nat → Int32) (re : Nat → Int32) (go : Nat → Int32) (be : Nat → Int32) (x : Int32) (wh : Int32) (T : Nat → Nat → Nat) (up : Nat → Nat → Bool) (sz : Nat) (hg : g4 nk ab up nt tb te tk tt T) (hc : okC nk nc fo th tg) : Met l yX4_entry wsX4_entry ({ frames := 2, cells := 0, slots := 0, locals := 43 } : Room) (va_Pc [.ref (b 0), .int x, .int wh] (zWr (dC, dI) [(cI, .int), (cZ, .boolean), (cJ, .long)] (w4 b cI cZ tw nk pa nc fo th tg nt tb te tk tt ex tc es wy ab re go be) sz)) (va_Qi (fun (r : Int32) (tw9 : Int32) => ((hasI x nt && hasI wh 4) = true ∧ tw9 = 0 ∧ r = entV T x.toNatClampNeg wh) ∨ ((hasI x nt && hasI wh 4) = false ∧ tw9 = 1)) (fun tw9 t => zWo (dC, dI) [(cI, .int), (cZ, .boolean), (cJ, .long)] (w4 b cI cZ tw9 nk pa nc fo th tg nt tb te tk tt ex tc es wy ab re go be) (va_A (w4 b cI cZ tw nk pa nc fo th tg nt tb te tk tt ex tc es wy ab re go be) sz) t) (va_A (w4 b cI cZ tw nk pa nc fo th tg nt tb te tk tt ex tc es wy ab re go be) sz)) 0 0 (va_A (w4 b cI cZ tw nk pa nc fo th tg nt tb te tk tt ex tc es wy ab re go be) sz) := by
  refine Met.ofW (cc := cX4_entry) (maxL := 3) (ret := (some .int)) (by decide) rfl ?_
  intro p e s m args below meth c s₁ B hml hv
  obtain ⟨hav, hsz, ⟨hP, hK, hn⟩, hD0⟩ := hv
  have hx := B.exec
  have hb := B.bytes
  have hr := B.returns
  have hts := atoms_spec (ws := wsX4_entry) B.pre
  have hown : s.vm.findClass RX4 = some m.cls := findClass_of_methodNamed B.named
  have hlocks := B.notSynchronized
  subst hsz
  have hD := hD0.self (sz := s.heap.size)
  generalize hAe : (va_A (w4 b cI cZ tw nk pa nc fo th tg nt tb te tk tt ex tc es wy ab re go be) s.heap.size) = A at hD ⊢
  have hA : ∀ q : Nat, s.heap.size ≤ q → A q := fun q h => by rw [← hAe]; exact Or.inr h
  have hS : va_S A s.heap s.heap [] := va_S.rf
  generalize hQ : MQ below (va_Qi (fun (r : Int32) (tw9 : Int32) => ((hasI x nt && hasI wh 4) = true ∧ tw9 = 0 ∧ r = entV T x.toNatClampNeg wh) ∨ ((hasI x nt && hasI wh 4) = false ∧ tw9 = 1)) (fun tw9 t => zWo (dC, dI) [(cI, .int), (cZ, .boolean), (cJ, .long)] (w4 b cI cZ tw9 nk pa nc fo th tg nt tb te tk tt ex tc es wy ab re go be) A t) A) args s 0 0 A = Q
  refine W.eq (g2 := entryFrame m ([.ref (b 0), .int x, .int wh] : List Value).toArray 3) (by rw [hav]) ?_
  have hl := lv_entry ([.ref (b 0), .int x, .int wh]) (n := 3) (Nat.le_of_ble_eq_true rfl)
  rw [lg_entry_eq]
  generalize (lg_sl ([.ref (b 0), .int x, .int wh]) ++ List.replicate (3 - (lg_sl ([.ref (b 0), .int x, .int wh])).length) Slot.unset).toArray = ls at hl ⊢
  have hl : lv_has ls 3 [(0, .ref (b 0)), (1, .int x), (2, .int wh)] := hl
  obtain ⟨H, hH⟩ : ∃ H, H = s.heap := ⟨_, rfl⟩
  obtain ⟨locs, hlo⟩ : ∃ q : List Loc, q = [] := ⟨_, rfl⟩
  have hP : va_P (dC, dI) vwCl (w4 b cI cZ tw nk pa nc fo th tg nt tb te tk tt ex tc es wy ab re go be) H := by rw [hH]; exact hP
  have hS : va_S A s.heap H locs := by rw [hH, hlo]; exact hS
  refine zz_hl hH hlo ?_
  obtain ⟨hk01, hk8, hnt, hT, hO, hF, hU⟩ := id hg
  obtain ⟨hnc, hC⟩ := id hc
  refine lv_aload_n hx hb dX4_entry_0 rfl (lv_at hl 0 rfl) ?_
  refine lv_iconst (v := 0) hx hb dX4_entry_1 (by decide) ?_
  refine va_put (D := (dC, dI)) (ci := 4) (v := .int 0) (ty := .int) (C := RX4) (T := TX4) (N := 20) hx hb hts (by decide +kernel) tyX4 tyX4_ok nmX4 hown hK hP hD hS 0 rfl rfl 0 (by decide) (hts (.fieldLink RX4 54 "HandlerOptimizerModel" "thrown" "I") (by decide +kernel)) (fun _ h9 => h9) rfl (by decide +kernel) rfl rfl (Nat.le_of_ble_eq_true rfl) dX4_entry_2 (fun H locs hP hD hS => ?_)
  have hP : va_P (dC, dI) vwCl (w4 b cI cZ 0 nk pa nc fo th tg nt tb te tk tt ex tc es wy ab re go be) H := hP
  have hD : va_D A (w4 b cI cZ 0 nk pa nc fo th tg nt tb te tk tt ex tc es wy ab re go be) := hD
  refine lv_aload_n hx hb dX4_entry_5 rfl (lv_at hl 0 rfl) ?_
  refine lv_iload_n hx hb dX4_entry_6 rfl (lv_at hl 1 rfl) ?_
  refine va_calli (va_runV (As := [.int x]) (rest := []) ⟨hx, hb, hml, hown, hts⟩ (c_X4_isEntry l dC dI cI cZ cJ b 0 nk pa nc fo th tg nt tb te tk tt ex tc es wy ab re go be x (by omega)) (cwV 1 hts gX4_entry_X4_isEntry rfl rfl rfl (by decide +kernel) ⟨Nat.le_of_ble_eq_true rfl, Nat.le_of_ble_eq_true rfl⟩) ⟨zPre_blind, va_recv hK hP (ci := 4) (q0 := 0) rfl rfl, zPre_at hP hK hn⟩ rfl rfl hl.1 rfl (lv_room (Nat.le_of_ble_eq_true rfl)) dX4_entry_7 ⟨Nat.le_of_ble_eq_true rfl, Nat.le_of_ble_eq_true rfl⟩) hS (fun _ _ h => h.elim) (fun _ h => h.elim) (fun r_1 u_9 t H locs ht hvm hw hB hz1 hk1 hS => ?_)
  have hP := zkeep hP hk1
  subst hw
  refine lv_if_eq (tgt := 22) hx hb dX4_entry_10 (by decide) (fun c_2 => ?_) (fun c_2 => ?_)
  · skip
    have c9 : (hasI x nt && hasI wh 4) = false := by rw [zb_0.mp c_2]; rfl
    refine lv_aload_n hx hb dX4_entry_22 rfl (lv_at hl 0 rfl) ?_
    refine lv_iconst (v := 1) hx hb dX4_entry_23 (by decide) ?_
    have hDc := hD
    have hFc := va_free (wc := w4 b cI cZ 0 nk pa nc fo th tg nt tb te tk tt ex tc es wy ab re go be) hD hS hA [0, 1, 2, 3, 4, 5, 6, 7, 8, 9, 10, 11, 12] rfl
    refine va_calli (va_runV (As := [.int 1]) (rest := []) ⟨hx, hb, hml, hown, hts⟩ (c_X4_no l dC dI cI cZ cJ b 0 nk pa nc fo th tg nt tb te tk tt ex tc es wy ab re go be 1 H.size ) (cwV 1 hts gX4_entry_X4_no rfl rfl rfl (by decide +kernel) ⟨Nat.le_of_ble_eq_true rfl, Nat.le_of_ble_eq_true rfl⟩) ⟨zWr_blind, va_recv hK hP (ci := 4) (q0 := 0) rfl rfl, zWr_at hP hK hn (hDc.weaken (fun _ _ _ _ => trivial))⟩ rfl rfl hl.1 rfl (lv_room (Nat.le_of_ble_eq_true rfl)) dX4_entry_24 ⟨Nat.le_of_ble_eq_true rfl, Nat.le_of_ble_eq_true rfl⟩) hS (fun q _ h => hFc q h) hFc (fun r_3 u_9 t H1 locs ht hvm hw hB hz1 hk1 hS => ?_)
    obtain ⟨hP1, -, hD1⟩ := hB
    rw [ht] at hP1
    obtain ⟨hP, hD⟩ := va_join (wr := []) (w1 := w4 b cI cZ 1 nk pa nc fo th tg nt tb te tk tt ex tc es wy ab re go be) hP hD [0, 1, 2, 3, 4, 5, 6, 7, 8, 9, 10, 11, 12] [] rfl rfl (by decide) (by decide) hk1 hFc hP1 hD1
    generalize H1 = H at hP hS ⊢
    have hP : va_P (dC, dI) vwCl (w4 b cI cZ 1 nk pa nc fo th tg nt tb te tk tt ex tc es wy ab re go be) H := hP
    have hD : va_D A (w4 b cI cZ 1 nk pa nc fo th tg nt tb te tk tt ex tc es wy ab re go be) := hD
    subst hw
    rw [← hQ]
    have hP9 := hP
    have hD9 := hD
    exact W.iret (v := 0) hx hb hr (fun t ht hW => ⟨⟨0, 1, rfl, (Or.inr ⟨c9, rfl⟩), (by rw [ht]; exact hP9), va_K.moved hW.alike hK, hD9⟩, hS.F ht⟩) hS.2.2 dX4_entry_27
  · skip
    have c5 := zb_1.mp c_2
    refine lv_iload_n hx hb dX4_entry_13 rfl (lv_at hl 2 rfl) ?_
    refine lv_iconst (v := 0) hx hb dX4_entry_14 (by decide) ?_
    refine lv_iconst (v := 3) hx hb dX4_entry_15 (by decide) ?_
    have hPc : va_P (dC, dI) vwCl [] H := fun k q h => by simp at h
    refine va_calli (va_runS (As := [.int wh, .int 0, .int 3]) (rest := []) ⟨hx, hb, hml, hown, hts⟩ (c_X4_isIn l dC dI cI cZ cJ wh 0 3 ) (va_cwS 3 hts gX4_entry_X4_isIn rfl rfl rfl (by decide +kernel) ⟨Nat.le_of_ble_eq_true rfl, Nat.le_of_ble_eq_true rfl⟩) ⟨zPre_blind, zPre_at hPc hK hn⟩ rfl rfl hl.1 rfl (lv_room (Nat.le_of_ble_eq_true rfl)) dX4_entry_16 ⟨Nat.le_of_ble_eq_true rfl, Nat.le_of_ble_eq_true rfl⟩) hS (fun _ _ h => h.elim) (fun _ h => h.elim) (fun r_4 u_9 t H locs ht hvm hw hB hz1 hk1 hS => ?_)
    have hP := zkeep hP hk1
    subst hw
    refine lv_if_ne (tgt := 28) hx hb dX4_entry_19 (by decide) (fun c_5 => ?_) (fun c_5 => ?_)
    · skip
      have c6 : hasI wh 4 = true := by rw [← inI (n := 4) (by omega)]; exact zb_1.mp c_5
      have c9 : (hasI x nt && hasI wh 4) = true := by rw [c5, c6]; rfl
      obtain ⟨i, hi, rfl⟩ := hasI_at (by omega) c5
      obtain ⟨e0, e1, e2, e3⟩ := hT i hi
      refine lv_iload_n hx hb dX4_entry_28 rfl (lv_at hl 2 rfl) ?_
      refine lv_if_ne (tgt := 41) hx hb dX4_entry_29 (by decide) (fun c_6 => ?_) (fun c_6 => ?_)
      · skip
        skip
        refine lv_iload_n hx hb dX4_entry_41 rfl (lv_at hl 2 rfl) ?_
        refine lv_iconst (v := 1) hx hb dX4_entry_42 (by decide) ?_
        refine lv_icmp_ne (tgt := 55) hx hb dX4_entry_43 (by decide) (fun c_7 => ?_) (fun c_7 => ?_)
        · skip
          skip
          refine lv_iload_n hx hb dX4_entry_55 rfl (lv_at hl 2 rfl) ?_
          refine lv_iconst (v := 2) hx hb dX4_entry_56 (by decide) ?_
          refine lv_icmp_ne (tgt := 69) hx hb dX4_entry_57 (by decide) (fun c_8 => ?_) (fun c_8 => ?_)
          · skip
            skip
            refine lv_aload_n hx hb dX4_entry_69 rfl (lv_at hl 0 rfl) ?_
            refine va_get (D := (dC, dI)) (ci := 4) (v := .ref (b 8)) (C := RX4) (T := TX4) (N := 20) hx hb hts (by decide +kernel) hown hK hP 0 rfl rfl 11 (by decide) (hts (.fieldLink RX4 35 "HandlerOptimizerModel" "entryTargets" "[I") (by decide +kernel)) (fun _ h9 => h9) rfl dX4_entry_70 ?_
            refine lv_iload_n hx hb dX4_entry_73 rfl (lv_at hl 1 rfl) ?_
            refine va_iald hx hb hK hP 8 0 rfl rfl (vp_in_nI (n := i) (by omega) (by decide)) dX4_entry_74 ?_
            refine zz_top (y := tt i) (congrArg _ (nI_clamp (by omega))) ?_
            rw [← hQ]
            have hP9 := hP
            have hD9 := hD
            exact W.iret (v := tt i) hx hb hr (fun t ht hW => ⟨⟨tt i, 0, rfl, (by refine Or.inl ⟨c9, rfl, ?_⟩; rw [nI_clamp (by omega)]; simp [entV, *]), (by rw [ht]; exact hP9), va_K.moved hW.alike hK, hD9⟩, hS.F ht⟩) hS.2.2 dX4_entry_75
          · skip
            skip
            refine lv_aload_n hx hb dX4_entry_60 rfl (lv_at hl 0 rfl) ?_
            refine va_get (D := (dC, dI)) (ci := 4) (v := .ref (b 7)) (C := RX4) (T := TX4) (N := 20) hx hb hts (by decide +kernel) hown hK hP 0 rfl rfl 10 (by decide) (hts (.fieldLink RX4 32 "HandlerOptimizerModel" "entryKinds" "[I") (by decide +kernel)) (fun _ h9 => h9) rfl dX4_entry_61 ?_
            refine lv_iload_n hx hb dX4_entry_64 rfl (lv_at hl 1 rfl) ?_
            refine va_iald hx hb hK hP 7 0 rfl rfl (vp_in_nI (n := i) (by omega) (by decide)) dX4_entry_65 ?_
            refine zz_top (y := tk i) (congrArg _ (nI_clamp (by omega))) ?_
            refine lv_goto (tgt := 75) hx hb dX4_entry_66 (by decide) ?_
            rw [← hQ]
            have hP9 := hP
            have hD9 := hD
            exact W.iret (v := tk i) hx hb hr (fun t ht hW => ⟨⟨tk i, 0, rfl, (by refine Or.inl ⟨c9, rfl, ?_⟩; rw [nI_clamp (by omega)]; simp [entV, *]), (by rw [ht]; exact hP9), va_K.moved hW.alike hK, hD9⟩, hS.F ht⟩) hS.2.2 dX4_entry_75
        · skip
          skip
          refine lv_aload_n hx hb dX4_entry_46 rfl (lv_at hl 0 rfl) ?_
          refine va_get (D := (dC, dI)) (ci := 4) (v := .ref (b 6)) (C := RX4) (T := TX4) (N := 20) hx hb hts (by decide +kernel) hown hK hP 0 rfl rfl 9 (by decide) (hts (.fieldLink RX4 29 "HandlerOptimizerModel" "tos" "[I") (by decide +kernel)) (fun _ h9 => h9) rfl dX4_entry_47 ?_
          refine lv_iload_n hx hb dX4_entry_50 rfl (lv_at hl 1 rfl) ?_
          refine va_iald hx hb hK hP 6 0 rfl rfl (vp_in_nI (n := i) (by omega) (by decide)) dX4_entry_51 ?_
          refine zz_top (y := te i) (congrArg _ (nI_clamp (by omega))) ?_
          refine lv_goto (tgt := 75) hx hb dX4_entry_52 (by decide) ?_
          rw [← hQ]
          have hP9 := hP
          have hD9 := hD
          exact W.iret (v := te i) hx hb hr (fun t ht hW => ⟨⟨te i, 0, rfl, (by refine Or.inl ⟨c9, rfl, ?_⟩; rw [nI_clamp (by omega)]; simp [entV, *]), (by rw [ht]; exact hP9), va_K.moved hW.alike hK, hD9⟩, hS.F ht⟩) hS.2.2 dX4_entry_75
      · skip
        skip
        refine lv_aload_n hx hb dX4_entry_32 rfl (lv_at hl 0 rfl) ?_
        refine va_get (D := (dC, dI)) (ci := 4) (v := .ref (b 5)) (C := RX4) (T := TX4) (N := 20) hx hb hts (by decide +kernel) hown hK hP 0 rfl rfl 8 (by decide) (hts (.fieldLink RX4 26 "HandlerOptimizerModel" "froms" "[I") (by decide +kernel)) (fun _ h9 => h9) rfl dX4_entry_33 ?_
        refine lv_iload_n hx hb dX4_entry_36 rfl (lv_at hl 1 rfl) ?_
        refine va_iald hx hb hK hP 5 0 rfl rfl (vp_in_nI (n := i) (by omega) (by decide)) dX4_entry_37 ?_
        refine zz_top (y := tb i) (congrArg _ (nI_clamp (by omega))) ?_
        refine lv_goto (tgt := 75) hx hb dX4_entry_38 (by decide) ?_
        rw [← hQ]
        have hP9 := hP
        have hD9 := hD
        exact W.iret (v := tb i) hx hb hr (fun t ht hW => ⟨⟨tb i, 0, rfl, (by refine Or.inl ⟨c9, rfl, ?_⟩; rw [nI_clamp (by omega)]; simp [entV, *]), (by rw [ht]; exact hP9), va_K.moved hW.alike hK, hD9⟩, hS.F ht⟩) hS.2.2 dX4_entry_75
    · skip
      have c9 : (hasI x nt && hasI wh 4) = false := by rw [← inI (n := 4) (by omega)]; rw [show (!decide (wh < 0) && !decide (nI 4 - 1 < wh)) = false from zb_0.mp c_5]; exact Bool.and_false _
      refine lv_aload_n hx hb dX4_entry_22 rfl (lv_at hl 0 rfl) ?_
      refine lv_iconst (v := 1) hx hb dX4_entry_23 (by decide) ?_
      have hDc := hD
      have hFc := va_free (wc := w4 b cI cZ 0 nk pa nc fo th tg nt tb te tk tt ex tc es wy ab re go be) hD hS hA [0, 1, 2, 3, 4, 5, 6, 7, 8, 9, 10, 11, 12] rfl
      refine va_calli (va_runV (As := [.int 1]) (rest := []) ⟨hx, hb, hml, hown, hts⟩ (c_X4_no l dC dI cI cZ cJ b 0 nk pa nc fo th tg nt tb te tk tt ex tc es wy ab re go be 1 H.size ) (cwV 1 hts gX4_entry_X4_no rfl rfl rfl (by decide +kernel) ⟨Nat.le_of_ble_eq_true rfl, Nat.le_of_ble_eq_true rfl⟩) ⟨zWr_blind, va_recv hK hP (ci := 4) (q0 := 0) rfl rfl, zWr_at hP hK hn (hDc.weaken (fun _ _ _ _ => trivial))⟩ rfl rfl hl.1 rfl (lv_room (Nat.le_of_ble_eq_true rfl)) dX4_entry_24 ⟨Nat.le_of_ble_eq_true rfl, Nat.le_of_ble_eq_true rfl⟩) hS (fun q _ h => hFc q h) hFc (fun r_9 u_9 t H1 locs ht hvm hw hB hz1 hk1 hS => ?_)
      obtain ⟨hP1, -, hD1⟩ := hB
      rw [ht] at hP1
      obtain ⟨hP, hD⟩ := va_join (wr := []) (w1 := w4 b cI cZ 1 nk pa nc fo th tg nt tb te tk tt ex tc es wy ab re go be) hP hD [0, 1, 2, 3, 4, 5, 6, 7, 8, 9, 10, 11, 12] [] rfl rfl (by decide) (by decide) hk1 hFc hP1 hD1
      generalize H1 = H at hP hS ⊢
      have hP : va_P (dC, dI) vwCl (w4 b cI cZ 1 nk pa nc fo th tg nt tb te tk tt ex tc es wy ab re go be) H := hP
      have hD : va_D A (w4 b cI cZ 1 nk pa nc fo th tg nt tb te tk tt ex tc es wy ab re go be) := hD
      subst hw
      rw [← hQ]
      have hP9 := hP
      have hD9 := hD
      exact W.iret (v := 0) hx hb hr (fun t ht hW => ⟨⟨0, 1, rfl, (Or.inr ⟨c9, rfl⟩), (by rw [ht]; exact hP9), va_K.moved hW.alike hK, hD9⟩, hS.F ht⟩) hS.2.2 dX4_entry_27

set_option maxHeartbeats 4000000 in
set_option maxRecDepth 100000 in
theorem c_X4_addEntry (l : Launch) (dC : Nat → ClassId) (dI : Nat → Nat → Nat) (cI cZ cJ : ClassId) (b : Nat → Nat) (tw : Int32) (nk : Nat) (pa : Nat → Int32) (nc : Nat) (fo : Nat → Int32) (th : Nat → Int32) (tg : Nat → Int32) (nt : Nat) (tb : Nat → Int32) (te : Nat → Int32) (tk : Nat → Int32) (tt : Nat → Int32) (ex : Int32) (tc : Int32) (es : Int32) (wy : Int64) (ab : Nat → Int32) (re : Nat → Int32) (go : Nat → Int32) (be : Nat → Int32) (x : Int32) (y : Int32) (z : Int32) (w : Int32) (T : Nat → Nat → Nat) (up : Nat → Nat → Bool) (sz : Nat) (hg : g4 nk ab up nt tb te tk tt T) (hc : okC nk nc fo th tg) : Met l yX4_addEntry wsX4_addEntry ({ frames := 2, cells := 0, slots := 0, locals := 43 } : Room) (va_Pc [.ref (b 0), .int x, .int y, .int z, .int w] (zWr (dC, dI) [(cI, .int), (cZ, .boolean), (cJ, .long)] (w4 b cI cZ tw nk pa nc fo th tg nt tb te tk tt ex tc es wy ab re go be) sz)) (va_Qi (fun (r : Int32) (u : Int32 × Nat × (Nat → Int32) × (Nat → Int32) × (Nat → Int32) × (Nat → Int32)) => match u with | (tw9, nt9, tb9, te9, tk9, tt9) => (tb9 = tb ∧ te9 = te ∧ tk9 = tk ∧ tt9 = tt ∧ nt9 = nt ∧ (hasI z nk = false ∧ tw9 = 1 ∨ hasI z nk = true ∧ eOK x y w = false ∧ tw9 = 2 ∨ hasI z nk = true ∧ eOK x y w = true ∧ nt = 24 ∧ tw9 = 3)) ∨ (hasI z nk = true ∧ eOK x y w = true ∧ nt < 24 ∧ tw9 = 0 ∧ nt9 = nt + 1 ∧ r = nI nt ∧ g4 nk ab up (nt + 1) tb9 te9 tk9 tt9 (aT T nt x.toNatClampNeg y.toNatClampNeg z.toNatClampNeg w.toNatClampNeg))) (fun u t => match u with | (tw9, nt9, tb9, te9, tk9, tt9) => zWo (dC, dI) [(cI, .int), (cZ, .boolean), (cJ, .long)] (w4 b cI cZ tw9 nk pa nc fo th tg nt9 tb9 te9 tk9 tt9 ex tc es wy ab re go be) (va_A (w4 b cI cZ tw nk pa nc fo th tg nt tb te tk tt ex tc es wy ab re go be) sz) t) (va_A (w4 b cI cZ tw nk pa nc fo th tg nt tb te tk tt ex tc es wy ab re go be) sz)) 0 0 (va_A (w4 b cI cZ tw nk pa nc fo th tg nt tb te tk tt ex tc es wy ab re go be) sz) := by
  refine Met.ofW (cc := cX4_addEntry) (maxL := 5) (ret := (some .int)) (by decide) rfl ?_
  intro p e s m args below meth c s₁ B hml hv
  obtain ⟨hav, hsz, ⟨hP, hK, hn⟩, hD0⟩ := hv
  have hx := B.exec
  have hb := B.bytes
  have hr := B.returns
  have hts := atoms_spec (ws := wsX4_addEntry) B.pre
  have hown : s.vm.findClass RX4 = some m.cls := findClass_of_methodNamed B.named
  have hlocks := B.notSynchronized
  subst hsz
  have hD := hD0.self (sz := s.heap.size)
  generalize hAe : (va_A (w4 b cI cZ tw nk pa nc fo th tg nt tb te tk tt ex tc es wy ab re go be) s.heap.size) = A at hD ⊢
  have hA : ∀ q : Nat, s.heap.size ≤ q → A q := fun q h => by rw [← hAe]; exact Or.inr h
  have hS : va_S A s.heap s.heap [] := va_S.rf
  generalize hQ : MQ below (va_Qi (fun (r : Int32) (u : Int32 × Nat × (Nat → Int32) × (Nat → Int32) × (Nat → Int32) × (Nat → Int32)) => match u with | (tw9, nt9, tb9, te9, tk9, tt9) => (tb9 = tb ∧ te9 = te ∧ tk9 = tk ∧ tt9 = tt ∧ nt9 = nt ∧ (hasI z nk = false ∧ tw9 = 1 ∨ hasI z nk = true ∧ eOK x y w = false ∧ tw9 = 2 ∨ hasI z nk = true ∧ eOK x y w = true ∧ nt = 24 ∧ tw9 = 3)) ∨ (hasI z nk = true ∧ eOK x y w = true ∧ nt < 24 ∧ tw9 = 0 ∧ nt9 = nt + 1 ∧ r = nI nt ∧ g4 nk ab up (nt + 1) tb9 te9 tk9 tt9 (aT T nt x.toNatClampNeg y.toNatClampNeg z.toNatClampNeg w.toNatClampNeg))) (fun u t => match u with | (tw9, nt9, tb9, te9, tk9, tt9) => zWo (dC, dI) [(cI, .int), (cZ, .boolean), (cJ, .long)] (w4 b cI cZ tw9 nk pa nc fo th tg nt9 tb9 te9 tk9 tt9 ex tc es wy ab re go be) A t) A) args s 0 0 A = Q
  refine W.eq (g2 := entryFrame m ([.ref (b 0), .int x, .int y, .int z, .int w] : List Value).toArray 5) (by rw [hav]) ?_
  have hl := lv_entry ([.ref (b 0), .int x, .int y, .int z, .int w]) (n := 5) (Nat.le_of_ble_eq_true rfl)
  rw [lg_entry_eq]
  generalize (lg_sl ([.ref (b 0), .int x, .int y, .int z, .int w]) ++ List.replicate (5 - (lg_sl ([.ref (b 0), .int x, .int y, .int z, .int w])).length) Slot.unset).toArray = ls at hl ⊢
  have hl : lv_has ls 5 [(0, .ref (b 0)), (1, .int x), (2, .int y), (3, .int z), (4, .int w)] := hl
  obtain ⟨H, hH⟩ : ∃ H, H = s.heap := ⟨_, rfl⟩
  obtain ⟨locs, hlo⟩ : ∃ q : List Loc, q = [] := ⟨_, rfl⟩
  have hP : va_P (dC, dI) vwCl (w4 b cI cZ tw nk pa nc fo th tg nt tb te tk tt ex tc es wy ab re go be) H := by rw [hH]; exact hP
  have hS : va_S A s.heap H locs := by rw [hH, hlo]; exact hS
  refine zz_hl hH hlo ?_
  obtain ⟨hk01, hk8, hnt, hT, hO, hF, hU⟩ := id hg
  obtain ⟨hnc, hC⟩ := id hc
  refine lv_aload_n hx hb dX4_addEntry_0 rfl (lv_at hl 0 rfl) ?_
  refine lv_iconst (v := 0) hx hb dX4_addEntry_1 (by decide) ?_
  refine va_put (D := (dC, dI)) (ci := 4) (v := .int 0) (ty := .int) (C := RX4) (T := TX4) (N := 20) hx hb hts (by decide +kernel) tyX4 tyX4_ok nmX4 hown hK hP hD hS 0 rfl rfl 0 (by decide) (hts (.fieldLink RX4 54 "HandlerOptimizerModel" "thrown" "I") (by decide +kernel)) (fun _ h9 => h9) rfl (by decide +kernel) rfl rfl (Nat.le_of_ble_eq_true rfl) dX4_addEntry_2 (fun H locs hP hD hS => ?_)
  have hP : va_P (dC, dI) vwCl (w4 b cI cZ 0 nk pa nc fo th tg nt tb te tk tt ex tc es wy ab re go be) H := hP
  have hD : va_D A (w4 b cI cZ 0 nk pa nc fo th tg nt tb te tk tt ex tc es wy ab re go be) := hD
  refine lv_aload_n hx hb dX4_addEntry_5 rfl (lv_at hl 0 rfl) ?_
  refine lv_iload_n hx hb dX4_addEntry_6 rfl (lv_at hl 3 rfl) ?_
  refine va_calli (va_runV (As := [.int z]) (rest := []) ⟨hx, hb, hml, hown, hts⟩ (c_X4_isKind l dC dI cI cZ cJ b 0 nk pa nc fo th tg nt tb te tk tt ex tc es wy ab re go be z (by omega)) (cwV 1 hts gX4_addEntry_X4_isKind rfl rfl rfl (by decide +kernel) ⟨Nat.le_of_ble_eq_true rfl, Nat.le_of_ble_eq_true rfl⟩) ⟨zPre_blind, va_recv hK hP (ci := 4) (q0 := 0) rfl rfl, zPre_at hP hK hn⟩ rfl rfl hl.1 rfl (lv_room (Nat.le_of_ble_eq_true rfl)) dX4_addEntry_7 ⟨Nat.le_of_ble_eq_true rfl, Nat.le_of_ble_eq_true rfl⟩) hS (fun _ _ h => h.elim) (fun _ h => h.elim) (fun r_1 u_9 t H locs ht hvm hw hB hz1 hk1 hS => ?_)
  have hP := zkeep hP hk1
  subst hw
  refine lv_if_ne (tgt := 19) hx hb dX4_addEntry_10 (by decide) (fun c_2 => ?_) (fun c_2 => ?_)
  · skip
    have c3 := zb_1.mp c_2
    refine lv_iload_n hx hb dX4_addEntry_19 rfl (lv_at hl 1 rfl) ?_
    refine lv_if_lt (tgt := 42) hx hb dX4_addEntry_20 (by decide) (fun c_3 => ?_) (fun c_3 => ?_)
    · skip
      have c9 : eOK x y w = false := by simp [eOK, c_3]
      refine lv_aload_n hx hb dX4_addEntry_42 rfl (lv_at hl 0 rfl) ?_
      refine lv_iconst (v := 2) hx hb dX4_addEntry_43 (by decide) ?_
      have hDc := hD
      have hFc := va_free (wc := w4 b cI cZ 0 nk pa nc fo th tg nt tb te tk tt ex tc es wy ab re go be) hD hS hA [0, 1, 2, 3, 4, 5, 6, 7, 8, 9, 10, 11, 12] rfl
      refine va_calli (va_runV (As := [.int 2]) (rest := []) ⟨hx, hb, hml, hown, hts⟩ (c_X4_no l dC dI cI cZ cJ b 0 nk pa nc fo th tg nt tb te tk tt ex tc es wy ab re go be 2 H.size ) (cwV 1 hts gX4_addEntry_X4_no rfl rfl rfl (by decide +kernel) ⟨Nat.le_of_ble_eq_true rfl, Nat.le_of_ble_eq_true rfl⟩) ⟨zWr_blind, va_recv hK hP (ci := 4) (q0 := 0) rfl rfl, zWr_at hP hK hn (hDc.weaken (fun _ _ _ _ => trivial))⟩ rfl rfl hl.1 rfl (lv_room (Nat.le_of_ble_eq_true rfl)) dX4_addEntry_44 ⟨Nat.le_of_ble_eq_true rfl, Nat.le_of_ble_eq_true rfl⟩) hS (fun q _ h => hFc q h) hFc (fun r_4 u_9 t H1 locs ht hvm hw hB hz1 hk1 hS => ?_)
      obtain ⟨hP1, -, hD1⟩ := hB
      rw [ht] at hP1
      obtain ⟨hP, hD⟩ := va_join (wr := []) (w1 := w4 b cI cZ 2 nk pa nc fo th tg nt tb te tk tt ex tc es wy ab re go be) hP hD [0, 1, 2, 3, 4, 5, 6, 7, 8, 9, 10, 11, 12] [] rfl rfl (by decide) (by decide) hk1 hFc hP1 hD1
      generalize H1 = H at hP hS ⊢
      have hP : va_P (dC, dI) vwCl (w4 b cI cZ 2 nk pa nc fo th tg nt tb te tk tt ex tc es wy ab re go be) H := hP
      have hD : va_D A (w4 b cI cZ 2 nk pa nc fo th tg nt tb te tk tt ex tc es wy ab re go be) := hD
      subst hw
      rw [← hQ]
      have hP9 := hP
      have hD9 := hD
      exact W.iret (v := 0) hx hb hr (fun t ht hW => ⟨⟨0, (2, nt, tb, te, tk, tt), rfl, (Or.inl ⟨rfl, rfl, rfl, rfl, rfl, Or.inr (Or.inl ⟨c3, c9, rfl⟩)⟩), (by rw [ht]; exact hP9), va_K.moved hW.alike hK, hD9⟩, hS.F ht⟩) hS.2.2 dX4_addEntry_47
    · skip
      have c6 := c_3
      refine lv_iload_n hx hb dX4_addEntry_23 rfl (lv_at hl 2 rfl) ?_
      refine lv_bipush (v := 48) hx hb dX4_addEntry_24 (by decide) ?_
      refine lv_icmp_gt (tgt := 42) hx hb dX4_addEntry_26 (by decide) (fun c_5 => ?_) (fun c_5 => ?_)
      · skip
        have c9 : eOK x y w = false := by simp [eOK, c_5]
        refine lv_aload_n hx hb dX4_addEntry_42 rfl (lv_at hl 0 rfl) ?_
        refine lv_iconst (v := 2) hx hb dX4_addEntry_43 (by decide) ?_
        have hDc := hD
        have hFc := va_free (wc := w4 b cI cZ 0 nk pa nc fo th tg nt tb te tk tt ex tc es wy ab re go be) hD hS hA [0, 1, 2, 3, 4, 5, 6, 7, 8, 9, 10, 11, 12] rfl
        refine va_calli (va_runV (As := [.int 2]) (rest := []) ⟨hx, hb, hml, hown, hts⟩ (c_X4_no l dC dI cI cZ cJ b 0 nk pa nc fo th tg nt tb te tk tt ex tc es wy ab re go be 2 H.size ) (cwV 1 hts gX4_addEntry_X4_no rfl rfl rfl (by decide +kernel) ⟨Nat.le_of_ble_eq_true rfl, Nat.le_of_ble_eq_true rfl⟩) ⟨zWr_blind, va_recv hK hP (ci := 4) (q0 := 0) rfl rfl, zWr_at hP hK hn (hDc.weaken (fun _ _ _ _ => trivial))⟩ rfl rfl hl.1 rfl (lv_room (Nat.le_of_ble_eq_true rfl)) dX4_addEntry_44 ⟨Nat.le_of_ble_eq_true rfl, Nat.le_of_ble_eq_true rfl⟩) hS (fun q _ h => hFc q h) hFc (fun r_6 u_9 t H1 locs ht hvm hw hB hz1 hk1 hS => ?_)
        obtain ⟨hP1, -, hD1⟩ := hB
        rw [ht] at hP1
        obtain ⟨hP, hD⟩ := va_join (wr := []) (w1 := w4 b cI cZ 2 nk pa nc fo th tg nt tb te tk tt ex tc es wy ab re go be) hP hD [0, 1, 2, 3, 4, 5, 6, 7, 8, 9, 10, 11, 12] [] rfl rfl (by decide) (by decide) hk1 hFc hP1 hD1
        generalize H1 = H at hP hS ⊢
        have hP : va_P (dC, dI) vwCl (w4 b cI cZ 2 nk pa nc fo th tg nt tb te tk tt ex tc es wy ab re go be) H := hP
        have hD : va_D A (w4 b cI cZ 2 nk pa nc fo th tg nt tb te tk tt ex tc es wy ab re go be) := hD
        subst hw
        rw [← hQ]
        have hP9 := hP
        have hD9 := hD
        exact W.iret (v := 0) hx hb hr (fun t ht hW => ⟨⟨0, (2, nt, tb, te, tk, tt), rfl, (Or.inl ⟨rfl, rfl, rfl, rfl, rfl, Or.inr (Or.inl ⟨c3, c9, rfl⟩)⟩), (by rw [ht]; exact hP9), va_K.moved hW.alike hK, hD9⟩, hS.F ht⟩) hS.2.2 dX4_addEntry_47
      · skip
        have c7 := c_5
        refine lv_iload_n hx hb dX4_addEntry_29 rfl (lv_at hl 1 rfl) ?_
        refine lv_iload_n hx hb dX4_addEntry_30 rfl (lv_at hl 2 rfl) ?_
        refine lv_icmp_ge (tgt := 42) hx hb dX4_addEntry_31 (by decide) (fun c_7 => ?_) (fun c_7 => ?_)
        · skip
          have c9 : eOK x y w = false := by simp [eOK, Int32.not_lt.mpr c_7]
          refine lv_aload_n hx hb dX4_addEntry_42 rfl (lv_at hl 0 rfl) ?_
          refine lv_iconst (v := 2) hx hb dX4_addEntry_43 (by decide) ?_
          have hDc := hD
          have hFc := va_free (wc := w4 b cI cZ 0 nk pa nc fo th tg nt tb te tk tt ex tc es wy ab re go be) hD hS hA [0, 1, 2, 3, 4, 5, 6, 7, 8, 9, 10, 11, 12] rfl
          refine va_calli (va_runV (As := [.int 2]) (rest := []) ⟨hx, hb, hml, hown, hts⟩ (c_X4_no l dC dI cI cZ cJ b 0 nk pa nc fo th tg nt tb te tk tt ex tc es wy ab re go be 2 H.size ) (cwV 1 hts gX4_addEntry_X4_no rfl rfl rfl (by decide +kernel) ⟨Nat.le_of_ble_eq_true rfl, Nat.le_of_ble_eq_true rfl⟩) ⟨zWr_blind, va_recv hK hP (ci := 4) (q0 := 0) rfl rfl, zWr_at hP hK hn (hDc.weaken (fun _ _ _ _ => trivial))⟩ rfl rfl hl.1 rfl (lv_room (Nat.le_of_ble_eq_true rfl)) dX4_addEntry_44 ⟨Nat.le_of_ble_eq_true rfl, Nat.le_of_ble_eq_true rfl⟩) hS (fun q _ h => hFc q h) hFc (fun r_8 u_9 t H1 locs ht hvm hw hB hz1 hk1 hS => ?_)
          obtain ⟨hP1, -, hD1⟩ := hB
          rw [ht] at hP1
          obtain ⟨hP, hD⟩ := va_join (wr := []) (w1 := w4 b cI cZ 2 nk pa nc fo th tg nt tb te tk tt ex tc es wy ab re go be) hP hD [0, 1, 2, 3, 4, 5, 6, 7, 8, 9, 10, 11, 12] [] rfl rfl (by decide) (by decide) hk1 hFc hP1 hD1
          generalize H1 = H at hP hS ⊢
          have hP : va_P (dC, dI) vwCl (w4 b cI cZ 2 nk pa nc fo th tg nt tb te tk tt ex tc es wy ab re go be) H := hP
          have hD : va_D A (w4 b cI cZ 2 nk pa nc fo th tg nt tb te tk tt ex tc es wy ab re go be) := hD
          subst hw
          rw [← hQ]
          have hP9 := hP
          have hD9 := hD
          exact W.iret (v := 0) hx hb hr (fun t ht hW => ⟨⟨0, (2, nt, tb, te, tk, tt), rfl, (Or.inl ⟨rfl, rfl, rfl, rfl, rfl, Or.inr (Or.inl ⟨c3, c9, rfl⟩)⟩), (by rw [ht]; exact hP9), va_K.moved hW.alike hK, hD9⟩, hS.F ht⟩) hS.2.2 dX4_addEntry_47
        · skip
          have c8 : x < y := Int32.not_le.mp c_7
          refine lv_iload hx hb dX4_addEntry_34 (lv_at hl 4 rfl) ?_
          have hPc : va_P (dC, dI) vwCl [] H := fun k q h => by simp at h
          refine va_calli (va_runS (As := [.int w]) (rest := []) ⟨hx, hb, hml, hown, hts⟩ (c_X4_isTarget l dC dI cI cZ cJ w ) (va_cwS 1 hts gX4_addEntry_X4_isTarget rfl rfl rfl (by decide +kernel) ⟨Nat.le_of_ble_eq_true rfl, Nat.le_of_ble_eq_true rfl⟩) ⟨zPre_blind, zPre_at hPc hK hn⟩ rfl rfl hl.1 rfl (lv_room (Nat.le_of_ble_eq_true rfl)) dX4_addEntry_36 ⟨Nat.le_of_ble_eq_true rfl, Nat.le_of_ble_eq_true rfl⟩) hS (fun _ _ h => h.elim) (fun _ h => h.elim) (fun r_9 u_9 t H locs ht hvm hw hB hz1 hk1 hS => ?_)
          have hP := zkeep hP hk1
          subst hw
          refine lv_if_ne (tgt := 48) hx hb dX4_addEntry_39 (by decide) (fun c_10 => ?_) (fun c_10 => ?_)
          · skip
            have c4 := zb_1.mp c_10
            have c9 : eOK x y w = true := by simp [eOK, c6, c7, c8, c4]
            refine lv_aload_n hx hb dX4_addEntry_48 rfl (lv_at hl 0 rfl) ?_
            refine va_get (D := (dC, dI)) (ci := 4) (v := .int (nI nt)) (C := RX4) (T := TX4) (N := 20) hx hb hts (by decide +kernel) hown hK hP 0 rfl rfl 7 (by decide) (hts (.fieldLink RX4 64 "HandlerOptimizerModel" "entries" "I") (by decide +kernel)) (fun _ h9 => h9) rfl dX4_addEntry_49 ?_
            refine lv_bipush (v := 24) hx hb dX4_addEntry_52 (by decide) ?_
            refine lv_icmp_ne (tgt := 63) hx hb dX4_addEntry_54 (by decide) (fun c_11 => ?_) (fun c_11 => ?_)
            · skip
              have c5 := (zz_net (a := nt) (b := 24) (by omega) (by omega)).mp c_11
              refine lv_aload_n hx hb dX4_addEntry_63 rfl (lv_at hl 0 rfl) ?_
              refine lv_aload_n hx hb dX4_addEntry_64 rfl (lv_at hl 0 rfl) ?_
              refine va_get (D := (dC, dI)) (ci := 4) (v := .int (nI nt)) (C := RX4) (T := TX4) (N := 20) hx hb hts (by decide +kernel) hown hK hP 0 rfl rfl 7 (by decide) (hts (.fieldLink RX4 64 "HandlerOptimizerModel" "entries" "I") (by decide +kernel)) (fun _ h9 => h9) rfl dX4_addEntry_65 ?_
              refine lv_iload_n hx hb dX4_addEntry_68 rfl (lv_at hl 1 rfl) ?_
              refine lv_iload_n hx hb dX4_addEntry_69 rfl (lv_at hl 2 rfl) ?_
              refine lv_iload_n hx hb dX4_addEntry_70 rfl (lv_at hl 3 rfl) ?_
              refine lv_iload hx hb dX4_addEntry_71 (lv_at hl 4 rfl) ?_
              have hDc := hD
              have hFc := va_free (wc := w4 b cI cZ 0 nk pa nc fo th tg nt tb te tk tt ex tc es wy ab re go be) hD hS hA [0, 1, 2, 3, 4, 5, 6, 7, 8, 9, 10, 11, 12] rfl
              refine va_callv (va_runV (As := [.int (nI nt), .int x, .int y, .int z, .int w]) (rest := []) ⟨hx, hb, hml, hown, hts⟩ (c_X4_put l dC dI cI cZ cJ b 0 nk pa nc fo th tg nt tb te tk tt ex tc es wy ab re go be nt x y z w H.size (by omega)) (cwV 5 hts gX4_addEntry_X4_put rfl rfl rfl (by decide +kernel) ⟨Nat.le_of_ble_eq_true rfl, Nat.le_of_ble_eq_true rfl⟩) ⟨zWr_blind, va_recv hK hP (ci := 4) (q0 := 0) rfl rfl, zWr_at hP hK hn (hDc.weaken (fun _ _ _ _ => trivial))⟩ rfl rfl hl.1 rfl (lv_room (Nat.le_of_ble_eq_true rfl)) dX4_addEntry_73 ⟨Nat.le_of_ble_eq_true rfl, Nat.le_of_ble_eq_true rfl⟩) hS (fun q _ h => hFc q h) hFc (fun u_9 t H1 locs ht hvm hw hB hz1 hk1 hS => ?_)
              obtain ⟨hP1, -, hD1⟩ := hB
              rw [ht] at hP1
              obtain ⟨hP, hD⟩ := va_join (wr := []) (w1 := w4 b cI cZ 0 nk pa nc fo th tg nt (upd tb nt x) (upd te nt y) (upd tk nt z) (upd tt nt w) ex tc es wy ab re go be) hP hD [0, 1, 2, 3, 4, 5, 6, 7, 8, 9, 10, 11, 12] [] rfl rfl (by decide) (by decide) hk1 hFc hP1 hD1
              generalize H1 = H at hP hS ⊢
              have hP : va_P (dC, dI) vwCl (w4 b cI cZ 0 nk pa nc fo th tg nt (upd tb nt x) (upd te nt y) (upd tk nt z) (upd tt nt w) ex tc es wy ab re go be) H := hP
              have hD : va_D A (w4 b cI cZ 0 nk pa nc fo th tg nt (upd tb nt x) (upd te nt y) (upd tk nt z) (upd tt nt w) ex tc es wy ab re go be) := hD
              refine lv_aload_n hx hb dX4_addEntry_76 rfl (lv_at hl 0 rfl) ?_
              refine lv_dup hx hb dX4_addEntry_77 rfl ?_
              refine va_get (D := (dC, dI)) (ci := 4) (v := .int (nI nt)) (C := RX4) (T := TX4) (N := 20) hx hb hts (by decide +kernel) hown hK hP 0 rfl rfl 7 (by decide) (hts (.fieldLink RX4 64 "HandlerOptimizerModel" "entries" "I") (by decide +kernel)) (fun _ h9 => h9) rfl dX4_addEntry_78 ?_
              refine lv_iconst (v := 1) hx hb dX4_addEntry_81 (by decide) ?_
              refine lv_iadd hx hb dX4_addEntry_82 ?_
              refine zz_top (y := nI (nt + 1)) (nI_add _ _) ?_
              refine va_put (D := (dC, dI)) (ci := 4) (v := .int (nI (nt + 1))) (ty := .int) (C := RX4) (T := TX4) (N := 20) hx hb hts (by decide +kernel) tyX4 tyX4_ok nmX4 hown hK hP hD hS 0 rfl rfl 7 (by decide) (hts (.fieldLink RX4 64 "HandlerOptimizerModel" "entries" "I") (by decide +kernel)) (fun _ h9 => h9) rfl (by decide +kernel) rfl rfl (Nat.le_of_ble_eq_true rfl) dX4_addEntry_83 (fun H locs hP hD hS => ?_)
              have hP : va_P (dC, dI) vwCl (w4 b cI cZ 0 nk pa nc fo th tg (nt + 1) (upd tb nt x) (upd te nt y) (upd tk nt z) (upd tt nt w) ex tc es wy ab re go be) H := hP
              have hD : va_D A (w4 b cI cZ 0 nk pa nc fo th tg (nt + 1) (upd tb nt x) (upd te nt y) (upd tk nt z) (upd tt nt w) ex tc es wy ab re go be) := hD
              refine lv_aload_n hx hb dX4_addEntry_86 rfl (lv_at hl 0 rfl) ?_
              refine va_get (D := (dC, dI)) (ci := 4) (v := .int (nI (nt + 1))) (C := RX4) (T := TX4) (N := 20) hx hb hts (by decide +kernel) hown hK hP 0 rfl rfl 7 (by decide) (hts (.fieldLink RX4 64 "HandlerOptimizerModel" "entries" "I") (by decide +kernel)) (fun _ h9 => h9) rfl dX4_addEntry_87 ?_
              refine lv_iconst (v := 1) hx hb dX4_addEntry_90 (by decide) ?_
              refine lv_isub hx hb dX4_addEntry_91 ?_
              refine zz_top (y := nI nt) (nI_pred _) ?_
              rw [← hQ]
              have hP9 := hP
              have hD9 := hD
              exact W.iret (v := nI nt) hx hb hr (fun t ht hW => ⟨⟨nI nt, (0, nt + 1, upd tb nt x, upd te nt y, upd tk nt z, upd tt nt w), rfl, (by
                      obtain ⟨b9, hb9, rfl⟩ := nI_of c6
                      obtain ⟨d9, hd9, rfl⟩ := nI_of (x := y) (fun q => c6 (by simp only [Int32.lt_iff_toInt_lt] at c8 q ⊢; omega))
                      obtain ⟨k9, hk9, rfl⟩ := hasI_at (by omega) c3
                      obtain ⟨g9, hg9, rfl⟩ := hasI_at (by omega) c4
                      have c8n := (nI_ltI hb9 hd9).mp c8
                      have c7n : ¬ 48 < d9 := fun q => c7 ((nI_ltI (a := 48) (by omega) hd9).mpr q)
                      rw [nI_clamp hb9, nI_clamp hd9, nI_clamp (by omega), nI_clamp (by omega)]
                      exact Or.inr ⟨c3, c9, by omega, rfl, rfl, rfl, hk01, hk8, by omega, rT_add hT, okT_add hO (by omega) (by omega) (by omega) (by omega), hF, hU⟩), (by rw [ht]; exact hP9), va_K.moved hW.alike hK, hD9⟩, hS.F ht⟩) hS.2.2 dX4_addEntry_92
            · skip
              have c5 := (zz_nef (a := nt) (b := 24) (by omega) (by omega)).mp c_11
              refine lv_aload_n hx hb dX4_addEntry_57 rfl (lv_at hl 0 rfl) ?_
              refine lv_iconst (v := 3) hx hb dX4_addEntry_58 (by decide) ?_
              have hDc := hD
              have hFc := va_free (wc := w4 b cI cZ 0 nk pa nc fo th tg nt tb te tk tt ex tc es wy ab re go be) hD hS hA [0, 1, 2, 3, 4, 5, 6, 7, 8, 9, 10, 11, 12] rfl
              refine va_calli (va_runV (As := [.int 3]) (rest := []) ⟨hx, hb, hml, hown, hts⟩ (c_X4_no l dC dI cI cZ cJ b 0 nk pa nc fo th tg nt tb te tk tt ex tc es wy ab re go be 3 H.size ) (cwV 1 hts gX4_addEntry_X4_no rfl rfl rfl (by decide +kernel) ⟨Nat.le_of_ble_eq_true rfl, Nat.le_of_ble_eq_true rfl⟩) ⟨zWr_blind, va_recv hK hP (ci := 4) (q0 := 0) rfl rfl, zWr_at hP hK hn (hDc.weaken (fun _ _ _ _ => trivial))⟩ rfl rfl hl.1 rfl (lv_room (Nat.le_of_ble_eq_true rfl)) dX4_addEntry_59 ⟨Nat.le_of_ble_eq_true rfl, Nat.le_of_ble_eq_true rfl⟩) hS (fun q _ h => hFc q h) hFc (fun r_13 u_9 t H1 locs ht hvm hw hB hz1 hk1 hS => ?_)
              obtain ⟨hP1, -, hD1⟩ := hB
              rw [ht] at hP1
              obtain ⟨hP, hD⟩ := va_join (wr := []) (w1 := w4 b cI cZ 3 nk pa nc fo th tg nt tb te tk tt ex tc es wy ab re go be) hP hD [0, 1, 2, 3, 4, 5, 6, 7, 8, 9, 10, 11, 12] [] rfl rfl (by decide) (by decide) hk1 hFc hP1 hD1
              generalize H1 = H at hP hS ⊢
              have hP : va_P (dC, dI) vwCl (w4 b cI cZ 3 nk pa nc fo th tg nt tb te tk tt ex tc es wy ab re go be) H := hP
              have hD : va_D A (w4 b cI cZ 3 nk pa nc fo th tg nt tb te tk tt ex tc es wy ab re go be) := hD
              subst hw
              rw [← hQ]
              have hP9 := hP
              have hD9 := hD
              exact W.iret (v := 0) hx hb hr (fun t ht hW => ⟨⟨0, (3, nt, tb, te, tk, tt), rfl, (Or.inl ⟨rfl, rfl, rfl, rfl, rfl, Or.inr (Or.inr ⟨c3, c9, c5, rfl⟩)⟩), (by rw [ht]; exact hP9), va_K.moved hW.alike hK, hD9⟩, hS.F ht⟩) hS.2.2 dX4_addEntry_62
          · skip
            have c9 : eOK x y w = false := by simp [eOK, zb_0.mp c_10]
            refine lv_aload_n hx hb dX4_addEntry_42 rfl (lv_at hl 0 rfl) ?_
            refine lv_iconst (v := 2) hx hb dX4_addEntry_43 (by decide) ?_
            have hDc := hD
            have hFc := va_free (wc := w4 b cI cZ 0 nk pa nc fo th tg nt tb te tk tt ex tc es wy ab re go be) hD hS hA [0, 1, 2, 3, 4, 5, 6, 7, 8, 9, 10, 11, 12] rfl
            refine va_calli (va_runV (As := [.int 2]) (rest := []) ⟨hx, hb, hml, hown, hts⟩ (c_X4_no l dC dI cI cZ cJ b 0 nk pa nc fo th tg nt tb te tk tt ex tc es wy ab re go be 2 H.size ) (cwV 1 hts gX4_addEntry_X4_no rfl rfl rfl (by decide +kernel) ⟨Nat.le_of_ble_eq_true rfl, Nat.le_of_ble_eq_true rfl⟩) ⟨zWr_blind, va_recv hK hP (ci := 4) (q0 := 0) rfl rfl, zWr_at hP hK hn (hDc.weaken (fun _ _ _ _ => trivial))⟩ rfl rfl hl.1 rfl (lv_room (Nat.le_of_ble_eq_true rfl)) dX4_addEntry_44 ⟨Nat.le_of_ble_eq_true rfl, Nat.le_of_ble_eq_true rfl⟩) hS (fun q _ h => hFc q h) hFc (fun r_14 u_9 t H1 locs ht hvm hw hB hz1 hk1 hS => ?_)
            obtain ⟨hP1, -, hD1⟩ := hB
            rw [ht] at hP1
            obtain ⟨hP, hD⟩ := va_join (wr := []) (w1 := w4 b cI cZ 2 nk pa nc fo th tg nt tb te tk tt ex tc es wy ab re go be) hP hD [0, 1, 2, 3, 4, 5, 6, 7, 8, 9, 10, 11, 12] [] rfl rfl (by decide) (by decide) hk1 hFc hP1 hD1
            generalize H1 = H at hP hS ⊢
            have hP : va_P (dC, dI) vwCl (w4 b cI cZ 2 nk pa nc fo th tg nt tb te tk tt ex tc es wy ab re go be) H := hP
            have hD : va_D A (w4 b cI cZ 2 nk pa nc fo th tg nt tb te tk tt ex tc es wy ab re go be) := hD
            subst hw
            rw [← hQ]
            have hP9 := hP
            have hD9 := hD
            exact W.iret (v := 0) hx hb hr (fun t ht hW => ⟨⟨0, (2, nt, tb, te, tk, tt), rfl, (Or.inl ⟨rfl, rfl, rfl, rfl, rfl, Or.inr (Or.inl ⟨c3, c9, rfl⟩)⟩), (by rw [ht]; exact hP9), va_K.moved hW.alike hK, hD9⟩, hS.F ht⟩) hS.2.2 dX4_addEntry_47
  · skip
    have c3 := zb_0.mp c_2
    refine lv_aload_n hx hb dX4_addEntry_13 rfl (lv_at hl 0 rfl) ?_
    refine lv_iconst (v := 1) hx hb dX4_addEntry_14 (by decide) ?_
    have hDc := hD
    have hFc := va_free (wc := w4 b cI cZ 0 nk pa nc fo th tg nt tb te tk tt ex tc es wy ab re go be) hD hS hA [0, 1, 2, 3, 4, 5, 6, 7, 8, 9, 10, 11, 12] rfl
    refine va_calli (va_runV (As := [.int 1]) (rest := []) ⟨hx, hb, hml, hown, hts⟩ (c_X4_no l dC dI cI cZ cJ b 0 nk pa nc fo th tg nt tb te tk tt ex tc es wy ab re go be 1 H.size ) (cwV 1 hts gX4_addEntry_X4_no rfl rfl rfl (by decide +kernel) ⟨Nat.le_of_ble_eq_true rfl, Nat.le_of_ble_eq_true rfl⟩) ⟨zWr_blind, va_recv hK hP (ci := 4) (q0 := 0) rfl rfl, zWr_at hP hK hn (hDc.weaken (fun _ _ _ _ => trivial))⟩ rfl rfl hl.1 rfl (lv_room (Nat.le_of_ble_eq_true rfl)) dX4_addEntry_15 ⟨Nat.le_of_ble_eq_true rfl, Nat.le_of_ble_eq_true rfl⟩) hS (fun q _ h => hFc q h) hFc (fun r_15 u_9 t H1 locs ht hvm hw hB hz1 hk1 hS => ?_)
    obtain ⟨hP1, -, hD1⟩ := hB
    rw [ht] at hP1
    obtain ⟨hP, hD⟩ := va_join (wr := []) (w1 := w4 b cI cZ 1 nk pa nc fo th tg nt tb te tk tt ex tc es wy ab re go be) hP hD [0, 1, 2, 3, 4, 5, 6, 7, 8, 9, 10, 11, 12] [] rfl rfl (by decide) (by decide) hk1 hFc hP1 hD1
    generalize H1 = H at hP hS ⊢
    have hP : va_P (dC, dI) vwCl (w4 b cI cZ 1 nk pa nc fo th tg nt tb te tk tt ex tc es wy ab re go be) H := hP
    have hD : va_D A (w4 b cI cZ 1 nk pa nc fo th tg nt tb te tk tt ex tc es wy ab re go be) := hD
    subst hw
    rw [← hQ]
    have hP9 := hP
    have hD9 := hD
    exact W.iret (v := 0) hx hb hr (fun t ht hW => ⟨⟨0, (1, nt, tb, te, tk, tt), rfl, (Or.inl ⟨rfl, rfl, rfl, rfl, rfl, Or.inl ⟨c3, rfl⟩⟩), (by rw [ht]; exact hP9), va_K.moved hW.alike hK, hD9⟩, hS.F ht⟩) hS.2.2 dX4_addEntry_18

set_option maxHeartbeats 4000000 in
set_option maxRecDepth 100000 in
theorem c_X4_takerOf (l : Launch) (dC : Nat → ClassId) (dI : Nat → Nat → Nat) (cI cZ cJ : ClassId) (b : Nat → Nat) (tw : Int32) (nk : Nat) (pa : Nat → Int32) (nc : Nat) (fo : Nat → Int32) (th : Nat → Int32) (tg : Nat → Int32) (nt : Nat) (tb : Nat → Int32) (te : Nat → Int32) (tk : Nat → Int32) (tt : Nat → Int32) (ex : Int32) (tc : Int32) (es : Int32) (wy : Int64) (ab : Nat → Int32) (re : Nat → Int32) (go : Nat → Int32) (be : Nat → Int32) (i : Nat) (k : Nat) (T : Nat → Nat → Nat) (up : Nat → Nat → Bool) (hg : g4 nk ab up nt tb te tk tt T) (hc : okC nk nc fo th tg) (hi : i < 48) (hk : k < nk) : Met l yX4_takerOf wsX4_takerOf ({ frames := 1, cells := 0, slots := 0, locals := 21 } : Room) (va_Pc [.ref (b 0), .int (nI i), .int (nI k)] (zPre (dC, dI) [(cI, .int), (cZ, .boolean), (cJ, .long)] (w4 b cI cZ tw nk pa nc fo th tg nt tb te tk tt ex tc es wy ab re go be))) (va_Qi (fun (r : Int32) (_ : Unit) => r = tkI T nt up i k) (fun _ _ => True) (fun _ => False)) 0 0 (fun _ => False) := by
  refine Met.ofW (cc := cX4_takerOf) (maxL := 4) (ret := (some .int)) (by decide) rfl ?_
  intro p e s m args below meth c s₁ B hml hv
  obtain ⟨hav, hP, hK, hn⟩ := hv
  have hx := B.exec
  have hb := B.bytes
  have hr := B.returns
  have hts := atoms_spec (ws := wsX4_takerOf) B.pre
  have hown : s.vm.findClass RX4 = some m.cls := findClass_of_methodNamed B.named
  have hlocks := B.notSynchronized
  have hS : va_S (fun _ => False) s.heap s.heap [] := va_S.rf
  generalize hQ : MQ below (va_Qi (fun (r : Int32) (_ : Unit) => r = tkI T nt up i k) (fun _ _ => True) (fun _ => False)) args s 0 0 (fun _ => False) = Q
  refine W.eq (g2 := entryFrame m ([.ref (b 0), .int (nI i), .int (nI k)] : List Value).toArray 4) (by rw [hav]) ?_
  have hl := lv_entry ([.ref (b 0), .int (nI i), .int (nI k)]) (n := 4) (Nat.le_of_ble_eq_true rfl)
  rw [lg_entry_eq]
  generalize (lg_sl ([.ref (b 0), .int (nI i), .int (nI k)]) ++ List.replicate (4 - (lg_sl ([.ref (b 0), .int (nI i), .int (nI k)])).length) Slot.unset).toArray = ls at hl ⊢
  have hl : lv_has ls 4 [(0, .ref (b 0)), (1, .int (nI i)), (2, .int (nI k))] := hl
  obtain ⟨H, hH⟩ : ∃ H, H = s.heap := ⟨_, rfl⟩
  obtain ⟨locs, hlo⟩ : ∃ q : List Loc, q = [] := ⟨_, rfl⟩
  have hP : va_P (dC, dI) vwCl (w4 b cI cZ tw nk pa nc fo th tg nt tb te tk tt ex tc es wy ab re go be) H := by rw [hH]; exact hP
  have hS : va_S (fun _ => False) s.heap H locs := by rw [hH, hlo]; exact hS
  refine zz_hl hH hlo ?_
  obtain ⟨hk01, hk8, hnt, hT, hO, hF, hU⟩ := id hg
  obtain ⟨hnc, hC⟩ := id hc
  refine lv_iconst (v := 0) hx hb dX4_takerOf_0 (by decide) ?_
  refine lv_istore_n (lv' := [(3, .int 0), (0, .ref (b 0)), (1, .int (nI i)), (2, .int (nI k))]) hx hb dX4_takerOf_1 rfl hl (by decide) rfl (fun ls hl => ?_)
  have J_2 : ∀ (n9 : Nat) (ei : Nat) (H : Heap) (locs : List Loc) (ls : Array Slot), (ei ≤ nt) → (∀ j, j < ei → tp T up i k j = false) → nt - ei < n9 → va_P (dC, dI) vwCl (w4 b cI cZ tw nk pa nc fo th tg nt tb te tk tt ex tc es wy ab re go be) H → va_S (fun _ => False) s.heap H locs → lv_has ls 4 [(0, .ref (b 0)), (1, .int (nI i)), (2, .int (nI k)), (3, .int (nI ei))] → W p l e (headSpec wsX4_takerOf ({ frames := 1, cells := 0, slots := 0, locals := 21 } : Room)).room s m args below meth c H locs 0 0 Q (F0 m 2 ls []) := by
    intro n9
    induction n9 with
    | zero => intro ei H locs ls he hlt hmu; exact absurd hmu (Nat.not_lt_zero _)
    | succ n9 ih_2 =>
      intro ei H locs ls he hlt hmu hP hS hl
      refine lv_iload_n hx hb dX4_takerOf_2 rfl (lv_at hl 3 rfl) ?_
      refine lv_aload_n hx hb dX4_takerOf_3 rfl (lv_at hl 0 rfl) ?_
      refine va_get (D := (dC, dI)) (ci := 4) (v := .int (nI nt)) (C := RX4) (T := TX4) (N := 20) hx hb hts (by decide +kernel) hown hK hP 0 rfl rfl 7 (by decide) (hts (.fieldLink RX4 64 "HandlerOptimizerModel" "entries" "I") (by decide +kernel)) (fun _ h9 => h9) rfl dX4_takerOf_4 ?_
      refine lv_icmp_ge (tgt := 56) hx hb dX4_takerOf_7 (by decide) (fun c_1 => ?_) (fun c_1 => ?_)
      · skip
        have c_1 := (zz_get (a := ei) (b := nt) (by omega) (by omega)).mp c_1
        refine lv_iconst (v := -1) hx hb dX4_takerOf_56 (by decide) ?_
        rw [← hQ]
        exact W.iret (v := (-1)) hx hb hr (fun t ht hW => ⟨⟨(-1), (), rfl, (tkI_none (fun j hj => hlt j (by omega))), trivial⟩, hS.F ht⟩) hS.2.2 dX4_takerOf_57
      · skip
        have c_1 := (zz_gef (a := ei) (b := nt) (by omega) (by omega)).mp c_1
        obtain ⟨o1, o2, o3, o4⟩ := hO ei (by omega)
        refine lv_aload_n hx hb dX4_takerOf_10 rfl (lv_at hl 0 rfl) ?_
        refine va_get (D := (dC, dI)) (ci := 4) (v := .ref (b 5)) (C := RX4) (T := TX4) (N := 20) hx hb hts (by decide +kernel) hown hK hP 0 rfl rfl 8 (by decide) (hts (.fieldLink RX4 26 "HandlerOptimizerModel" "froms" "[I") (by decide +kernel)) (fun _ h9 => h9) rfl dX4_takerOf_11 ?_
        refine lv_iload_n hx hb dX4_takerOf_14 rfl (lv_at hl 3 rfl) ?_
        refine va_iald hx hb hK hP 5 0 rfl rfl (vp_in_nI (n := ei) (by omega) (by decide)) dX4_takerOf_15 ?_
        refine zz_top (y := tb ei) (congrArg _ (nI_clamp (by omega))) ?_
        refine zz_top (y := nI (T 0 ei)) ((hT ei (by omega)).1) ?_
        refine lv_iload_n hx hb dX4_takerOf_16 rfl (lv_at hl 1 rfl) ?_
        refine lv_icmp_gt (tgt := 50) hx hb dX4_takerOf_17 (by decide) (fun c_2 => ?_) (fun c_2 => ?_)
        · skip
          have c_2 := (zz_gtt (a := T 0 ei) (b := i) (by omega) (by omega)).mp c_2
          refine lv_iinc (v := nI (ei + 1)) (lv' := [(3, .int (nI (ei + 1))), (0, .ref (b 0)), (1, .int (nI i)), (2, .int (nI k))]) hx hb dX4_takerOf_50 hl (k := 3) rfl (zz_inc ei 1) (by decide) rfl (fun ls hl => ?_)
          refine lv_goto (tgt := 2) hx hb dX4_takerOf_53 (by decide) ?_
          exact ih_2 (ei + 1) _ _ _ (by first | assumption | omega) (by refine lt_s hlt ?_; first | exact tp_0 (by omega) | exact tp_1 (by omega) | exact tp_2 c9) (by omega) hP hS (lv_sub hl [1, 2, 3, 0] rfl)
        · skip
          have c_2 := (zz_gtf (a := T 0 ei) (b := i) (by omega) (by omega)).mp c_2
          refine lv_iload_n hx hb dX4_takerOf_20 rfl (lv_at hl 1 rfl) ?_
          refine lv_aload_n hx hb dX4_takerOf_21 rfl (lv_at hl 0 rfl) ?_
          refine va_get (D := (dC, dI)) (ci := 4) (v := .ref (b 6)) (C := RX4) (T := TX4) (N := 20) hx hb hts (by decide +kernel) hown hK hP 0 rfl rfl 9 (by decide) (hts (.fieldLink RX4 29 "HandlerOptimizerModel" "tos" "[I") (by decide +kernel)) (fun _ h9 => h9) rfl dX4_takerOf_22 ?_
          refine lv_iload_n hx hb dX4_takerOf_25 rfl (lv_at hl 3 rfl) ?_
          refine va_iald hx hb hK hP 6 0 rfl rfl (vp_in_nI (n := ei) (by omega) (by decide)) dX4_takerOf_26 ?_
          refine zz_top (y := te ei) (congrArg _ (nI_clamp (by omega))) ?_
          refine zz_top (y := nI (T 1 ei)) ((hT ei (by omega)).2.1) ?_
          refine lv_icmp_ge (tgt := 50) hx hb dX4_takerOf_27 (by decide) (fun c_3 => ?_) (fun c_3 => ?_)
          · skip
            have c_3 := (zz_get (a := i) (b := T 1 ei) (by omega) (by omega)).mp c_3
            refine lv_iinc (v := nI (ei + 1)) (lv' := [(3, .int (nI (ei + 1))), (0, .ref (b 0)), (1, .int (nI i)), (2, .int (nI k))]) hx hb dX4_takerOf_50 hl (k := 3) rfl (zz_inc ei 1) (by decide) rfl (fun ls hl => ?_)
            refine lv_goto (tgt := 2) hx hb dX4_takerOf_53 (by decide) ?_
            exact ih_2 (ei + 1) _ _ _ (by first | assumption | omega) (by refine lt_s hlt ?_; first | exact tp_0 (by omega) | exact tp_1 (by omega) | exact tp_2 c9) (by omega) hP hS (lv_sub hl [1, 2, 3, 0] rfl)
          · skip
            have c_3 := (zz_gef (a := i) (b := T 1 ei) (by omega) (by omega)).mp c_3
            refine lv_aload_n hx hb dX4_takerOf_30 rfl (lv_at hl 0 rfl) ?_
            refine va_get (D := (dC, dI)) (ci := 4) (v := .ref (b 9)) (C := RX4) (T := TX4) (N := 20) hx hb hts (by decide +kernel) hown hK hP 0 rfl rfl 16 (by decide) (hts (.fieldLink RX4 41 "HandlerOptimizerModel" "aboves" "[I") (by decide +kernel)) (fun _ h9 => h9) rfl dX4_takerOf_31 ?_
            refine lv_iload_n hx hb dX4_takerOf_34 rfl (lv_at hl 2 rfl) ?_
            refine va_iald hx hb hK hP 9 0 rfl rfl (vp_in_nI (n := k) (by omega) (by decide)) dX4_takerOf_35 ?_
            refine zz_top (y := ab k) (congrArg _ (nI_clamp (by omega))) ?_
            refine lv_aload_n hx hb dX4_takerOf_36 rfl (lv_at hl 0 rfl) ?_
            refine va_get (D := (dC, dI)) (ci := 4) (v := .ref (b 7)) (C := RX4) (T := TX4) (N := 20) hx hb hts (by decide +kernel) hown hK hP 0 rfl rfl 10 (by decide) (hts (.fieldLink RX4 32 "HandlerOptimizerModel" "entryKinds" "[I") (by decide +kernel)) (fun _ h9 => h9) rfl dX4_takerOf_37 ?_
            refine lv_iload_n hx hb dX4_takerOf_40 rfl (lv_at hl 3 rfl) ?_
            refine va_iald hx hb hK hP 7 0 rfl rfl (vp_in_nI (n := ei) (by omega) (by decide)) dX4_takerOf_41 ?_
            refine zz_top (y := tk ei) (congrArg _ (nI_clamp (by omega))) ?_
            refine zz_top (y := nI (T 2 ei)) ((hT ei (by omega)).2.2.1) ?_
            have hPc : va_P (dC, dI) vwCl [] H := fun k q h => by simp at h
            refine va_calli (va_runS (As := [.int (ab k), .int (nI (T 2 ei))]) (rest := []) ⟨hx, hb, hml, hown, hts⟩ (c_X4_has l dC dI cI cZ cJ (ab k) (T 2 ei) (by omega)) (va_cwS 2 hts gX4_takerOf_X4_has rfl rfl rfl (by decide +kernel) ⟨Nat.le_of_ble_eq_true rfl, Nat.le_of_ble_eq_true rfl⟩) ⟨zPre_blind, zPre_at hPc hK hn⟩ rfl rfl hl.1 rfl (lv_room (Nat.le_of_ble_eq_true rfl)) dX4_takerOf_42 ⟨Nat.le_of_ble_eq_true rfl, Nat.le_of_ble_eq_true rfl⟩) hS (fun _ _ h => h.elim) (fun _ h => h.elim) (fun r_4 u_9 t H locs ht hvm hw hB hz1 hk1 hS => ?_)
            have hP := zkeep hP hk1
            subst hw
            refine lv_if_eq (tgt := 50) hx hb dX4_takerOf_45 (by decide) (fun c_5 => ?_) (fun c_5 => ?_)
            · skip
              have c9 := zb_0.mp c_5
              rw [hF k hk _ (by omega)] at c9
              refine lv_iinc (v := nI (ei + 1)) (lv' := [(3, .int (nI (ei + 1))), (0, .ref (b 0)), (1, .int (nI i)), (2, .int (nI k))]) hx hb dX4_takerOf_50 hl (k := 3) rfl (zz_inc ei 1) (by decide) rfl (fun ls hl => ?_)
              refine lv_goto (tgt := 2) hx hb dX4_takerOf_53 (by decide) ?_
              exact ih_2 (ei + 1) _ _ _ (by first | assumption | omega) (by refine lt_s hlt ?_; first | exact tp_0 (by omega) | exact tp_1 (by omega) | exact tp_2 c9) (by omega) hP hS (lv_sub hl [1, 2, 3, 0] rfl)
            · skip
              have c9 := zb_1.mp c_5
              rw [hF k hk _ (by omega)] at c9
              refine lv_iload_n hx hb dX4_takerOf_48 rfl (lv_at hl 3 rfl) ?_
              rw [← hQ]
              exact W.iret (v := nI ei) hx hb hr (fun t ht hW => ⟨⟨nI ei, (), rfl, (tkI_some (by omega) (tp_t (by omega) (by omega) c9) hlt), trivial⟩, hS.F ht⟩) hS.2.2 dX4_takerOf_49
  exact J_2 _ 0 _ _ _ (by first | assumption | omega) lt_0 (Nat.lt_succ_self _) hP hS (lv_sub hl [1, 2, 3, 0] rfl)

set_option maxHeartbeats 4000000 in
set_option maxRecDepth 100000 in
theorem c_X4_goal (l : Launch) (dC : Nat → ClassId) (dI : Nat → Nat → Nat) (cI cZ cJ : ClassId) (b : Nat → Nat) (tw : Int32) (nk : Nat) (pa : Nat → Int32) (nc : Nat) (fo : Nat → Int32) (th : Nat → Int32) (tg : Nat → Int32) (nt : Nat) (tb : Nat → Int32) (te : Nat → Int32) (tk : Nat → Int32) (tt : Nat → Int32) (ex : Int32) (tc : Int32) (es : Int32) (wy : Int64) (ab : Nat → Int32) (re : Nat → Int32) (go : Nat → Int32) (be : Nat → Int32) (i : Nat) (k : Nat) (T : Nat → Nat → Nat) (up : Nat → Nat → Bool) (hg : g4 nk ab up nt tb te tk tt T) (hc : okC nk nc fo th tg) (hi : i < 48) (hk : k < nk) : Met l yX4_goal wsX4_goal ({ frames := 2, cells := 0, slots := 0, locals := 44 } : Room) (va_Pc [.ref (b 0), .int (nI i), .int (nI k)] (zPre (dC, dI) [(cI, .int), (cZ, .boolean), (cJ, .long)] (w4 b cI cZ tw nk pa nc fo th tg nt tb te tk tt ex tc es wy ab re go be))) (va_Qi (fun (r : Int32) (_ : Unit) => r = gl T nt up i k) (fun _ _ => True) (fun _ => False)) 0 0 (fun _ => False) := by
  refine Met.ofW (cc := cX4_goal) (maxL := 4) (ret := (some .int)) (by decide) rfl ?_
  intro p e s m args below meth c s₁ B hml hv
  obtain ⟨hav, hP, hK, hn⟩ := hv
  have hx := B.exec
  have hb := B.bytes
  have hr := B.returns
  have hts := atoms_spec (ws := wsX4_goal) B.pre
  have hown : s.vm.findClass RX4 = some m.cls := findClass_of_methodNamed B.named
  have hlocks := B.notSynchronized
  have hS : va_S (fun _ => False) s.heap s.heap [] := va_S.rf
  generalize hQ : MQ below (va_Qi (fun (r : Int32) (_ : Unit) => r = gl T nt up i k) (fun _ _ => True) (fun _ => False)) args s 0 0 (fun _ => False) = Q
  refine W.eq (g2 := entryFrame m ([.ref (b 0), .int (nI i), .int (nI k)] : List Value).toArray 4) (by rw [hav]) ?_
  have hl := lv_entry ([.ref (b 0), .int (nI i), .int (nI k)]) (n := 4) (Nat.le_of_ble_eq_true rfl)
  rw [lg_entry_eq]
  generalize (lg_sl ([.ref (b 0), .int (nI i), .int (nI k)]) ++ List.replicate (4 - (lg_sl ([.ref (b 0), .int (nI i), .int (nI k)])).length) Slot.unset).toArray = ls at hl ⊢
  have hl : lv_has ls 4 [(0, .ref (b 0)), (1, .int (nI i)), (2, .int (nI k))] := hl
  obtain ⟨H, hH⟩ : ∃ H, H = s.heap := ⟨_, rfl⟩
  obtain ⟨locs, hlo⟩ : ∃ q : List Loc, q = [] := ⟨_, rfl⟩
  have hP : va_P (dC, dI) vwCl (w4 b cI cZ tw nk pa nc fo th tg nt tb te tk tt ex tc es wy ab re go be) H := by rw [hH]; exact hP
  have hS : va_S (fun _ => False) s.heap H locs := by rw [hH, hlo]; exact hS
  refine zz_hl hH hlo ?_
  obtain ⟨hk01, hk8, hnt, hT, hO, hF, hU⟩ := id hg
  obtain ⟨hnc, hC⟩ := id hc
  refine lv_aload_n hx hb dX4_goal_0 rfl (lv_at hl 0 rfl) ?_
  refine lv_iload_n hx hb dX4_goal_1 rfl (lv_at hl 1 rfl) ?_
  refine lv_iload_n hx hb dX4_goal_2 rfl (lv_at hl 2 rfl) ?_
  refine va_calli (va_runV (As := [.int (nI i), .int (nI k)]) (rest := []) ⟨hx, hb, hml, hown, hts⟩ (c_X4_takerOf l dC dI cI cZ cJ b tw nk pa nc fo th tg nt tb te tk tt ex tc es wy ab re go be i k T up (by first | assumption | omega) (by first | assumption | omega) (by first | assumption | omega) (by first | assumption | omega)) (cwV 2 hts gX4_goal_X4_takerOf rfl rfl rfl (by decide +kernel) ⟨Nat.le_of_ble_eq_true rfl, Nat.le_of_ble_eq_true rfl⟩) ⟨zPre_blind, va_recv hK hP (ci := 4) (q0 := 0) rfl rfl, zPre_at hP hK hn⟩ rfl rfl hl.1 rfl (lv_room (Nat.le_of_ble_eq_true rfl)) dX4_goal_3 ⟨Nat.le_of_ble_eq_true rfl, Nat.le_of_ble_eq_true rfl⟩) hS (fun _ _ h => h.elim) (fun _ h => h.elim) (fun r_1 u_9 t H locs ht hvm hw hB hz1 hk1 hS => ?_)
  have hP := zkeep hP hk1
  subst hw
  refine lv_istore_n (lv' := [(3, .int (tkI T nt up i k)), (0, .ref (b 0)), (1, .int (nI i)), (2, .int (nI k))]) hx hb dX4_goal_6 rfl hl (by decide) rfl (fun ls hl => ?_)
  refine lv_iload_n hx hb dX4_goal_7 rfl (lv_at hl 0 rfl) ?_
  refine lv_iconst (v := -1) hx hb dX4_goal_8 (by decide) ?_
  refine lv_icmp_ne (tgt := 16) hx hb dX4_goal_9 (by decide) (fun c_2 => ?_) (fun c_2 => ?_)
  · skip
    have q1 := tkI_lt (by omega) c_2
    refine lv_aload_n hx hb dX4_goal_16 rfl (lv_at hl 1 rfl) ?_
    refine va_get (D := (dC, dI)) (ci := 4) (v := .ref (b 8)) (C := RX4) (T := TX4) (N := 20) hx hb hts (by decide +kernel) hown hK hP 0 rfl rfl 11 (by decide) (hts (.fieldLink RX4 35 "HandlerOptimizerModel" "entryTargets" "[I") (by decide +kernel)) (fun _ h9 => h9) rfl dX4_goal_17 ?_
    refine lv_iload_n hx hb dX4_goal_20 rfl (lv_at hl 0 rfl) ?_
    refine zz_top (y := nI (tkf T nt up i k)) (tkI_at q1) ?_
    refine va_iald hx hb hK hP 8 0 rfl rfl (vp_in_nI (n := tkf T nt up i k) (by omega) (by decide)) dX4_goal_21 ?_
    refine zz_top (y := tt (tkf T nt up i k)) (congrArg _ (nI_clamp (by omega))) ?_
    refine zz_top (y := nI (T 3 (tkf T nt up i k))) ((hT _ q1).2.2.2) ?_
    rw [← hQ]
    exact W.iret (v := nI (T 3 (tkf T nt up i k))) hx hb hr (fun t ht hW => ⟨⟨nI (T 3 (tkf T nt up i k)), (), rfl, (by simp [gl, q1]), trivial⟩, hS.F ht⟩) hS.2.2 dX4_goal_22
  · skip
    have q1 := tkI_m1 (by omega) c_2
    refine lv_iconst (v := -1) hx hb dX4_goal_12 (by decide) ?_
    refine lv_goto (tgt := 22) hx hb dX4_goal_13 (by decide) ?_
    rw [← hQ]
    exact W.iret (v := (-1)) hx hb hr (fun t ht hW => ⟨⟨(-1), (), rfl, (by simp [gl, q1]), trivial⟩, hS.F ht⟩) hS.2.2 dX4_goal_22

set_option maxHeartbeats 4000000 in
set_option maxRecDepth 100000 in
theorem c_X4_taker (l : Launch) (dC : Nat → ClassId) (dI : Nat → Nat → Nat) (cI cZ cJ : ClassId) (b : Nat → Nat) (tw : Int32) (nk : Nat) (pa : Nat → Int32) (nc : Nat) (fo : Nat → Int32) (th : Nat → Int32) (tg : Nat → Int32) (nt : Nat) (tb : Nat → Int32) (te : Nat → Int32) (tk : Nat → Int32) (tt : Nat → Int32) (ex : Int32) (tc : Int32) (es : Int32) (wy : Int64) (ab : Nat → Int32) (re : Nat → Int32) (go : Nat → Int32) (be : Nat → Int32) (x : Int32) (y : Int32) (T : Nat → Nat → Nat) (up : Nat → Nat → Bool) (sz : Nat) (hg : g4 nk ab up nt tb te tk tt T) (hc : okC nk nc fo th tg) : Met l yX4_taker wsX4_taker ({ frames := 2, cells := 0, slots := 0, locals := 44 } : Room) (va_Pc [.ref (b 0), .int x, .int y] (zWr (dC, dI) [(cI, .int), (cZ, .boolean), (cJ, .long)] (w4 b cI cZ tw nk pa nc fo th tg nt tb te tk tt ex tc es wy ab re go be) sz)) (va_Qi (fun (r : Int32) (tw9 : Int32) => ((hasI x nc && hasI y nk) = true ∧ tw9 = 0 ∧ r = tkI T nt up x.toNatClampNeg y.toNatClampNeg) ∨ ((hasI x nc && hasI y nk) = false ∧ tw9 = 1)) (fun tw9 t => zWo (dC, dI) [(cI, .int), (cZ, .boolean), (cJ, .long)] (w4 b cI cZ tw9 nk pa nc fo th tg nt tb te tk tt ex tc es wy ab re go be) (va_A (w4 b cI cZ tw nk pa nc fo th tg nt tb te tk tt ex tc es wy ab re go be) sz) t) (va_A (w4 b cI cZ tw nk pa nc fo th tg nt tb te tk tt ex tc es wy ab re go be) sz)) 0 0 (va_A (w4 b cI cZ tw nk pa nc fo th tg nt tb te tk tt ex tc es wy ab re go be) sz) := by
  refine Met.ofW (cc := cX4_taker) (maxL := 3) (ret := (some .int)) (by decide) rfl ?_
  intro p e s m args below meth c s₁ B hml hv
  obtain ⟨hav, hsz, ⟨hP, hK, hn⟩, hD0⟩ := hv
  have hx := B.exec
  have hb := B.bytes
  have hr := B.returns
  have hts := atoms_spec (ws := wsX4_taker) B.pre
  have hown : s.vm.findClass RX4 = some m.cls := findClass_of_methodNamed B.named
  have hlocks := B.notSynchronized
  subst hsz
  have hD := hD0.self (sz := s.heap.size)
  generalize hAe : (va_A (w4 b cI cZ tw nk pa nc fo th tg nt tb te tk tt ex tc es wy ab re go be) s.heap.size) = A at hD ⊢
  have hA : ∀ q : Nat, s.heap.size ≤ q → A q := fun q h => by rw [← hAe]; exact Or.inr h
  have hS : va_S A s.heap s.heap [] := va_S.rf
  generalize hQ : MQ below (va_Qi (fun (r : Int32) (tw9 : Int32) => ((hasI x nc && hasI y nk) = true ∧ tw9 = 0 ∧ r = tkI T nt up x.toNatClampNeg y.toNatClampNeg) ∨ ((hasI x nc && hasI y nk) = false ∧ tw9 = 1)) (fun tw9 t => zWo (dC, dI) [(cI, .int), (cZ, .boolean), (cJ, .long)] (w4 b cI cZ tw9 nk pa nc fo th tg nt tb te tk tt ex tc es wy ab re go be) A t) A) args s 0 0 A = Q
  refine W.eq (g2 := entryFrame m ([.ref (b 0), .int x, .int y] : List Value).toArray 3) (by rw [hav]) ?_
  have hl := lv_entry ([.ref (b 0), .int x, .int y]) (n := 3) (Nat.le_of_ble_eq_true rfl)
  rw [lg_entry_eq]
  generalize (lg_sl ([.ref (b 0), .int x, .int y]) ++ List.replicate (3 - (lg_sl ([.ref (b 0), .int x, .int y])).length) Slot.unset).toArray = ls at hl ⊢
  have hl : lv_has ls 3 [(0, .ref (b 0)), (1, .int x), (2, .int y)] := hl
  obtain ⟨H, hH⟩ : ∃ H, H = s.heap := ⟨_, rfl⟩
  obtain ⟨locs, hlo⟩ : ∃ q : List Loc, q = [] := ⟨_, rfl⟩
  have hP : va_P (dC, dI) vwCl (w4 b cI cZ tw nk pa nc fo th tg nt tb te tk tt ex tc es wy ab re go be) H := by rw [hH]; exact hP
  have hS : va_S A s.heap H locs := by rw [hH, hlo]; exact hS
  refine zz_hl hH hlo ?_
  obtain ⟨hk01, hk8, hnt, hT, hO, hF, hU⟩ := id hg
  obtain ⟨hnc, hC⟩ := id hc
  refine lv_aload_n hx hb dX4_taker_0 rfl (lv_at hl 0 rfl) ?_
  refine lv_iconst (v := 0) hx hb dX4_taker_1 (by decide) ?_
  refine va_put (D := (dC, dI)) (ci := 4) (v := .int 0) (ty := .int) (C := RX4) (T := TX4) (N := 20) hx hb hts (by decide +kernel) tyX4 tyX4_ok nmX4 hown hK hP hD hS 0 rfl rfl 0 (by decide) (hts (.fieldLink RX4 54 "HandlerOptimizerModel" "thrown" "I") (by decide +kernel)) (fun _ h9 => h9) rfl (by decide +kernel) rfl rfl (Nat.le_of_ble_eq_true rfl) dX4_taker_2 (fun H locs hP hD hS => ?_)
  have hP : va_P (dC, dI) vwCl (w4 b cI cZ 0 nk pa nc fo th tg nt tb te tk tt ex tc es wy ab re go be) H := hP
  have hD : va_D A (w4 b cI cZ 0 nk pa nc fo th tg nt tb te tk tt ex tc es wy ab re go be) := hD
  refine lv_aload_n hx hb dX4_taker_5 rfl (lv_at hl 0 rfl) ?_
  refine lv_iload_n hx hb dX4_taker_6 rfl (lv_at hl 1 rfl) ?_
  refine va_calli (va_runV (As := [.int x]) (rest := []) ⟨hx, hb, hml, hown, hts⟩ (c_X4_isInstruction l dC dI cI cZ cJ b 0 nk pa nc fo th tg nt tb te tk tt ex tc es wy ab re go be x (by omega)) (cwV 1 hts gX4_taker_X4_isInstruction rfl rfl rfl (by decide +kernel) ⟨Nat.le_of_ble_eq_true rfl, Nat.le_of_ble_eq_true rfl⟩) ⟨zPre_blind, va_recv hK hP (ci := 4) (q0 := 0) rfl rfl, zPre_at hP hK hn⟩ rfl rfl hl.1 rfl (lv_room (Nat.le_of_ble_eq_true rfl)) dX4_taker_7 ⟨Nat.le_of_ble_eq_true rfl, Nat.le_of_ble_eq_true rfl⟩) hS (fun _ _ h => h.elim) (fun _ h => h.elim) (fun r_1 u_9 t H locs ht hvm hw hB hz1 hk1 hS => ?_)
  have hP := zkeep hP hk1
  subst hw
  refine lv_if_eq (tgt := 30) hx hb dX4_taker_10 (by decide) (fun c_2 => ?_) (fun c_2 => ?_)
  · skip
    have c9 : (hasI x nc && hasI y nk) = false := by rw [zb_0.mp c_2]; rfl
    refine lv_aload_n hx hb dX4_taker_30 rfl (lv_at hl 0 rfl) ?_
    refine lv_iconst (v := 1) hx hb dX4_taker_31 (by decide) ?_
    have hDc := hD
    have hFc := va_free (wc := w4 b cI cZ 0 nk pa nc fo th tg nt tb te tk tt ex tc es wy ab re go be) hD hS hA [0, 1, 2, 3, 4, 5, 6, 7, 8, 9, 10, 11, 12] rfl
    refine va_calli (va_runV (As := [.int 1]) (rest := []) ⟨hx, hb, hml, hown, hts⟩ (c_X4_no l dC dI cI cZ cJ b 0 nk pa nc fo th tg nt tb te tk tt ex tc es wy ab re go be 1 H.size ) (cwV 1 hts gX4_taker_X4_no rfl rfl rfl (by decide +kernel) ⟨Nat.le_of_ble_eq_true rfl, Nat.le_of_ble_eq_true rfl⟩) ⟨zWr_blind, va_recv hK hP (ci := 4) (q0 := 0) rfl rfl, zWr_at hP hK hn (hDc.weaken (fun _ _ _ _ => trivial))⟩ rfl rfl hl.1 rfl (lv_room (Nat.le_of_ble_eq_true rfl)) dX4_taker_32 ⟨Nat.le_of_ble_eq_true rfl, Nat.le_of_ble_eq_true rfl⟩) hS (fun q _ h => hFc q h) hFc (fun r_3 u_9 t H1 locs ht hvm hw hB hz1 hk1 hS => ?_)
    obtain ⟨hP1, -, hD1⟩ := hB
    rw [ht] at hP1
    obtain ⟨hP, hD⟩ := va_join (wr := []) (w1 := w4 b cI cZ 1 nk pa nc fo th tg nt tb te tk tt ex tc es wy ab re go be) hP hD [0, 1, 2, 3, 4, 5, 6, 7, 8, 9, 10, 11, 12] [] rfl rfl (by decide) (by decide) hk1 hFc hP1 hD1
    generalize H1 = H at hP hS ⊢
    have hP : va_P (dC, dI) vwCl (w4 b cI cZ 1 nk pa nc fo th tg nt tb te tk tt ex tc es wy ab re go be) H := hP
    have hD : va_D A (w4 b cI cZ 1 nk pa nc fo th tg nt tb te tk tt ex tc es wy ab re go be) := hD
    subst hw
    rw [← hQ]
    have hP9 := hP
    have hD9 := hD
    exact W.iret (v := 0) hx hb hr (fun t ht hW => ⟨⟨0, 1, rfl, (by first | exact Or.inr ⟨c9, rfl⟩ | (refine Or.inl ⟨c9, rfl, ?_⟩; rw [nI_clamp (by omega), nI_clamp (by omega)])), (by rw [ht]; exact hP9), va_K.moved hW.alike hK, hD9⟩, hS.F ht⟩) hS.2.2 dX4_taker_35
  · skip
    have c5 := zb_1.mp c_2
    refine lv_aload_n hx hb dX4_taker_13 rfl (lv_at hl 0 rfl) ?_
    refine lv_iload_n hx hb dX4_taker_14 rfl (lv_at hl 2 rfl) ?_
    refine va_calli (va_runV (As := [.int y]) (rest := []) ⟨hx, hb, hml, hown, hts⟩ (c_X4_isKind l dC dI cI cZ cJ b 0 nk pa nc fo th tg nt tb te tk tt ex tc es wy ab re go be y (by omega)) (cwV 1 hts gX4_taker_X4_isKind rfl rfl rfl (by decide +kernel) ⟨Nat.le_of_ble_eq_true rfl, Nat.le_of_ble_eq_true rfl⟩) ⟨zPre_blind, va_recv hK hP (ci := 4) (q0 := 0) rfl rfl, zPre_at hP hK hn⟩ rfl rfl hl.1 rfl (lv_room (Nat.le_of_ble_eq_true rfl)) dX4_taker_15 ⟨Nat.le_of_ble_eq_true rfl, Nat.le_of_ble_eq_true rfl⟩) hS (fun _ _ h => h.elim) (fun _ h => h.elim) (fun r_4 u_9 t H locs ht hvm hw hB hz1 hk1 hS => ?_)
    have hP := zkeep hP hk1
    subst hw
    refine lv_if_eq (tgt := 30) hx hb dX4_taker_18 (by decide) (fun c_5 => ?_) (fun c_5 => ?_)
    · skip
      have c9 : (hasI x nc && hasI y nk) = false := by rw [zb_0.mp c_5]; exact Bool.and_false _
      refine lv_aload_n hx hb dX4_taker_30 rfl (lv_at hl 0 rfl) ?_
      refine lv_iconst (v := 1) hx hb dX4_taker_31 (by decide) ?_
      have hDc := hD
      have hFc := va_free (wc := w4 b cI cZ 0 nk pa nc fo th tg nt tb te tk tt ex tc es wy ab re go be) hD hS hA [0, 1, 2, 3, 4, 5, 6, 7, 8, 9, 10, 11, 12] rfl
      refine va_calli (va_runV (As := [.int 1]) (rest := []) ⟨hx, hb, hml, hown, hts⟩ (c_X4_no l dC dI cI cZ cJ b 0 nk pa nc fo th tg nt tb te tk tt ex tc es wy ab re go be 1 H.size ) (cwV 1 hts gX4_taker_X4_no rfl rfl rfl (by decide +kernel) ⟨Nat.le_of_ble_eq_true rfl, Nat.le_of_ble_eq_true rfl⟩) ⟨zWr_blind, va_recv hK hP (ci := 4) (q0 := 0) rfl rfl, zWr_at hP hK hn (hDc.weaken (fun _ _ _ _ => trivial))⟩ rfl rfl hl.1 rfl (lv_room (Nat.le_of_ble_eq_true rfl)) dX4_taker_32 ⟨Nat.le_of_ble_eq_true rfl, Nat.le_of_ble_eq_true rfl⟩) hS (fun q _ h => hFc q h) hFc (fun r_6 u_9 t H1 locs ht hvm hw hB hz1 hk1 hS => ?_)
      obtain ⟨hP1, -, hD1⟩ := hB
      rw [ht] at hP1
      obtain ⟨hP, hD⟩ := va_join (wr := []) (w1 := w4 b cI cZ 1 nk pa nc fo th tg nt tb te tk tt ex tc es wy ab re go be) hP hD [0, 1, 2, 3, 4, 5, 6, 7, 8, 9, 10, 11, 12] [] rfl rfl (by decide) (by decide) hk1 hFc hP1 hD1
      generalize H1 = H at hP hS ⊢
      have hP : va_P (dC, dI) vwCl (w4 b cI cZ 1 nk pa nc fo th tg nt tb te tk tt ex tc es wy ab re go be) H := hP
      have hD : va_D A (w4 b cI cZ 1 nk pa nc fo th tg nt tb te tk tt ex tc es wy ab re go be) := hD
      subst hw
      rw [← hQ]
      have hP9 := hP
      have hD9 := hD
      exact W.iret (v := 0) hx hb hr (fun t ht hW => ⟨⟨0, 1, rfl, (by first | exact Or.inr ⟨c9, rfl⟩ | (refine Or.inl ⟨c9, rfl, ?_⟩; rw [nI_clamp (by omega), nI_clamp (by omega)])), (by rw [ht]; exact hP9), va_K.moved hW.alike hK, hD9⟩, hS.F ht⟩) hS.2.2 dX4_taker_35
    · skip
      have c6 := zb_1.mp c_5
      have c9 : (hasI x nc && hasI y nk) = true := by rw [c5, c6]; rfl
      obtain ⟨i, hi, rfl⟩ := hasI_at (by omega) c5
      obtain ⟨j, hj, rfl⟩ := hasI_at (by omega) c6
      refine lv_aload_n hx hb dX4_taker_21 rfl (lv_at hl 0 rfl) ?_
      refine lv_iload_n hx hb dX4_taker_22 rfl (lv_at hl 1 rfl) ?_
      refine lv_iload_n hx hb dX4_taker_23 rfl (lv_at hl 2 rfl) ?_
      refine va_calli (va_runV (As := [.int (nI i), .int (nI j)]) (rest := []) ⟨hx, hb, hml, hown, hts⟩ (c_X4_takerOf l dC dI cI cZ cJ b 0 nk pa nc fo th tg nt tb te tk tt ex tc es wy ab re go be i j T up (by first | assumption | omega) (by first | assumption | omega) (by omega) (hj)) (cwV 2 hts gX4_taker_X4_takerOf rfl rfl rfl (by decide +kernel) ⟨Nat.le_of_ble_eq_true rfl, Nat.le_of_ble_eq_true rfl⟩) ⟨zPre_blind, va_recv hK hP (ci := 4) (q0 := 0) rfl rfl, zPre_at hP hK hn⟩ rfl rfl hl.1 rfl (lv_room (Nat.le_of_ble_eq_true rfl)) dX4_taker_24 ⟨Nat.le_of_ble_eq_true rfl, Nat.le_of_ble_eq_true rfl⟩) hS (fun _ _ h => h.elim) (fun _ h => h.elim) (fun r_7 u_9 t H locs ht hvm hw hB hz1 hk1 hS => ?_)
      have hP := zkeep hP hk1
      subst hw
      refine lv_goto (tgt := 35) hx hb dX4_taker_27 (by decide) ?_
      rw [← hQ]
      have hP9 := hP
      have hD9 := hD
      exact W.iret (v := tkI T nt up i j) hx hb hr (fun t ht hW => ⟨⟨tkI T nt up i j, 0, rfl, (by first | exact Or.inr ⟨c9, rfl⟩ | (refine Or.inl ⟨c9, rfl, ?_⟩; rw [nI_clamp (by omega), nI_clamp (by omega)])), (by rw [ht]; exact hP9), va_K.moved hW.alike hK, hD9⟩, hS.F ht⟩) hS.2.2 dX4_taker_35

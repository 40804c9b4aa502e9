set_option maxHeartbeats 4000000 in
set_option maxRecDepth 100000 in
theorem c_X3_hasUse (l : Launch) (dC : Nat → ClassId) (dI : Nat → Nat → Nat) (cI cZ cJ : ClassId) (a : Nat → Nat) (nk : Nat) (pa : Nat → Int32) (fa : Nat → Int32) (nc : Nat) (fo : Nat → Int32) (th : Nat → Int32) (tg : Nat → Int32) (nt : Nat) (tb : Nat → Int32) (te : Nat → Int32) (tk : Nat → Int32) (tt : Nat → Int32) (nu : Nat) (ub : Nat → Int32) (ue : Nat → Int32) (uk : Nat → Int32) (ut : Nat → Int32) (re : Nat → Int32) (ro : Nat → Int32) (fu : Nat → Int32) (bl : Nat → Int32) (go : Nat → Int32) (ra : Nat → Int32) (rc : Nat) (ex : Int32) (tc : Int32) (es : Int32) (wy : Int64) (i : Nat) (hi : i < 24) : Met l yX3_hasUse wsX3_hasUse ({ frames := 0, cells := 0, slots := 0, locals := 0 } : Room) (va_Pc [.ref (a 0), .int (nI i)] (zPre (dC, dI) [(cI, .int), (cZ, .boolean), (cJ, .long)] (w3 a cI cZ nk pa fa nc fo th tg nt tb te tk tt nu ub ue uk ut re ro fu bl go ra rc ex tc es wy))) (va_Qi (fun (r : Int32) (_ : Unit) => r = bI (decide (0 < bl i))) (fun _ _ => True) (fun _ => False)) 0 0 (fun _ => False) := by
  refine Met.ofW (cc := cX3_hasUse) (maxL := 2) (ret := (some .boolean)) (by decide) rfl ?_
  intro p e s m args below meth c s₁ B hml hv
  obtain ⟨hav, hP, hK, hn⟩ := hv
  have hx := B.exec
  have hb := B.bytes
  have hr := B.returns
  have hts := atoms_spec (ws := wsX3_hasUse) B.pre
  have hown : s.vm.findClass RX3 = some m.cls := findClass_of_methodNamed B.named
  have hlocks := B.notSynchronized
  have hS : va_S (fun _ => False) s.heap s.heap [] := va_S.rf
  generalize hQ : MQ below (va_Qi (fun (r : Int32) (_ : Unit) => r = bI (decide (0 < bl i))) (fun _ _ => True) (fun _ => False)) args s 0 0 (fun _ => False) = Q
  refine W.eq (g2 := entryFrame m ([.ref (a 0), .int (nI i)] : List Value).toArray 2) (by rw [hav]) ?_
  have hl := lv_entry ([.ref (a 0), .int (nI i)]) (n := 2) (Nat.le_of_ble_eq_true rfl)
  rw [lg_entry_eq]
  generalize (lg_sl ([.ref (a 0), .int (nI i)]) ++ List.replicate (2 - (lg_sl ([.ref (a 0), .int (nI i)])).length) Slot.unset).toArray = ls at hl ⊢
  have hl : lv_has ls 2 [(0, .ref (a 0)), (1, .int (nI i))] := hl
  obtain ⟨H, hH⟩ : ∃ H, H = s.heap := ⟨_, rfl⟩
  obtain ⟨locs, hlo⟩ : ∃ q : List Loc, q = [] := ⟨_, rfl⟩
  have hP : va_P (dC, dI) vwCl (w3 a cI cZ nk pa fa nc fo th tg nt tb te tk tt nu ub ue uk ut re ro fu bl go ra rc ex tc es wy) H := by rw [hH]; exact hP
  have hS : va_S (fun _ => False) s.heap H locs := by rw [hH, hlo]; exact hS
  refine zz_hl hH hlo ?_
  refine lv_aload_n hx hb dX3_hasUse_0 rfl (lv_at hl 0 rfl) ?_
  refine va_get (D := (dC, dI)) (ci := 3) (v := .ref (a 21)) (C := RX3) (T := TX3) (N := 15) hx hb hts (by decide +kernel) hown hK hP 0 rfl rfl 8 (by decide) (hts (.fieldLink RX3 44 "HandlerOptimizer" "behindLastUse" "[I") (by decide +kernel)) (fun _ h9 => h9) rfl dX3_hasUse_1 ?_
  refine lv_iload_n hx hb dX3_hasUse_4 rfl (lv_at hl 1 rfl) ?_
  refine va_iald hx hb hK hP 21 0 rfl rfl (vp_in_nI (n := i) (by omega) (by decide)) dX3_hasUse_5 ?_
  refine zz_top (y := bl i) (congrArg _ (nI_clamp (by omega))) ?_
  refine lv_if_le (tgt := 13) hx hb dX3_hasUse_6 (by decide) (fun c_1 => ?_) (fun c_1 => ?_)
  · skip
    have c8 : ¬ 0 < bl i := Int32.not_lt.mpr c_1
    refine lv_iconst (v := 0) hx hb dX3_hasUse_13 (by decide) ?_
    rw [← hQ]
    exact W.zret (v := 0) hx hb hr rfl (fun t ht hW => ⟨⟨0, (), rfl, (by simp [bI, *]), trivial⟩, hS.F ht⟩) hS.2.2 dX3_hasUse_14
  · skip
    have c8 : 0 < bl i := Int32.not_le.mp c_1
    refine lv_iconst (v := 1) hx hb dX3_hasUse_9 (by decide) ?_
    refine lv_goto (tgt := 14) hx hb dX3_hasUse_10 (by decide) ?_
    rw [← hQ]
    exact W.zret (v := 1) hx hb hr rfl (fun t ht hW => ⟨⟨1, (), rfl, (by simp [bI, *]), trivial⟩, hS.F ht⟩) hS.2.2 dX3_hasUse_14

set_option maxHeartbeats 4000000 in
set_option maxRecDepth 100000 in
theorem c_X3_isTight (l : Launch) (dC : Nat → ClassId) (dI : Nat → Nat → Nat) (cI cZ cJ : ClassId) (a : Nat → Nat) (nk : Nat) (pa : Nat → Int32) (fa : Nat → Int32) (nc : Nat) (fo : Nat → Int32) (th : Nat → Int32) (tg : Nat → Int32) (nt : Nat) (tb : Nat → Int32) (te : Nat → Int32) (tk : Nat → Int32) (tt : Nat → Int32) (nu : Nat) (ub : Nat → Int32) (ue : Nat → Int32) (uk : Nat → Int32) (ut : Nat → Int32) (re : Nat → Int32) (ro : Nat → Int32) (fu : Nat → Int32) (bl : Nat → Int32) (go : Nat → Int32) (ra : Nat → Int32) (rc : Nat) (ex : Int32) (tc : Int32) (es : Int32) (wy : Int64) (i : Nat) (hi : i < 24) : Met l yX3_isTight wsX3_isTight ({ frames := 0, cells := 0, slots := 0, locals := 0 } : Room) (va_Pc [.ref (a 0), .int (nI i)] (zPre (dC, dI) [(cI, .int), (cZ, .boolean), (cJ, .long)] (w3 a cI cZ nk pa fa nc fo th tg nt tb te tk tt nu ub ue uk ut re ro fu bl go ra rc ex tc es wy))) (va_Qi (fun (r : Int32) (_ : Unit) => r = bI (decide (tb i = fu i) && decide (te i = bl i))) (fun _ _ => True) (fun _ => False)) 0 0 (fun _ => False) := by
  refine Met.ofW (cc := cX3_isTight) (maxL := 2) (ret := (some .boolean)) (by decide) rfl ?_
  intro p e s m args below meth c s₁ B hml hv
  obtain ⟨hav, hP, hK, hn⟩ := hv
  have hx := B.exec
  have hb := B.bytes
  have hr := B.returns
  have hts := atoms_spec (ws := wsX3_isTight) B.pre
  have hown : s.vm.findClass RX3 = some m.cls := findClass_of_methodNamed B.named
  have hlocks := B.notSynchronized
  have hS : va_S (fun _ => False) s.heap s.heap [] := va_S.rf
  generalize hQ : MQ below (va_Qi (fun (r : Int32) (_ : Unit) => r = bI (decide (tb i = fu i) && decide (te i = bl i))) (fun _ _ => True) (fun _ => False)) args s 0 0 (fun _ => False) = Q
  refine W.eq (g2 := entryFrame m ([.ref (a 0), .int (nI i)] : List Value).toArray 2) (by rw [hav]) ?_
  have hl := lv_entry ([.ref (a 0), .int (nI i)]) (n := 2) (Nat.le_of_ble_eq_true rfl)
  rw [lg_entry_eq]
  generalize (lg_sl ([.ref (a 0), .int (nI i)]) ++ List.replicate (2 - (lg_sl ([.ref (a 0), .int (nI i)])).length) Slot.unset).toArray = ls at hl ⊢
  have hl : lv_has ls 2 [(0, .ref (a 0)), (1, .int (nI i))] := hl
  obtain ⟨H, hH⟩ : ∃ H, H = s.heap := ⟨_, rfl⟩
  obtain ⟨locs, hlo⟩ : ∃ q : List Loc, q = [] := ⟨_, rfl⟩
  have hP : va_P (dC, dI) vwCl (w3 a cI cZ nk pa fa nc fo th tg nt tb te tk tt nu ub ue uk ut re ro fu bl go ra rc ex tc es wy) H := by rw [hH]; exact hP
  have hS : va_S (fun _ => False) s.heap H locs := by rw [hH, hlo]; exact hS
  refine zz_hl hH hlo ?_
  refine lv_aload_n hx hb dX3_isTight_0 rfl (lv_at hl 0 rfl) ?_
  refine va_get (D := (dC, dI)) (ci := 3) (v := .ref (a 8)) (C := RX3) (T := TX3) (N := 15) hx hb hts (by decide +kernel) hown hK hP 0 rfl rfl 2 (by decide) (hts (.fieldLink RX3 26 "HandlerOptimizer" "table" "LHandlerOptimizer$Table;") (by decide +kernel)) (fun _ h9 => h9) rfl dX3_isTight_1 ?_
  refine va_getN (D := (dC, dI)) (ci := 2) (v := .ref (a 9)) (C := RX2) (T := TX2) (N := 5) hx hb hts (by decide +kernel) hown hK hP 8 rfl rfl 0 (by decide) (va_Nw.use rfl (hn (.fieldLinkNest RX3 135 "HandlerOptimizer$Table" "begins" "[I" "HandlerOptimizer") (by decide +kernel))) (fun _ h9 => h9) rfl dX3_isTight_4 ?_
  refine lv_iload_n hx hb dX3_isTight_7 rfl (lv_at hl 1 rfl) ?_
  refine va_iald hx hb hK hP 9 0 rfl rfl (vp_in_nI (n := i) (by omega) (by decide)) dX3_isTight_8 ?_
  refine zz_top (y := tb i) (congrArg _ (nI_clamp (by omega))) ?_
  refine lv_aload_n hx hb dX3_isTight_9 rfl (lv_at hl 0 rfl) ?_
  refine va_get (D := (dC, dI)) (ci := 3) (v := .ref (a 20)) (C := RX3) (T := TX3) (N := 15) hx hb hts (by decide +kernel) hown hK hP 0 rfl rfl 7 (by decide) (hts (.fieldLink RX3 41 "HandlerOptimizer" "firstUse" "[I") (by decide +kernel)) (fun _ h9 => h9) rfl dX3_isTight_10 ?_
  refine lv_iload_n hx hb dX3_isTight_13 rfl (lv_at hl 1 rfl) ?_
  refine va_iald hx hb hK hP 20 0 rfl rfl (vp_in_nI (n := i) (by omega) (by decide)) dX3_isTight_14 ?_
  refine zz_top (y := fu i) (congrArg _ (nI_clamp (by omega))) ?_
  refine lv_icmp_ne (tgt := 40) hx hb dX3_isTight_15 (by decide) (fun c_1 => ?_) (fun c_1 => ?_)
  · skip
    skip
    refine lv_iconst (v := 0) hx hb dX3_isTight_40 (by decide) ?_
    rw [← hQ]
    exact W.zret (v := 0) hx hb hr rfl (fun t ht hW => ⟨⟨0, (), rfl, (by simp [bI, *]), trivial⟩, hS.F ht⟩) hS.2.2 dX3_isTight_41
  · skip
    skip
    refine lv_aload_n hx hb dX3_isTight_18 rfl (lv_at hl 0 rfl) ?_
    refine va_get (D := (dC, dI)) (ci := 3) (v := .ref (a 8)) (C := RX3) (T := TX3) (N := 15) hx hb hts (by decide +kernel) hown hK hP 0 rfl rfl 2 (by decide) (hts (.fieldLink RX3 26 "HandlerOptimizer" "table" "LHandlerOptimizer$Table;") (by decide +kernel)) (fun _ h9 => h9) rfl dX3_isTight_19 ?_
    refine va_getN (D := (dC, dI)) (ci := 2) (v := .ref (a 10)) (C := RX2) (T := TX2) (N := 5) hx hb hts (by decide +kernel) hown hK hP 8 rfl rfl 1 (by decide) (va_Nw.use rfl (hn (.fieldLinkNest RX3 138 "HandlerOptimizer$Table" "ends" "[I" "HandlerOptimizer") (by decide +kernel))) (fun _ h9 => h9) rfl dX3_isTight_22 ?_
    refine lv_iload_n hx hb dX3_isTight_25 rfl (lv_at hl 1 rfl) ?_
    refine va_iald hx hb hK hP 10 0 rfl rfl (vp_in_nI (n := i) (by omega) (by decide)) dX3_isTight_26 ?_
    refine zz_top (y := te i) (congrArg _ (nI_clamp (by omega))) ?_
    refine lv_aload_n hx hb dX3_isTight_27 rfl (lv_at hl 0 rfl) ?_
    refine va_get (D := (dC, dI)) (ci := 3) (v := .ref (a 21)) (C := RX3) (T := TX3) (N := 15) hx hb hts (by decide +kernel) hown hK hP 0 rfl rfl 8 (by decide) (hts (.fieldLink RX3 44 "HandlerOptimizer" "behindLastUse" "[I") (by decide +kernel)) (fun _ h9 => h9) rfl dX3_isTight_28 ?_
    refine lv_iload_n hx hb dX3_isTight_31 rfl (lv_at hl 1 rfl) ?_
    refine va_iald hx hb hK hP 21 0 rfl rfl (vp_in_nI (n := i) (by omega) (by decide)) dX3_isTight_32 ?_
    refine zz_top (y := bl i) (congrArg _ (nI_clamp (by omega))) ?_
    refine lv_icmp_ne (tgt := 40) hx hb dX3_isTight_33 (by decide) (fun c_2 => ?_) (fun c_2 => ?_)
    · skip
      skip
      refine lv_iconst (v := 0) hx hb dX3_isTight_40 (by decide) ?_
      rw [← hQ]
      exact W.zret (v := 0) hx hb hr rfl (fun t ht hW => ⟨⟨0, (), rfl, (by simp [bI, *]), trivial⟩, hS.F ht⟩) hS.2.2 dX3_isTight_41
    · skip
      skip
      refine lv_iconst (v := 1) hx hb dX3_isTight_36 (by decide) ?_
      refine lv_goto (tgt := 41) hx hb dX3_isTight_37 (by decide) ?_
      rw [← hQ]
      exact W.zret (v := 1) hx hb hr rfl (fun t ht hW => ⟨⟨1, (), rfl, (by simp [bI, *]), trivial⟩, hS.F ht⟩) hS.2.2 dX3_isTight_41

set_option maxHeartbeats 4000000 in
set_option maxRecDepth 100000 in
theorem c_X3_noteUse (l : Launch) (dC : Nat → ClassId) (dI : Nat → Nat → Nat) (cI cZ cJ : ClassId) (a : Nat → Nat) (nk : Nat) (pa : Nat → Int32) (fa : Nat → Int32) (nc : Nat) (fo : Nat → Int32) (th : Nat → Int32) (tg : Nat → Int32) (nt : Nat) (tb : Nat → Int32) (te : Nat → Int32) (tk : Nat → Int32) (tt : Nat → Int32) (nu : Nat) (ub : Nat → Int32) (ue : Nat → Int32) (uk : Nat → Int32) (ut : Nat → Int32) (re : Nat → Int32) (ro : Nat → Int32) (fu : Nat → Int32) (bl : Nat → Int32) (go : Nat → Int32) (ra : Nat → Int32) (rc : Nat) (ex : Int32) (tc : Int32) (es : Int32) (wy : Int64) (x : Int32) (i : Nat) (sz : Nat) (hx9 : x = -1 ∨ ∃ ei, ei < 24 ∧ x = nI ei) : Met l yX3_noteUse wsX3_noteUse ({ frames := 1, cells := 0, slots := 0, locals := 21 } : Room) (va_Pc [.ref (a 0), .int x, .int (nI i)] (zWr (dC, dI) [(cI, .int), (cZ, .boolean), (cJ, .long)] (w3 a cI cZ nk pa fa nc fo th tg nt tb te tk tt nu ub ue uk ut re ro fu bl go ra rc ex tc es wy) sz)) (va_Qv (fun (u : (Nat → Int32) × (Nat → Int32)) => match u with | (fu9, bl9) => (x = -1 ∧ fu9 = fu ∧ bl9 = bl) ∨ ∃ ei, x = nI ei ∧ ei < 24 ∧ fu9 = (if 0 < bl ei then fu else upd fu ei (nI i)) ∧ bl9 = upd bl ei (nI (i + 1))) (fun u t => match u with | (fu9, bl9) => zWo (dC, dI) [(cI, .int), (cZ, .boolean), (cJ, .long)] (w3 a cI cZ nk pa fa nc fo th tg nt tb te tk tt nu ub ue uk ut re ro fu9 bl9 go ra rc ex tc es wy) (va_A (w3 a cI cZ nk pa fa nc fo th tg nt tb te tk tt nu ub ue uk ut re ro fu bl go ra rc ex tc es wy) sz) t) (va_A (w3 a cI cZ nk pa fa nc fo th tg nt tb te tk tt nu ub ue uk ut re ro fu bl go ra rc ex tc es wy) sz)) 0 0 (va_A (w3 a cI cZ nk pa fa nc fo th tg nt tb te tk tt nu ub ue uk ut re ro fu bl go ra rc ex tc es wy) sz) := by
  refine Met.ofW (cc := cX3_noteUse) (maxL := 3) (ret := none) (by decide) rfl ?_
  intro p e s m args below meth c s₁ B hml hv
  obtain ⟨hav, hsz, ⟨hP, hK, hn⟩, hD0⟩ := hv
  have hx := B.exec
  have hb := B.bytes
  have hr := B.returns
  have hts := atoms_spec (ws := wsX3_noteUse) B.pre
  have hown : s.vm.findClass RX3 = some m.cls := findClass_of_methodNamed B.named
  have hlocks := B.notSynchronized
  subst hsz
  have hD := hD0.self (sz := s.heap.size)
  generalize hAe : (va_A (w3 a cI cZ nk pa fa nc fo th tg nt tb te tk tt nu ub ue uk ut re ro fu bl go ra rc ex tc es wy) s.heap.size) = A at hD ⊢
  have hA : ∀ q : Nat, s.heap.size ≤ q → A q := fun q h => by rw [← hAe]; exact Or.inr h
  have hS : va_S A s.heap s.heap [] := va_S.rf
  generalize hQ : MQ below (va_Qv (fun (u : (Nat → Int32) × (Nat → Int32)) => match u with | (fu9, bl9) => (x = -1 ∧ fu9 = fu ∧ bl9 = bl) ∨ ∃ ei, x = nI ei ∧ ei < 24 ∧ fu9 = (if 0 < bl ei then fu else upd fu ei (nI i)) ∧ bl9 = upd bl ei (nI (i + 1))) (fun u t => match u with | (fu9, bl9) => zWo (dC, dI) [(cI, .int), (cZ, .boolean), (cJ, .long)] (w3 a cI cZ nk pa fa nc fo th tg nt tb te tk tt nu ub ue uk ut re ro fu9 bl9 go ra rc ex tc es wy) A t) A) args s 0 0 A = Q
  refine W.eq (g2 := entryFrame m ([.ref (a 0), .int x, .int (nI i)] : List Value).toArray 3) (by rw [hav]) ?_
  have hl := lv_entry ([.ref (a 0), .int x, .int (nI i)]) (n := 3) (Nat.le_of_ble_eq_true rfl)
  rw [lg_entry_eq]
  generalize (lg_sl ([.ref (a 0), .int x, .int (nI i)]) ++ List.replicate (3 - (lg_sl ([.ref (a 0), .int x, .int (nI i)])).length) Slot.unset).toArray = ls at hl ⊢
  have hl : lv_has ls 3 [(0, .ref (a 0)), (1, .int x), (2, .int (nI i))] := hl
  obtain ⟨H, hH⟩ : ∃ H, H = s.heap := ⟨_, rfl⟩
  obtain ⟨locs, hlo⟩ : ∃ q : List Loc, q = [] := ⟨_, rfl⟩
  have hP : va_P (dC, dI) vwCl (w3 a cI cZ nk pa fa nc fo th tg nt tb te tk tt nu ub ue uk ut re ro fu bl go ra rc ex tc es wy) H := by rw [hH]; exact hP
  have hS : va_S A s.heap H locs := by rw [hH, hlo]; exact hS
  refine zz_hl hH hlo ?_
  refine lv_iload_n hx hb dX3_noteUse_0 rfl (lv_at hl 1 rfl) ?_
  refine lv_iconst (v := -1) hx hb dX3_noteUse_1 (by decide) ?_
  refine lv_icmp_ne (tgt := 6) hx hb dX3_noteUse_2 (by decide) (fun c_1 => ?_) (fun c_1 => ?_)
  · skip
    obtain ⟨ei, hei, rfl⟩ : ∃ ei, ei < 24 ∧ x = nI ei := by
      rcases hx9 with q | q
      · exact absurd q c_1
      · exact q
    refine lv_aload_n hx hb dX3_noteUse_6 rfl (lv_at hl 0 rfl) ?_
    refine lv_iload_n hx hb dX3_noteUse_7 rfl (lv_at hl 1 rfl) ?_
    refine va_calli (va_runV (As := [.int (nI ei)]) (rest := []) ⟨hx, hb, hml, hown, hts⟩ (c_X3_hasUse l dC dI cI cZ cJ a nk pa fa nc fo th tg nt tb te tk tt nu ub ue uk ut re ro fu bl go ra rc ex tc es wy ei (by first | assumption | omega)) (cwV 1 hts gX3_noteUse_X3_hasUse rfl rfl rfl (by decide +kernel) ⟨Nat.le_of_ble_eq_true rfl, Nat.le_of_ble_eq_true rfl⟩) ⟨zPre_blind, va_recv hK hP (ci := 3) (q0 := 0) rfl rfl, zPre_at hP hK hn⟩ rfl rfl hl.1 rfl (lv_room (Nat.le_of_ble_eq_true rfl)) dX3_noteUse_8 ⟨Nat.le_of_ble_eq_true rfl, Nat.le_of_ble_eq_true rfl⟩) hS (fun _ _ h => h.elim) (fun _ h => h.elim) (fun r_2 u_9 t H locs ht hvm hw hB hz1 hk1 hS => ?_)
    have hP := zkeep hP hk1
    subst hw
    refine lv_if_ne (tgt := 21) hx hb dX3_noteUse_11 (by decide) (fun c_3 => ?_) (fun c_3 => ?_)
    · skip
      have c8 := of_decide_eq_true (zb_1.mp c_3)
      refine lv_aload_n hx hb dX3_noteUse_21 rfl (lv_at hl 0 rfl) ?_
      refine va_get (D := (dC, dI)) (ci := 3) (v := .ref (a 21)) (C := RX3) (T := TX3) (N := 15) hx hb hts (by decide +kernel) hown hK hP 0 rfl rfl 8 (by decide) (hts (.fieldLink RX3 44 "HandlerOptimizer" "behindLastUse" "[I") (by decide +kernel)) (fun _ h9 => h9) rfl dX3_noteUse_22 ?_
      refine lv_iload_n hx hb dX3_noteUse_25 rfl (lv_at hl 1 rfl) ?_
      refine lv_iload_n hx hb dX3_noteUse_26 rfl (lv_at hl 2 rfl) ?_
      refine lv_iconst (v := 1) hx hb dX3_noteUse_27 (by decide) ?_
      refine lv_iadd hx hb dX3_noteUse_28 ?_
      refine zz_top (y := nI (i + 1)) (nI_add _ _) ?_
      refine va_iast hx hb hK hP hD hS 21 0 rfl rfl (vp_in_nI (n := ei) (by omega) (by decide)) dX3_noteUse_29 (fun H locs hP hD hS => ?_)
      rw [nI_clamp (n := ei) (by omega)] at hP hD
      have hP : va_P (dC, dI) vwCl (w3 a cI cZ nk pa fa nc fo th tg nt tb te tk tt nu ub ue uk ut re ro fu (upd bl ei (nI (i + 1))) go ra rc ex tc es wy) H := hP
      have hD : va_D A (w3 a cI cZ nk pa fa nc fo th tg nt tb te tk tt nu ub ue uk ut re ro fu (upd bl ei (nI (i + 1))) go ra rc ex tc es wy) := hD
      rw [← hQ]
      have hP9 := hP
      have hD9 := hD
      exact W.vret hx hb hr (fun t ht hW => ⟨⟨(fu, upd bl ei (nI (i + 1))), rfl, (Or.inr ⟨ei, rfl, hei, by simp [c8], rfl⟩), (by rw [ht]; exact hP9), va_K.moved hW.alike hK, hD9⟩, hS.F ht⟩) hS.2.2 dX3_noteUse_30
    · skip
      have c8 := of_decide_eq_false (zb_0.mp c_3)
      refine lv_aload_n hx hb dX3_noteUse_14 rfl (lv_at hl 0 rfl) ?_
      refine va_get (D := (dC, dI)) (ci := 3) (v := .ref (a 20)) (C := RX3) (T := TX3) (N := 15) hx hb hts (by decide +kernel) hown hK hP 0 rfl rfl 7 (by decide) (hts (.fieldLink RX3 41 "HandlerOptimizer" "firstUse" "[I") (by decide +kernel)) (fun _ h9 => h9) rfl dX3_noteUse_15 ?_
      refine lv_iload_n hx hb dX3_noteUse_18 rfl (lv_at hl 1 rfl) ?_
      refine lv_iload_n hx hb dX3_noteUse_19 rfl (lv_at hl 2 rfl) ?_
      refine va_iast hx hb hK hP hD hS 20 0 rfl rfl (vp_in_nI (n := ei) (by omega) (by decide)) dX3_noteUse_20 (fun H locs hP hD hS => ?_)
      rw [nI_clamp (n := ei) (by omega)] at hP hD
      have hP : va_P (dC, dI) vwCl (w3 a cI cZ nk pa fa nc fo th tg nt tb te tk tt nu ub ue uk ut re ro (upd fu ei (nI i)) bl go ra rc ex tc es wy) H := hP
      have hD : va_D A (w3 a cI cZ nk pa fa nc fo th tg nt tb te tk tt nu ub ue uk ut re ro (upd fu ei (nI i)) bl go ra rc ex tc es wy) := hD
      refine lv_aload_n hx hb dX3_noteUse_21 rfl (lv_at hl 0 rfl) ?_
      refine va_get (D := (dC, dI)) (ci := 3) (v := .ref (a 21)) (C := RX3) (T := TX3) (N := 15) hx hb hts (by decide +kernel) hown hK hP 0 rfl rfl 8 (by decide) (hts (.fieldLink RX3 44 "HandlerOptimizer" "behindLastUse" "[I") (by decide +kernel)) (fun _ h9 => h9) rfl dX3_noteUse_22 ?_
      refine lv_iload_n hx hb dX3_noteUse_25 rfl (lv_at hl 1 rfl) ?_
      refine lv_iload_n hx hb dX3_noteUse_26 rfl (lv_at hl 2 rfl) ?_
      refine lv_iconst (v := 1) hx hb dX3_noteUse_27 (by decide) ?_
      refine lv_iadd hx hb dX3_noteUse_28 ?_
      refine zz_top (y := nI (i + 1)) (nI_add _ _) ?_
      refine va_iast hx hb hK hP hD hS 21 0 rfl rfl (vp_in_nI (n := ei) (by omega) (by decide)) dX3_noteUse_29 (fun H locs hP hD hS => ?_)
      rw [nI_clamp (n := ei) (by omega)] at hP hD
      have hP : va_P (dC, dI) vwCl (w3 a cI cZ nk pa fa nc fo th tg nt tb te tk tt nu ub ue uk ut re ro (upd fu ei (nI i)) (upd bl ei (nI (i + 1))) go ra rc ex tc es wy) H := hP
      have hD : va_D A (w3 a cI cZ nk pa fa nc fo th tg nt tb te tk tt nu ub ue uk ut re ro (upd fu ei (nI i)) (upd bl ei (nI (i + 1))) go ra rc ex tc es wy) := hD
      rw [← hQ]
      have hP9 := hP
      have hD9 := hD
      exact W.vret hx hb hr (fun t ht hW => ⟨⟨(upd fu ei (nI i), upd bl ei (nI (i + 1))), rfl, (Or.inr ⟨ei, rfl, hei, by simp [c8], rfl⟩), (by rw [ht]; exact hP9), va_K.moved hW.alike hK, hD9⟩, hS.F ht⟩) hS.2.2 dX3_noteUse_30
  · skip
    have c9 := c_1
    rw [← hQ]
    have hP9 := hP
    have hD9 := hD
    exact W.vret hx hb hr (fun t ht hW => ⟨⟨(fu, bl), rfl, (Or.inl ⟨c9, rfl, rfl⟩), (by rw [ht]; exact hP9), va_K.moved hW.alike hK, hD9⟩, hS.F ht⟩) hS.2.2 dX3_noteUse_5

set_option maxHeartbeats 4000000 in
set_option maxRecDepth 100000 in
theorem c_X3_findUses (l : Launch) (dC : Nat → ClassId) (dI : Nat → Nat → Nat) (cI cZ cJ : ClassId) (a : Nat → Nat) (nk : Nat) (pa : Nat → Int32) (fa : Nat → Int32) (nc : Nat) (fo : Nat → Int32) (th : Nat → Int32) (tg : Nat → Int32) (nt : Nat) (tb : Nat → Int32) (te : Nat → Int32) (tk : Nat → Int32) (tt : Nat → Int32) (nu : Nat) (ub : Nat → Int32) (ue : Nat → Int32) (uk : Nat → Int32) (ut : Nat → Int32) (re : Nat → Int32) (ro : Nat → Int32) (fu : Nat → Int32) (bl : Nat → Int32) (go : Nat → Int32) (ra : Nat → Int32) (rc : Nat) (ex : Int32) (tc : Int32) (es : Int32) (wy : Int64) (T : Nat → Nat → Nat) (up : Nat → Nat → Bool) (sz : Nat) (hg : g3 nk fa up nt tb te tk tt T) (hc : okC nk nc fo th tg) : Met l yX3_findUses wsX3_findUses ({ frames := 4, cells := 0, slots := 0, locals := 93 } : Room) (va_Pc [.ref (a 0)] (zWr (dC, dI) [(cI, .int), (cZ, .boolean), (cJ, .long)] (w3 a cI cZ nk pa fa nc fo th tg nt tb te tk tt nu ub ue uk ut re ro fu bl go ra rc ex tc es wy) sz)) (va_Qv (fun (u : (Nat → Int32) × (Nat → Int32) × Nat × (Nat → Int32) × (Nat → Int32)) => match u with | (re9, ro9, rc9, fu9, bl9) => (∀ j, j < 48 → re9 j = bI (RB nk nc fo th tg T nt up j)) ∧ uF nt (US nk nc fo th tg T nt up) nc fu9 bl9) (fun u t => match u with | (re9, ro9, rc9, fu9, bl9) => zWo (dC, dI) [(cI, .int), (cZ, .boolean), (cJ, .long)] (w3 a cI cZ nk pa fa nc fo th tg nt tb te tk tt nu ub ue uk ut re9 ro9 fu9 bl9 go ra rc9 ex tc es wy) (va_A (w3 a cI cZ nk pa fa nc fo th tg nt tb te tk tt nu ub ue uk ut re ro fu bl go ra rc ex tc es wy) sz) t) (va_A (w3 a cI cZ nk pa fa nc fo th tg nt tb te tk tt nu ub ue uk ut re ro fu bl go ra rc ex tc es wy) sz)) 0 0 (va_A (w3 a cI cZ nk pa fa nc fo th tg nt tb te tk tt nu ub ue uk ut re ro fu bl go ra rc ex tc es wy) sz) := by
  refine Met.ofW (cc := cX3_findUses) (maxL := 3) (ret := none) (by decide) rfl ?_
  intro p e s m args below meth c s₁ B hml hv
  obtain ⟨hav, hsz, ⟨hP, hK, hn⟩, hD0⟩ := hv
  have hx := B.exec
  have hb := B.bytes
  have hr := B.returns
  have hts := atoms_spec (ws := wsX3_findUses) B.pre
  have hown : s.vm.findClass RX3 = some m.cls := findClass_of_methodNamed B.named
  have hlocks := B.notSynchronized
  subst hsz
  have hD := hD0.self (sz := s.heap.size)
  generalize hAe : (va_A (w3 a cI cZ nk pa fa nc fo th tg nt tb te tk tt nu ub ue uk ut re ro fu bl go ra rc ex tc es wy) s.heap.size) = A at hD ⊢
  have hA : ∀ q : Nat, s.heap.size ≤ q → A q := fun q h => by rw [← hAe]; exact Or.inr h
  have hS : va_S A s.heap s.heap [] := va_S.rf
  generalize hQ : MQ below (va_Qv (fun (u : (Nat → Int32) × (Nat → Int32) × Nat × (Nat → Int32) × (Nat → Int32)) => match u with | (re9, ro9, rc9, fu9, bl9) => (∀ j, j < 48 → re9 j = bI (RB nk nc fo th tg T nt up j)) ∧ uF nt (US nk nc fo th tg T nt up) nc fu9 bl9) (fun u t => match u with | (re9, ro9, rc9, fu9, bl9) => zWo (dC, dI) [(cI, .int), (cZ, .boolean), (cJ, .long)] (w3 a cI cZ nk pa fa nc fo th tg nt tb te tk tt nu ub ue uk ut re9 ro9 fu9 bl9 go ra rc9 ex tc es wy) A t) A) args s 0 0 A = Q
  refine W.eq (g2 := entryFrame m ([.ref (a 0)] : List Value).toArray 3) (by rw [hav]) ?_
  have hl := lv_entry ([.ref (a 0)]) (n := 3) (Nat.le_of_ble_eq_true rfl)
  rw [lg_entry_eq]
  generalize (lg_sl ([.ref (a 0)]) ++ List.replicate (3 - (lg_sl ([.ref (a 0)])).length) Slot.unset).toArray = ls at hl ⊢
  have hl : lv_has ls 3 [(0, .ref (a 0))] := hl
  obtain ⟨H, hH⟩ : ∃ H, H = s.heap := ⟨_, rfl⟩
  obtain ⟨locs, hlo⟩ : ∃ q : List Loc, q = [] := ⟨_, rfl⟩
  have hP : va_P (dC, dI) vwCl (w3 a cI cZ nk pa fa nc fo th tg nt tb te tk tt nu ub ue uk ut re ro fu bl go ra rc ex tc es wy) H := by rw [hH]; exact hP
  have hS : va_S A s.heap H locs := by rw [hH, hlo]; exact hS
  refine zz_hl hH hlo ?_
  obtain ⟨hk01, hk8, hnt, hT, hO, hF, hU⟩ := id hg
  obtain ⟨hnc, hC⟩ := id hc
  refine lv_aload_n hx hb dX3_findUses_0 rfl (lv_at hl 0 rfl) ?_
  have hDc := hD
  have hFc := va_free (wc := w3 a cI cZ nk pa fa nc fo th tg nt tb te tk tt nu ub ue uk ut re ro fu bl go ra rc ex tc es wy) hD hS hA [0, 1, 2, 3, 4, 5, 6, 7, 8, 9, 10, 11, 12, 13, 14, 15, 16, 17, 18, 19, 20, 21, 22, 23] rfl
  refine va_callv (va_runV (As := []) (rest := []) ⟨hx, hb, hml, hown, hts⟩ (c_X3_findReached l dC dI cI cZ cJ a nk pa fa nc fo th tg nt tb te tk tt nu ub ue uk ut re ro fu bl go ra rc ex tc es wy T up H.size (by first | assumption | omega) (by first | assumption | omega)) (cwV 0 hts gX3_findUses_X3_findReached rfl rfl rfl (by decide +kernel) ⟨Nat.le_of_ble_eq_true rfl, Nat.le_of_ble_eq_true rfl⟩) ⟨zWr_blind, va_recv hK hP (ci := 3) (q0 := 0) rfl rfl, zWr_at hP hK hn (hDc.weaken (fun _ _ _ _ => trivial))⟩ rfl rfl hl.1 rfl (lv_room (Nat.le_of_ble_eq_true rfl)) dX3_findUses_1 ⟨Nat.le_of_ble_eq_true rfl, Nat.le_of_ble_eq_true rfl⟩) hS (fun q _ h => hFc q h) hFc (fun u_9 t H1 locs ht hvm hw hB hz1 hk1 hS => ?_)
  obtain ⟨re_n, ro_n, rc_n⟩ := u_9
  dsimp only at hw hB
  obtain ⟨hP1, -, hD1⟩ := hB
  rw [ht] at hP1
  obtain ⟨hP, hD⟩ := va_join (wr := []) (w1 := w3 a cI cZ nk pa fa nc fo th tg nt tb te tk tt nu ub ue uk ut re_n ro_n fu bl go ra rc_n ex tc es wy) hP hD [0, 1, 2, 3, 4, 5, 6, 7, 8, 9, 10, 11, 12, 13, 14, 15, 16, 17, 18, 19, 20, 21, 22, 23] [] rfl rfl (by decide) (by decide) hk1 hFc hP1 hD1
  generalize H1 = H at hP hS ⊢
  have hP : va_P (dC, dI) vwCl (w3 a cI cZ nk pa fa nc fo th tg nt tb te tk tt nu ub ue uk ut re_n ro_n fu bl go ra rc_n ex tc es wy) H := hP
  have hD : va_D A (w3 a cI cZ nk pa fa nc fo th tg nt tb te tk tt nu ub ue uk ut re_n ro_n fu bl go ra rc_n ex tc es wy) := hD
  have hre := hw
  refine lv_iconst (v := 0) hx hb dX3_findUses_4 (by decide) ?_
  refine lv_istore_n (lv' := [(1, .int 0), (0, .ref (a 0))]) hx hb dX3_findUses_5 rfl hl (by decide) rfl (fun ls hl => ?_)
  have J_6 : ∀ (n9 : Nat) (y : Nat) (gbl : Nat → Int32) (H : Heap) (locs : List Loc) (ls : Array Slot), (y ≤ 24) → (∀ j, j < y → gbl j = 0) → 24 - y < n9 → va_P (dC, dI) vwCl (w3 a cI cZ nk pa fa nc fo th tg nt tb te tk tt nu ub ue uk ut re_n ro_n fu gbl go ra rc_n ex tc es wy) H → va_D A (w3 a cI cZ nk pa fa nc fo th tg nt tb te tk tt nu ub ue uk ut re_n ro_n fu gbl go ra rc_n ex tc es wy) → va_S A s.heap H locs → lv_has ls 3 [(0, .ref (a 0)), (1, .int (nI y))] → W p l e (headSpec wsX3_findUses ({ frames := 4, cells := 0, slots := 0, locals := 93 } : Room)).room s m args below meth c H locs 0 0 Q (F0 m 6 ls []) := by
    intro n9
    induction n9 with
    | zero => intro y gbl H locs ls hy hz hmu; exact absurd hmu (Nat.not_lt_zero _)
    | succ n9 ih_6 =>
      intro y gbl H locs ls hy hz hmu hP hD hS hl
      refine lv_iload_n hx hb dX3_findUses_6 rfl (lv_at hl 1 rfl) ?_
      refine lv_bipush (v := 24) hx hb dX3_findUses_7 (by decide) ?_
      refine lv_icmp_ge (tgt := 25) hx hb dX3_findUses_9 (by decide) (fun c_5 => ?_) (fun c_5 => ?_)
      · skip
        have c_5 := (zz_get (a := y) (b := 24) (by omega) (by omega)).mp c_5
        refine lv_iconst (v := 0) hx hb dX3_findUses_25 (by decide) ?_
        refine lv_istore_n (lv' := [(1, .int 0), (0, .ref (a 0))]) hx hb dX3_findUses_26 rfl hl (by decide) rfl (fun ls hl => ?_)
        have J_27 : ∀ (n9 : Nat) (y2 : Nat) (gfu : Nat → Int32) (gbl2 : Nat → Int32) (H : Heap) (locs : List Loc) (ls : Array Slot), (y2 ≤ nc) → (u3 nt (US nk nc fo th tg T nt up) y2 (fun _ => false) gfu gbl2) → nc - y2 < n9 → va_P (dC, dI) vwCl (w3 a cI cZ nk pa fa nc fo th tg nt tb te tk tt nu ub ue uk ut re_n ro_n gfu gbl2 go ra rc_n ex tc es wy) H → va_D A (w3 a cI cZ nk pa fa nc fo th tg nt tb te tk tt nu ub ue uk ut re_n ro_n gfu gbl2 go ra rc_n ex tc es wy) → va_S A s.heap H locs → lv_has ls 3 [(0, .ref (a 0)), (1, .int (nI y2))] → W p l e (headSpec wsX3_findUses ({ frames := 4, cells := 0, slots := 0, locals := 93 } : Room)).room s m args below meth c H locs 0 0 Q (F0 m 27 ls []) := by
          intro n9
          induction n9 with
          | zero => intro y2 gfu gbl2 H locs ls hy2 hu hmu; exact absurd hmu (Nat.not_lt_zero _)
          | succ n9 ih_27 =>
            intro y2 gfu gbl2 H locs ls hy2 hu hmu hP hD hS hl
            refine lv_iload_n hx hb dX3_findUses_27 rfl (lv_at hl 1 rfl) ?_
            refine lv_aload_n hx hb dX3_findUses_28 rfl (lv_at hl 0 rfl) ?_
            refine va_get (D := (dC, dI)) (ci := 3) (v := .ref (a 4)) (C := RX3) (T := TX3) (N := 15) hx hb hts (by decide +kernel) hown hK hP 0 rfl rfl 1 (by decide) (hts (.fieldLink RX3 19 "HandlerOptimizer" "code" "LHandlerOptimizer$Code;") (by decide +kernel)) (fun _ h9 => h9) rfl dX3_findUses_29 ?_
            refine va_getN (D := (dC, dI)) (ci := 0) (v := .int (nI nc)) (C := RX0) (T := TX0) (N := 4) hx hb hts (by decide +kernel) hown hK hP 4 rfl rfl 3 (by decide) (va_Nw.use rfl (hn (.fieldLinkNest RX3 99 "HandlerOptimizer$Code" "count" "I" "HandlerOptimizer") (by decide +kernel))) (fun _ h9 => h9) rfl dX3_findUses_32 ?_
            refine lv_icmp_ge (tgt := 90) hx hb dX3_findUses_35 (by decide) (fun c_6 => ?_) (fun c_6 => ?_)
            · skip
              have c_6 := (zz_get (a := y2) (b := nc) (by omega) (by omega)).mp c_6
              rw [← hQ]
              have hP9 := hP
              have hD9 := hD
              exact W.vret hx hb hr (fun t ht hW => ⟨⟨(re_n, ro_n, rc_n, gfu, gbl2), rfl, (⟨hre, u3_end (by rw [show y2 = nc from by omega] at hu; exact hu)⟩), (by rw [ht]; exact hP9), va_K.moved hW.alike hK, hD9⟩, hS.F ht⟩) hS.2.2 dX3_findUses_90
            · skip
              have c_6 := (zz_gef (a := y2) (b := nc) (by omega) (by omega)).mp c_6
              refine lv_iconst (v := 0) hx hb dX3_findUses_38 (by decide) ?_
              refine lv_istore_n (lv' := [(2, .int 0), (0, .ref (a 0)), (1, .int (nI y2))]) hx hb dX3_findUses_39 rfl hl (by decide) rfl (fun ls hl => ?_)
              have J_40 : ∀ (n9 : Nat) (z : Nat) (gfu3 : Nat → Int32) (gbl3 : Nat → Int32) (H : Heap) (locs : List Loc) (ls : Array Slot), (z ≤ nk) → (u3 nt (US nk nc fo th tg T nt up) y2 (bU (RB nk nc fo th tg T nt up) th (tkf T nt up) y2 z) gfu3 gbl3) → nk - z < n9 → va_P (dC, dI) vwCl (w3 a cI cZ nk pa fa nc fo th tg nt tb te tk tt nu ub ue uk ut re_n ro_n gfu3 gbl3 go ra rc_n ex tc es wy) H → va_D A (w3 a cI cZ nk pa fa nc fo th tg nt tb te tk tt nu ub ue uk ut re_n ro_n gfu3 gbl3 go ra rc_n ex tc es wy) → va_S A s.heap H locs → lv_has ls 3 [(0, .ref (a 0)), (1, .int (nI y2)), (2, .int (nI z))] → W p l e (headSpec wsX3_findUses ({ frames := 4, cells := 0, slots := 0, locals := 93 } : Room)).room s m args below meth c H locs 0 0 Q (F0 m 40 ls []) := by
                intro n9
                induction n9 with
                | zero => intro z gfu3 gbl3 H locs ls hz3 hu3 hmu; exact absurd hmu (Nat.not_lt_zero _)
                | succ n9 ih_40 =>
                  intro z gfu3 gbl3 H locs ls hz3 hu3 hmu hP hD hS hl
                  refine lv_iload_n hx hb dX3_findUses_40 rfl (lv_at hl 2 rfl) ?_
                  refine lv_aload_n hx hb dX3_findUses_41 rfl (lv_at hl 0 rfl) ?_
                  refine va_get (D := (dC, dI)) (ci := 3) (v := .ref (a 1)) (C := RX3) (T := TX3) (N := 15) hx hb hts (by decide +kernel) hown hK hP 0 rfl rfl 0 (by decide) (hts (.fieldLink RX3 12 "HandlerOptimizer" "kinds" "LHandlerOptimizer$Kinds;") (by decide +kernel)) (fun _ h9 => h9) rfl dX3_findUses_42 ?_
                  refine va_getN (D := (dC, dI)) (ci := 1) (v := .int (nI nk)) (C := RX1) (T := TX1) (N := 3) hx hb hts (by decide +kernel) hown hK hP 1 rfl rfl 2 (by decide) (va_Nw.use rfl (hn (.fieldLinkNest RX3 76 "HandlerOptimizer$Kinds" "count" "I" "HandlerOptimizer") (by decide +kernel))) (fun _ h9 => h9) rfl dX3_findUses_45 ?_
                  refine lv_icmp_ge (tgt := 84) hx hb dX3_findUses_48 (by decide) (fun c_7 => ?_) (fun c_7 => ?_)
                  · skip
                    have c_7 := (zz_get (a := z) (b := nk) (by omega) (by omega)).mp c_7
                    refine lv_iinc (v := nI (y2 + 1)) (lv' := [(1, .int (nI (y2 + 1))), (0, .ref (a 0)), (2, .int (nI z))]) hx hb dX3_findUses_84 hl (k := 1) rfl (zz_inc y2 1) (by decide) rfl (fun ls hl => ?_)
                    refine lv_goto (tgt := 27) hx hb dX3_findUses_87 (by decide) ?_
                    exact ih_27 (y2 + 1) gfu3 gbl3 _ _ _ (by first | assumption | omega) (u3_next hu3 (fun e he => by rw [show z = nk from by omega]; rfl)) (by omega) hP hD hS (lv_sub hl [1, 0] rfl)
                  · skip
                    have c_7 := (zz_gef (a := z) (b := nk) (by omega) (by omega)).mp c_7
                    refine lv_aload_n hx hb dX3_findUses_51 rfl (lv_at hl 0 rfl) ?_
                    refine lv_iload_n hx hb dX3_findUses_52 rfl (lv_at hl 1 rfl) ?_
                    refine lv_iload_n hx hb dX3_findUses_53 rfl (lv_at hl 2 rfl) ?_
                    refine va_calli (va_runV (As := [.int (nI y2), .int (nI z)]) (rest := []) ⟨hx, hb, hml, hown, hts⟩ (c_X3_isThrown l dC dI cI cZ cJ a nk pa fa nc fo th tg nt tb te tk tt nu ub ue uk ut re_n ro_n gfu3 gbl3 go ra rc_n ex tc es wy y2 z (RB nk nc fo th tg T nt up) (by omega) (by omega) (hre)) (cwV 2 hts gX3_findUses_X3_isThrown rfl rfl rfl (by decide +kernel) ⟨Nat.le_of_ble_eq_true rfl, Nat.le_of_ble_eq_true rfl⟩) ⟨zPre_blind, va_recv hK hP (ci := 3) (q0 := 0) rfl rfl, zPre_at hP hK hn⟩ rfl rfl hl.1 rfl (lv_room (Nat.le_of_ble_eq_true rfl)) dX3_findUses_54 ⟨Nat.le_of_ble_eq_true rfl, Nat.le_of_ble_eq_true rfl⟩) hS (fun _ _ h => h.elim) (fun _ h => h.elim) (fun r_8 u_9 t H locs ht hvm hw hB hz1 hk1 hS => ?_)
                    have hP := zkeep hP hk1
                    subst hw
                    refine lv_if_eq (tgt := 78) hx hb dX3_findUses_57 (by decide) (fun c_9 => ?_) (fun c_9 => ?_)
                    · skip
                      have c9 := zb_0.mp c_9
                      refine lv_iinc (v := nI (z + 1)) (lv' := [(2, .int (nI (z + 1))), (0, .ref (a 0)), (1, .int (nI y2))]) hx hb dX3_findUses_78 hl (k := 2) rfl (zz_inc z 1) (by decide) rfl (fun ls hl => ?_)
                      refine lv_goto (tgt := 40) hx hb dX3_findUses_81 (by decide) ?_
                      exact ih_40 (z + 1) gfu3 gbl3 _ _ _ (by first | assumption | omega) (by first | exact u3_congr hu3 (fun e he => bU_s0 c9) | exact hu9) (by omega) hP hD hS (lv_sub hl [1, 2, 0] rfl)
                    · skip
                      have c9 := zb_1.mp c_9
                      refine lv_aload_n hx hb dX3_findUses_60 rfl (lv_at hl 0 rfl) ?_
                      refine lv_aload_n hx hb dX3_findUses_61 rfl (lv_at hl 0 rfl) ?_
                      refine va_get (D := (dC, dI)) (ci := 3) (v := .ref (a 8)) (C := RX3) (T := TX3) (N := 15) hx hb hts (by decide +kernel) hown hK hP 0 rfl rfl 2 (by decide) (hts (.fieldLink RX3 26 "HandlerOptimizer" "table" "LHandlerOptimizer$Table;") (by decide +kernel)) (fun _ h9 => h9) rfl dX3_findUses_62 ?_
                      refine lv_aload_n hx hb dX3_findUses_65 rfl (lv_at hl 0 rfl) ?_
                      refine va_get (D := (dC, dI)) (ci := 3) (v := .ref (a 1)) (C := RX3) (T := TX3) (N := 15) hx hb hts (by decide +kernel) hown hK hP 0 rfl rfl 0 (by decide) (hts (.fieldLink RX3 12 "HandlerOptimizer" "kinds" "LHandlerOptimizer$Kinds;") (by decide +kernel)) (fun _ h9 => h9) rfl dX3_findUses_66 ?_
                      refine lv_iload_n hx hb dX3_findUses_69 rfl (lv_at hl 1 rfl) ?_
                      refine lv_iload_n hx hb dX3_findUses_70 rfl (lv_at hl 2 rfl) ?_
                      have hPc := hP.sub (ws' := wT (a 8) (a 9) (a 10) (a 11) (a 12) cI nt tb te tk tt ++ wK (a 1) (a 2) (a 3) cI nk pa fa) [8, 9, 10, 11, 12, 1, 2, 3] rfl
                      refine va_calli (va_runVN (As := [.ref (a 1), .int (nI y2), .int (nI z)]) (rest := [.ref (a 0)]) ⟨hx, hb, hml, hown, hts⟩ (c_X2_firstTaker l dC dI cI cZ cJ (a 8) (a 9) (a 10) (a 11) (a 12) nt tb te tk tt (a 1) (a 2) (a 3) nk pa fa y2 z T up (by omega) (by first | assumption | omega) (by first | assumption | omega) (by first | assumption | omega) (by first | assumption | omega) (by first | assumption | omega) (by first | assumption | omega)) ⟨va_cnB 3 hts gX3_findUses_X2_firstTaker_n146 rfl rfl rfl (hn (.methodLinkNest RX3 146 yX2_firstTaker "HandlerOptimizer") (by decide +kernel)) (hts (.initialized RX2) (by decide +kernel)) (by decide +kernel) ⟨Nat.le_of_ble_eq_true rfl, Nat.le_of_ble_eq_true rfl⟩, hts (.instanceMethod yX2_firstTaker) (by decide +kernel), hts (.selects RX2 yX2_firstTaker yX2_firstTaker) (by decide +kernel)⟩ ⟨zPre_blind, va_recv hK hPc (ci := 2) (q0 := 0) rfl rfl, zPre_at hPc hK hn⟩ rfl rfl hl.1 rfl (lv_room (Nat.le_of_ble_eq_true rfl)) dX3_findUses_71 ⟨Nat.le_of_ble_eq_true rfl, Nat.le_of_ble_eq_true rfl⟩) hS (fun _ _ h => h.elim) (fun _ h => h.elim) (fun r_10 u_9 t H locs ht hvm hw hB hz1 hk1 hS => ?_)
                      have hP := zkeep hP hk1
                      subst hw
                      refine lv_iload_n hx hb dX3_findUses_74 rfl (lv_at hl 1 rfl) ?_
                      have hDc := hD
                      have hFc := va_free (wc := w3 a cI cZ nk pa fa nc fo th tg nt tb te tk tt nu ub ue uk ut re_n ro_n gfu3 gbl3 go ra rc_n ex tc es wy) hD hS hA [0, 1, 2, 3, 4, 5, 6, 7, 8, 9, 10, 11, 12, 13, 14, 15, 16, 17, 18, 19, 20, 21, 22, 23] rfl
                      refine va_callv (va_runV (As := [.int (tkI T nt up y2 z), .int (nI y2)]) (rest := []) ⟨hx, hb, hml, hown, hts⟩ (c_X3_noteUse l dC dI cI cZ cJ a nk pa fa nc fo th tg nt tb te tk tt nu ub ue uk ut re_n ro_n gfu3 gbl3 go ra rc_n ex tc es wy (tkI T nt up y2 z) y2 H.size (by
                            by_cases q : tkf T nt up y2 z < nt
                            · exact Or.inr ⟨_, by omega, tkI_at q⟩
                            · exact Or.inl (by simp [tkI, q]))) (cwV 2 hts gX3_findUses_X3_noteUse rfl rfl rfl (by decide +kernel) ⟨Nat.le_of_ble_eq_true rfl, Nat.le_of_ble_eq_true rfl⟩) ⟨zWr_blind, va_recv hK hP (ci := 3) (q0 := 0) rfl rfl, zWr_at hP hK hn (hDc.weaken (fun _ _ _ _ => trivial))⟩ rfl rfl hl.1 rfl (lv_room (Nat.le_of_ble_eq_true rfl)) dX3_findUses_75 ⟨Nat.le_of_ble_eq_true rfl, Nat.le_of_ble_eq_true rfl⟩) hS (fun q _ h => hFc q h) hFc (fun u_9 t H1 locs ht hvm hw hB hz1 hk1 hS => ?_)
                      obtain ⟨fu_n, bl_n⟩ := u_9
                      dsimp only at hw hB
                      obtain ⟨hP1, -, hD1⟩ := hB
                      rw [ht] at hP1
                      obtain ⟨hP, hD⟩ := va_join (wr := []) (w1 := w3 a cI cZ nk pa fa nc fo th tg nt tb te tk tt nu ub ue uk ut re_n ro_n fu_n bl_n go ra rc_n ex tc es wy) hP hD [0, 1, 2, 3, 4, 5, 6, 7, 8, 9, 10, 11, 12, 13, 14, 15, 16, 17, 18, 19, 20, 21, 22, 23] [] rfl rfl (by decide) (by decide) hk1 hFc hP1 hD1
                      generalize H1 = H at hP hS ⊢
                      have hP : va_P (dC, dI) vwCl (w3 a cI cZ nk pa fa nc fo th tg nt tb te tk tt nu ub ue uk ut re_n ro_n fu_n bl_n go ra rc_n ex tc es wy) H := hP
                      have hD : va_D A (w3 a cI cZ nk pa fa nc fo th tg nt tb te tk tt nu ub ue uk ut re_n ro_n fu_n bl_n go ra rc_n ex tc es wy) := hD
                      have hu9 : u3 nt (US nk nc fo th tg T nt up) y2 (bU (RB nk nc fo th tg T nt up) th (tkf T nt up) y2 (z + 1)) fu_n bl_n := by
                        rcases hw with ⟨q1, q2, q3⟩ | ⟨ei, q1, q2, q3, q4⟩
                        · subst q2; subst q3
                          refine u3_congr hu3 (fun e he => ?_)
                          rw [bU_s1 c9, decide_eq_false (fun q => tkI_m1 (by omega) q1 (by omega))]; simp
                        · have hlt : tkf T nt up y2 z < nt := tkI_lt (by omega) (by rw [q1]; exact nI_ne_m1 (by omega))
                          have he9 : ei = tkf T nt up y2 z := (nI_eq (by omega) (by omega)).mp (q1.symm.trans (tkI_at hlt))
                          subst q3; subst q4
                          refine u3_congr (u3_note hu3 (x := ei) (by omega) (by omega)) (fun e he => ?_)
                          rw [bU_s1 c9, he9]
                      refine lv_iinc (v := nI (z + 1)) (lv' := [(2, .int (nI (z + 1))), (0, .ref (a 0)), (1, .int (nI y2))]) hx hb dX3_findUses_78 hl (k := 2) rfl (zz_inc z 1) (by decide) rfl (fun ls hl => ?_)
                      refine lv_goto (tgt := 40) hx hb dX3_findUses_81 (by decide) ?_
                      exact ih_40 (z + 1) fu_n bl_n _ _ _ (by first | assumption | omega) (by first | exact u3_congr hu3 (fun e he => bU_s0 c9) | exact hu9) (by omega) hP hD hS (lv_sub hl [1, 2, 0] rfl)
              exact J_40 _ 0 gfu gbl2 _ _ _ (by first | assumption | omega) (u3_congr hu (fun e he => by simp [bU, an])) (Nat.lt_succ_self _) hP hD hS (lv_sub hl [1, 2, 0] rfl)
        exact J_27 _ 0 fu gbl _ _ _ (by first | assumption | omega) (u3_0 (fun j hj => hz j (by omega)) hnt) (Nat.lt_succ_self _) hP hD hS (lv_sub hl [1, 0] rfl)
      · skip
        have c_5 := (zz_gef (a := y) (b := 24) (by omega) (by omega)).mp c_5
        refine lv_aload_n hx hb dX3_findUses_12 rfl (lv_at hl 0 rfl) ?_
        refine va_get (D := (dC, dI)) (ci := 3) (v := .ref (a 21)) (C := RX3) (T := TX3) (N := 15) hx hb hts (by decide +kernel) hown hK hP 0 rfl rfl 8 (by decide) (hts (.fieldLink RX3 44 "HandlerOptimizer" "behindLastUse" "[I") (by decide +kernel)) (fun _ h9 => h9) rfl dX3_findUses_13 ?_
        refine lv_iload_n hx hb dX3_findUses_16 rfl (lv_at hl 1 rfl) ?_
        refine lv_iconst (v := 0) hx hb dX3_findUses_17 (by decide) ?_
        refine va_iast hx hb hK hP hD hS 21 0 rfl rfl (vp_in_nI (n := y) (by omega) (by decide)) dX3_findUses_18 (fun H locs hP hD hS => ?_)
        rw [nI_clamp (n := y) (by omega)] at hP hD
        have hP : va_P (dC, dI) vwCl (w3 a cI cZ nk pa fa nc fo th tg nt tb te tk tt nu ub ue uk ut re_n ro_n fu (upd gbl y 0) go ra rc_n ex tc es wy) H := hP
        have hD : va_D A (w3 a cI cZ nk pa fa nc fo th tg nt tb te tk tt nu ub ue uk ut re_n ro_n fu (upd gbl y 0) go ra rc_n ex tc es wy) := hD
        refine lv_iinc (v := nI (y + 1)) (lv' := [(1, .int (nI (y + 1))), (0, .ref (a 0))]) hx hb dX3_findUses_19 hl (k := 1) rfl (zz_inc y 1) (by decide) rfl (fun ls hl => ?_)
        refine lv_goto (tgt := 6) hx hb dX3_findUses_22 (by decide) ?_
        exact ih_6 (y + 1) (upd gbl y 0) _ _ _ (by first | assumption | omega) (fun j hj => by
            by_cases d : j = y
            · subst d; simp [upd]
            · simp only [upd, if_neg d]; exact hz j (by omega)) (by omega) hP hD hS (lv_sub hl [1, 0] rfl)
  exact J_6 _ 0 bl _ _ _ (by first | assumption | omega) lt_0 (Nat.lt_succ_self _) hP hD hS (lv_sub hl [1, 0] rfl)

set_option maxHeartbeats 4000000 in
set_option maxRecDepth 100000 in
theorem c_X3_leaving (l : Launch) (dC : Nat → ClassId) (dI : Nat → Nat → Nat) (cI cZ cJ : ClassId) (a : Nat → Nat) (nk : Nat) (pa : Nat → Int32) (fa : Nat → Int32) (nc : Nat) (fo : Nat → Int32) (th : Nat → Int32) (tg : Nat → Int32) (nt : Nat) (tb : Nat → Int32) (te : Nat → Int32) (tk : Nat → Int32) (tt : Nat → Int32) (nu : Nat) (ub : Nat → Int32) (ue : Nat → Int32) (uk : Nat → Int32) (ut : Nat → Int32) (re : Nat → Int32) (ro : Nat → Int32) (fu : Nat → Int32) (bl : Nat → Int32) (go : Nat → Int32) (ra : Nat → Int32) (rc : Nat) (ex : Int32) (tc : Int32) (es : Int32) (wy : Int64) (T : Nat → Nat → Nat) (up : Nat → Nat → Bool) (sz : Nat) (hg : g3 nk fa up nt tb te tk tt T) (hc : okC nk nc fo th tg) : Met l yX3_leaving wsX3_leaving ({ frames := 4, cells := 0, slots := 0, locals := 93 } : Room) (va_Pc [.ref (a 0)] (zWr (dC, dI) [(cI, .int), (cZ, .boolean), (cJ, .long)] (w3 a cI cZ nk pa fa nc fo th tg nt tb te tk tt nu ub ue uk ut re ro fu bl go ra rc ex tc es wy) sz)) (va_Qi (fun (r : Int32) (u : (Nat → Int32) × (Nat → Int32) × Nat) => match u with | (re9, ro9, rc9) => r = lvI (RB nk nc fo th tg T nt up) th (tkf T nt up) nt nk nc) (fun u t => match u with | (re9, ro9, rc9) => zWo (dC, dI) [(cI, .int), (cZ, .boolean), (cJ, .long)] (w3 a cI cZ nk pa fa nc fo th tg nt tb te tk tt nu ub ue uk ut re9 ro9 fu bl go ra rc9 ex tc es wy) (va_A (w3 a cI cZ nk pa fa nc fo th tg nt tb te tk tt nu ub ue uk ut re ro fu bl go ra rc ex tc es wy) sz) t) (va_A (w3 a cI cZ nk pa fa nc fo th tg nt tb te tk tt nu ub ue uk ut re ro fu bl go ra rc ex tc es wy) sz)) 0 0 (va_A (w3 a cI cZ nk pa fa nc fo th tg nt tb te tk tt nu ub ue uk ut re ro fu bl go ra rc ex tc es wy) sz) := by
  refine Met.ofW (cc := cX3_leaving) (maxL := 4) (ret := (some .int)) (by decide) rfl ?_
  intro p e s m args below meth c s₁ B hml hv
  obtain ⟨hav, hsz, ⟨hP, hK, hn⟩, hD0⟩ := hv
  have hx := B.exec
  have hb := B.bytes
  have hr := B.returns
  have hts := atoms_spec (ws := wsX3_leaving) B.pre
  have hown : s.vm.findClass RX3 = some m.cls := findClass_of_methodNamed B.named
  have hlocks := B.notSynchronized
  subst hsz
  have hD := hD0.self (sz := s.heap.size)
  generalize hAe : (va_A (w3 a cI cZ nk pa fa nc fo th tg nt tb te tk tt nu ub ue uk ut re ro fu bl go ra rc ex tc es wy) s.heap.size) = A at hD ⊢
  have hA : ∀ q : Nat, s.heap.size ≤ q → A q := fun q h => by rw [← hAe]; exact Or.inr h
  have hS : va_S A s.heap s.heap [] := va_S.rf
  generalize hQ : MQ below (va_Qi (fun (r : Int32) (u : (Nat → Int32) × (Nat → Int32) × Nat) => match u with | (re9, ro9, rc9) => r = lvI (RB nk nc fo th tg T nt up) th (tkf T nt up) nt nk nc) (fun u t => match u with | (re9, ro9, rc9) => zWo (dC, dI) [(cI, .int), (cZ, .boolean), (cJ, .long)] (w3 a cI cZ nk pa fa nc fo th tg nt tb te tk tt nu ub ue uk ut re9 ro9 fu bl go ra rc9 ex tc es wy) A t) A) args s 0 0 A = Q
  refine W.eq (g2 := entryFrame m ([.ref (a 0)] : List Value).toArray 4) (by rw [hav]) ?_
  have hl := lv_entry ([.ref (a 0)]) (n := 4) (Nat.le_of_ble_eq_true rfl)
  rw [lg_entry_eq]
  generalize (lg_sl ([.ref (a 0)]) ++ List.replicate (4 - (lg_sl ([.ref (a 0)])).length) Slot.unset).toArray = ls at hl ⊢
  have hl : lv_has ls 4 [(0, .ref (a 0))] := hl
  obtain ⟨H, hH⟩ : ∃ H, H = s.heap := ⟨_, rfl⟩
  obtain ⟨locs, hlo⟩ : ∃ q : List Loc, q = [] := ⟨_, rfl⟩
  have hP : va_P (dC, dI) vwCl (w3 a cI cZ nk pa fa nc fo th tg nt tb te tk tt nu ub ue uk ut re ro fu bl go ra rc ex tc es wy) H := by rw [hH]; exact hP
  have hS : va_S A s.heap H locs := by rw [hH, hlo]; exact hS
  refine zz_hl hH hlo ?_
  obtain ⟨hk01, hk8, hnt, hT, hO, hF, hU⟩ := id hg
  obtain ⟨hnc, hC⟩ := id hc
  refine lv_aload_n hx hb dX3_leaving_0 rfl (lv_at hl 0 rfl) ?_
  have hDc := hD
  have hFc := va_free (wc := w3 a cI cZ nk pa fa nc fo th tg nt tb te tk tt nu ub ue uk ut re ro fu bl go ra rc ex tc es wy) hD hS hA [0, 1, 2, 3, 4, 5, 6, 7, 8, 9, 10, 11, 12, 13, 14, 15, 16, 17, 18, 19, 20, 21, 22, 23] rfl
  refine va_callv (va_runV (As := []) (rest := []) ⟨hx, hb, hml, hown, hts⟩ (c_X3_findReached l dC dI cI cZ cJ a nk pa fa nc fo th tg nt tb te tk tt nu ub ue uk ut re ro fu bl go ra rc ex tc es wy T up H.size (by first | assumption | omega) (by first | assumption | omega)) (cwV 0 hts gX3_leaving_X3_findReached rfl rfl rfl (by decide +kernel) ⟨Nat.le_of_ble_eq_true rfl, Nat.le_of_ble_eq_true rfl⟩) ⟨zWr_blind, va_recv hK hP (ci := 3) (q0 := 0) rfl rfl, zWr_at hP hK hn (hDc.weaken (fun _ _ _ _ => trivial))⟩ rfl rfl hl.1 rfl (lv_room (Nat.le_of_ble_eq_true rfl)) dX3_leaving_1 ⟨Nat.le_of_ble_eq_true rfl, Nat.le_of_ble_eq_true rfl⟩) hS (fun q _ h => hFc q h) hFc (fun u_9 t H1 locs ht hvm hw hB hz1 hk1 hS => ?_)
  obtain ⟨re_n, ro_n, rc_n⟩ := u_9
  dsimp only at hw hB
  obtain ⟨hP1, -, hD1⟩ := hB
  rw [ht] at hP1
  obtain ⟨hP, hD⟩ := va_join (wr := []) (w1 := w3 a cI cZ nk pa fa nc fo th tg nt tb te tk tt nu ub ue uk ut re_n ro_n fu bl go ra rc_n ex tc es wy) hP hD [0, 1, 2, 3, 4, 5, 6, 7, 8, 9, 10, 11, 12, 13, 14, 15, 16, 17, 18, 19, 20, 21, 22, 23] [] rfl rfl (by decide) (by decide) hk1 hFc hP1 hD1
  generalize H1 = H at hP hS ⊢
  have hP : va_P (dC, dI) vwCl (w3 a cI cZ nk pa fa nc fo th tg nt tb te tk tt nu ub ue uk ut re_n ro_n fu bl go ra rc_n ex tc es wy) H := hP
  have hD : va_D A (w3 a cI cZ nk pa fa nc fo th tg nt tb te tk tt nu ub ue uk ut re_n ro_n fu bl go ra rc_n ex tc es wy) := hD
  have hre := hw
  refine lv_iconst (v := 0) hx hb dX3_leaving_4 (by decide) ?_
  refine lv_istore_n (lv' := [(1, .int 0), (0, .ref (a 0))]) hx hb dX3_leaving_5 rfl hl (by decide) rfl (fun ls hl => ?_)
  refine lv_iconst (v := 0) hx hb dX3_leaving_6 (by decide) ?_
  refine lv_istore_n (lv' := [(2, .int 0), (1, .int 0), (0, .ref (a 0))]) hx hb dX3_leaving_7 rfl hl (by decide) rfl (fun ls hl => ?_)
  have J_8 : ∀ (n9 : Nat) (y : Nat) (g : Int32) (H : Heap) (locs : List Loc) (ls : Array Slot), (y ≤ nc) → (g = it (fun i s => it (lvG (RB nk nc fo th tg T nt up) th (tkf T nt up) nt i) nk s) y 0) → nc - y < n9 → va_P (dC, dI) vwCl (w3 a cI cZ nk pa fa nc fo th tg nt tb te tk tt nu ub ue uk ut re_n ro_n fu bl go ra rc_n ex tc es wy) H → va_D A (w3 a cI cZ nk pa fa nc fo th tg nt tb te tk tt nu ub ue uk ut re_n ro_n fu bl go ra rc_n ex tc es wy) → va_S A s.heap H locs → lv_has ls 4 [(0, .ref (a 0)), (1, .int g), (2, .int (nI y))] → W p l e (headSpec wsX3_leaving ({ frames := 4, cells := 0, slots := 0, locals := 93 } : Room)).room s m args below meth c H locs 0 0 Q (F0 m 8 ls []) := by
    intro n9
    induction n9 with
    | zero => intro y g H locs ls hy hs9 hmu; exact absurd hmu (Nat.not_lt_zero _)
    | succ n9 ih_8 =>
      intro y g H locs ls hy hs9 hmu hP hD hS hl
      refine lv_iload_n hx hb dX3_leaving_8 rfl (lv_at hl 2 rfl) ?_
      refine lv_aload_n hx hb dX3_leaving_9 rfl (lv_at hl 0 rfl) ?_
      refine va_get (D := (dC, dI)) (ci := 3) (v := .ref (a 4)) (C := RX3) (T := TX3) (N := 15) hx hb hts (by decide +kernel) hown hK hP 0 rfl rfl 1 (by decide) (hts (.fieldLink RX3 19 "HandlerOptimizer" "code" "LHandlerOptimizer$Code;") (by decide +kernel)) (fun _ h9 => h9) rfl dX3_leaving_10 ?_
      refine va_getN (D := (dC, dI)) (ci := 0) (v := .int (nI nc)) (C := RX0) (T := TX0) (N := 4) hx hb hts (by decide +kernel) hown hK hP 4 rfl rfl 3 (by decide) (va_Nw.use rfl (hn (.fieldLinkNest RX3 99 "HandlerOptimizer$Code" "count" "I" "HandlerOptimizer") (by decide +kernel))) (fun _ h9 => h9) rfl dX3_leaving_13 ?_
      refine lv_icmp_ge (tgt := 76) hx hb dX3_leaving_16 (by decide) (fun c_5 => ?_) (fun c_5 => ?_)
      · skip
        have c_5 := (zz_get (a := y) (b := nc) (by omega) (by omega)).mp c_5
        refine lv_iload_n hx hb dX3_leaving_76 rfl (lv_at hl 1 rfl) ?_
        rw [← hQ]
        have hP9 := hP
        have hD9 := hD
        exact W.iret (v := g) hx hb hr (fun t ht hW => ⟨⟨g, (re_n, ro_n, rc_n), rfl, (by rw [hs9, show y = nc from by omega]; rfl), (by rw [ht]; exact hP9), va_K.moved hW.alike hK, hD9⟩, hS.F ht⟩) hS.2.2 dX3_leaving_77
      · skip
        have c_5 := (zz_gef (a := y) (b := nc) (by omega) (by omega)).mp c_5
        refine lv_iconst (v := 0) hx hb dX3_leaving_19 (by decide) ?_
        refine lv_istore_n (lv' := [(3, .int 0), (0, .ref (a 0)), (1, .int g), (2, .int (nI y))]) hx hb dX3_leaving_20 rfl hl (by decide) rfl (fun ls hl => ?_)
        have J_21 : ∀ (n9 : Nat) (z : Nat) (g2 : Int32) (H : Heap) (locs : List Loc) (ls : Array Slot), (z ≤ nk) → (g2 = it (lvG (RB nk nc fo th tg T nt up) th (tkf T nt up) nt y) z (it (fun i s => it (lvG (RB nk nc fo th tg T nt up) th (tkf T nt up) nt i) nk s) y 0)) → nk - z < n9 → va_P (dC, dI) vwCl (w3 a cI cZ nk pa fa nc fo th tg nt tb te tk tt nu ub ue uk ut re_n ro_n fu bl go ra rc_n ex tc es wy) H → va_D A (w3 a cI cZ nk pa fa nc fo th tg nt tb te tk tt nu ub ue uk ut re_n ro_n fu bl go ra rc_n ex tc es wy) → va_S A s.heap H locs → lv_has ls 4 [(0, .ref (a 0)), (1, .int g2), (2, .int (nI y)), (3, .int (nI z))] → W p l e (headSpec wsX3_leaving ({ frames := 4, cells := 0, slots := 0, locals := 93 } : Room)).room s m args below meth c H locs 0 0 Q (F0 m 21 ls []) := by
          intro n9
          induction n9 with
          | zero => intro z g2 H locs ls hz hs8 hmu; exact absurd hmu (Nat.not_lt_zero _)
          | succ n9 ih_21 =>
            intro z g2 H locs ls hz hs8 hmu hP hD hS hl
            refine lv_iload_n hx hb dX3_leaving_21 rfl (lv_at hl 3 rfl) ?_
            refine lv_aload_n hx hb dX3_leaving_22 rfl (lv_at hl 0 rfl) ?_
            refine va_get (D := (dC, dI)) (ci := 3) (v := .ref (a 1)) (C := RX3) (T := TX3) (N := 15) hx hb hts (by decide +kernel) hown hK hP 0 rfl rfl 0 (by decide) (hts (.fieldLink RX3 12 "HandlerOptimizer" "kinds" "LHandlerOptimizer$Kinds;") (by decide +kernel)) (fun _ h9 => h9) rfl dX3_leaving_23 ?_
            refine va_getN (D := (dC, dI)) (ci := 1) (v := .int (nI nk)) (C := RX1) (T := TX1) (N := 3) hx hb hts (by decide +kernel) hown hK hP 1 rfl rfl 2 (by decide) (va_Nw.use rfl (hn (.fieldLinkNest RX3 76 "HandlerOptimizer$Kinds" "count" "I" "HandlerOptimizer") (by decide +kernel))) (fun _ h9 => h9) rfl dX3_leaving_26 ?_
            refine lv_icmp_ge (tgt := 70) hx hb dX3_leaving_29 (by decide) (fun c_6 => ?_) (fun c_6 => ?_)
            · skip
              have c_6 := (zz_get (a := z) (b := nk) (by omega) (by omega)).mp c_6
              refine lv_iinc (v := nI (y + 1)) (lv' := [(2, .int (nI (y + 1))), (0, .ref (a 0)), (1, .int g2), (3, .int (nI z))]) hx hb dX3_leaving_70 hl (k := 2) rfl (zz_inc y 1) (by decide) rfl (fun ls hl => ?_)
              refine lv_goto (tgt := 8) hx hb dX3_leaving_73 (by decide) ?_
              exact ih_8 (y + 1) g2 _ _ _ (by first | assumption | omega) (by rw [hs8, show z = nk from by omega]; rfl) (by omega) hP hD hS (lv_sub hl [1, 2, 0] rfl)
            · skip
              have c_6 := (zz_gef (a := z) (b := nk) (by omega) (by omega)).mp c_6
              refine lv_aload_n hx hb dX3_leaving_32 rfl (lv_at hl 0 rfl) ?_
              refine lv_iload_n hx hb dX3_leaving_33 rfl (lv_at hl 2 rfl) ?_
              refine lv_iload_n hx hb dX3_leaving_34 rfl (lv_at hl 3 rfl) ?_
              refine va_calli (va_runV (As := [.int (nI y), .int (nI z)]) (rest := []) ⟨hx, hb, hml, hown, hts⟩ (c_X3_isThrown l dC dI cI cZ cJ a nk pa fa nc fo th tg nt tb te tk tt nu ub ue uk ut re_n ro_n fu bl go ra rc_n ex tc es wy y z (RB nk nc fo th tg T nt up) (by omega) (by omega) (hre)) (cwV 2 hts gX3_leaving_X3_isThrown rfl rfl rfl (by decide +kernel) ⟨Nat.le_of_ble_eq_true rfl, Nat.le_of_ble_eq_true rfl⟩) ⟨zPre_blind, va_recv hK hP (ci := 3) (q0 := 0) rfl rfl, zPre_at hP hK hn⟩ rfl rfl hl.1 rfl (lv_room (Nat.le_of_ble_eq_true rfl)) dX3_leaving_35 ⟨Nat.le_of_ble_eq_true rfl, Nat.le_of_ble_eq_true rfl⟩) hS (fun _ _ h => h.elim) (fun _ h => h.elim) (fun r_7 u_9 t H locs ht hvm hw hB hz1 hk1 hS => ?_)
              have hP := zkeep hP hk1
              subst hw
              refine lv_if_eq (tgt := 64) hx hb dX3_leaving_38 (by decide) (fun c_8 => ?_) (fun c_8 => ?_)
              · skip
                have c9 := zb_0.mp c_8
                refine lv_iinc (v := nI (z + 1)) (lv' := [(3, .int (nI (z + 1))), (0, .ref (a 0)), (1, .int g2), (2, .int (nI y))]) hx hb dX3_leaving_64 hl (k := 3) rfl (zz_inc z 1) (by decide) rfl (fun ls hl => ?_)
                refine lv_goto (tgt := 21) hx hb dX3_leaving_67 (by decide) ?_
                exact ih_21 (z + 1) g2 _ _ _ (by first | assumption | omega) (by rw [hs8]; simp only [it, lvG]; simp [*]) (by omega) hP hD hS (lv_sub hl [1, 2, 3, 0] rfl)
              · skip
                have c9 := zb_1.mp c_8
                refine lv_aload_n hx hb dX3_leaving_41 rfl (lv_at hl 0 rfl) ?_
                refine va_get (D := (dC, dI)) (ci := 3) (v := .ref (a 8)) (C := RX3) (T := TX3) (N := 15) hx hb hts (by decide +kernel) hown hK hP 0 rfl rfl 2 (by decide) (hts (.fieldLink RX3 26 "HandlerOptimizer" "table" "LHandlerOptimizer$Table;") (by decide +kernel)) (fun _ h9 => h9) rfl dX3_leaving_42 ?_
                refine lv_aload_n hx hb dX3_leaving_45 rfl (lv_at hl 0 rfl) ?_
                refine va_get (D := (dC, dI)) (ci := 3) (v := .ref (a 1)) (C := RX3) (T := TX3) (N := 15) hx hb hts (by decide +kernel) hown hK hP 0 rfl rfl 0 (by decide) (hts (.fieldLink RX3 12 "HandlerOptimizer" "kinds" "LHandlerOptimizer$Kinds;") (by decide +kernel)) (fun _ h9 => h9) rfl dX3_leaving_46 ?_
                refine lv_iload_n hx hb dX3_leaving_49 rfl (lv_at hl 2 rfl) ?_
                refine lv_iload_n hx hb dX3_leaving_50 rfl (lv_at hl 3 rfl) ?_
                have hPc := hP.sub (ws' := wT (a 8) (a 9) (a 10) (a 11) (a 12) cI nt tb te tk tt ++ wK (a 1) (a 2) (a 3) cI nk pa fa) [8, 9, 10, 11, 12, 1, 2, 3] rfl
                refine va_calli (va_runVN (As := [.ref (a 1), .int (nI y), .int (nI z)]) (rest := []) ⟨hx, hb, hml, hown, hts⟩ (c_X2_firstTaker l dC dI cI cZ cJ (a 8) (a 9) (a 10) (a 11) (a 12) nt tb te tk tt (a 1) (a 2) (a 3) nk pa fa y z T up (by omega) (by first | assumption | omega) (by first | assumption | omega) (by first | assumption | omega) (by first | assumption | omega) (by first | assumption | omega) (by first | assumption | omega)) ⟨va_cnB 3 hts gX3_leaving_X2_firstTaker_n146 rfl rfl rfl (hn (.methodLinkNest RX3 146 yX2_firstTaker "HandlerOptimizer") (by decide +kernel)) (hts (.initialized RX2) (by decide +kernel)) (by decide +kernel) ⟨Nat.le_of_ble_eq_true rfl, Nat.le_of_ble_eq_true rfl⟩, hts (.instanceMethod yX2_firstTaker) (by decide +kernel), hts (.selects RX2 yX2_firstTaker yX2_firstTaker) (by decide +kernel)⟩ ⟨zPre_blind, va_recv hK hPc (ci := 2) (q0 := 0) rfl rfl, zPre_at hPc hK hn⟩ rfl rfl hl.1 rfl (lv_room (Nat.le_of_ble_eq_true rfl)) dX3_leaving_51 ⟨Nat.le_of_ble_eq_true rfl, Nat.le_of_ble_eq_true rfl⟩) hS (fun _ _ h => h.elim) (fun _ h => h.elim) (fun r_9 u_9 t H locs ht hvm hw hB hz1 hk1 hS => ?_)
                have hP := zkeep hP hk1
                subst hw
                refine lv_iconst (v := -1) hx hb dX3_leaving_54 (by decide) ?_
                refine lv_icmp_ne (tgt := 64) hx hb dX3_leaving_55 (by decide) (fun c_10 => ?_) (fun c_10 => ?_)
                · skip
                  have c8 := tkI_lt (by omega) c_10
                  refine lv_iinc (v := nI (z + 1)) (lv' := [(3, .int (nI (z + 1))), (0, .ref (a 0)), (1, .int g2), (2, .int (nI y))]) hx hb dX3_leaving_64 hl (k := 3) rfl (zz_inc z 1) (by decide) rfl (fun ls hl => ?_)
                  refine lv_goto (tgt := 21) hx hb dX3_leaving_67 (by decide) ?_
                  exact ih_21 (z + 1) g2 _ _ _ (by first | assumption | omega) (by rw [hs8]; simp only [it, lvG]; simp [*]) (by omega) hP hD hS (lv_sub hl [1, 2, 3, 0] rfl)
                · skip
                  have c8 := tkI_m1 (by omega) c_10
                  refine lv_iload_n hx hb dX3_leaving_58 rfl (lv_at hl 1 rfl) ?_
                  refine lv_iconst (v := 1) hx hb dX3_leaving_59 (by decide) ?_
                  refine lv_iload_n hx hb dX3_leaving_60 rfl (lv_at hl 3 rfl) ?_
                  refine lv_ishl hx hb dX3_leaving_61 ?_
                  refine lv_ior hx hb dX3_leaving_62 ?_
                  refine lv_istore_n (lv' := [(1, .int (g2 ||| (1 <<< ((nI z) &&& 31)))), (0, .ref (a 0)), (2, .int (nI y)), (3, .int (nI z))]) hx hb dX3_leaving_63 rfl hl (by decide) rfl (fun ls hl => ?_)
                  refine lv_iinc (v := nI (z + 1)) (lv' := [(3, .int (nI (z + 1))), (1, .int (g2 ||| (1 <<< ((nI z) &&& 31)))), (0, .ref (a 0)), (2, .int (nI y))]) hx hb dX3_leaving_64 hl (k := 3) rfl (zz_inc z 1) (by decide) rfl (fun ls hl => ?_)
                  refine lv_goto (tgt := 21) hx hb dX3_leaving_67 (by decide) ?_
                  exact ih_21 (z + 1) (g2 ||| (1 <<< ((nI z) &&& 31))) _ _ _ (by first | assumption | omega) (by rw [hs8]; simp only [it, lvG]; simp [*]) (by omega) hP hD hS (lv_sub hl [2, 1, 3, 0] rfl)
        exact J_21 _ 0 g _ _ _ (by first | assumption | omega) hs9 (Nat.lt_succ_self _) hP hD hS (lv_sub hl [1, 2, 3, 0] rfl)
  exact J_8 _ 0 0 _ _ _ (by first | assumption | omega) rfl (Nat.lt_succ_self _) hP hD hS (lv_sub hl [2, 1, 0] rfl)

set_option maxHeartbeats 4000000 in
set_option maxRecDepth 100000 in
theorem c_X3_goesLikeTheOneAhead (l : Launch) (dC : Nat → ClassId) (dI : Nat → Nat → Nat) (cI cZ cJ : ClassId) (a : Nat → Nat) (nk : Nat) (pa : Nat → Int32) (fa : Nat → Int32) (nc : Nat) (fo : Nat → Int32) (th : Nat → Int32) (tg : Nat → Int32) (nt : Nat) (tb : Nat → Int32) (te : Nat → Int32) (tk : Nat → Int32) (tt : Nat → Int32) (nu : Nat) (ub : Nat → Int32) (ue : Nat → Int32) (uk : Nat → Int32) (ut : Nat → Int32) (re : Nat → Int32) (ro : Nat → Int32) (fu : Nat → Int32) (bl : Nat → Int32) (go : Nat → Int32) (ra : Nat → Int32) (rc : Nat) (ex : Int32) (tc : Int32) (es : Int32) (wy : Int64) (i : Nat) (T : Nat → Nat → Nat) (up : Nat → Nat → Bool) (hg : g3 nk fa up nt tb te tk tt T) (hc : okC nk nc fo th tg) (hi : i < nc) (hi0 : 0 < i) : Met l yX3_goesLikeTheOneAhead wsX3_goesLikeTheOneAhead ({ frames := 2, cells := 0, slots := 0, locals := 49 } : Room) (va_Pc [.ref (a 0), .int (nI i)] (zPre (dC, dI) [(cI, .int), (cZ, .boolean), (cJ, .long)] (w3 a cI cZ nk pa fa nc fo th tg nt tb te tk tt nu ub ue uk ut re ro fu bl go ra rc ex tc es wy))) (va_Qi (fun (r : Int32) (_ : Unit) => r = bI (smK (gl T nt up) nk i)) (fun _ _ => True) (fun _ => False)) 0 0 (fun _ => False) := by
  refine Met.ofW (cc := cX3_goesLikeTheOneAhead) (maxL := 4) (ret := (some .boolean)) (by decide) rfl ?_
  intro p e s m args below meth c s₁ B hml hv
  obtain ⟨hav, hP, hK, hn⟩ := hv
  have hx := B.exec
  have hb := B.bytes
  have hr := B.returns
  have hts := atoms_spec (ws := wsX3_goesLikeTheOneAhead) B.pre
  have hown : s.vm.findClass RX3 = some m.cls := findClass_of_methodNamed B.named
  have hlocks := B.notSynchronized
  have hS : va_S (fun _ => False) s.heap s.heap [] := va_S.rf
  generalize hQ : MQ below (va_Qi (fun (r : Int32) (_ : Unit) => r = bI (smK (gl T nt up) nk i)) (fun _ _ => True) (fun _ => False)) args s 0 0 (fun _ => False) = Q
  refine W.eq (g2 := entryFrame m ([.ref (a 0), .int (nI i)] : List Value).toArray 4) (by rw [hav]) ?_
  have hl := lv_entry ([.ref (a 0), .int (nI i)]) (n := 4) (Nat.le_of_ble_eq_true rfl)
  rw [lg_entry_eq]
  generalize (lg_sl ([.ref (a 0), .int (nI i)]) ++ List.replicate (4 - (lg_sl ([.ref (a 0), .int (nI i)])).length) Slot.unset).toArray = ls at hl ⊢
  have hl : lv_has ls 4 [(0, .ref (a 0)), (1, .int (nI i))] := hl
  obtain ⟨H, hH⟩ : ∃ H, H = s.heap := ⟨_, rfl⟩
  obtain ⟨locs, hlo⟩ : ∃ q : List Loc, q = [] := ⟨_, rfl⟩
  have hP : va_P (dC, dI) vwCl (w3 a cI cZ nk pa fa nc fo th tg nt tb te tk tt nu ub ue uk ut re ro fu bl go ra rc ex tc es wy) H := by rw [hH]; exact hP
  have hS : va_S (fun _ => False) s.heap H locs := by rw [hH, hlo]; exact hS
  refine zz_hl hH hlo ?_
  obtain ⟨hk01, hk8, hnt, hT, hO, hF, hU⟩ := id hg
  obtain ⟨hnc, hC⟩ := id hc
  refine lv_iconst (v := 0) hx hb dX3_goesLikeTheOneAhead_0 (by decide) ?_
  refine lv_istore_n (lv' := [(2, .int 0), (0, .ref (a 0)), (1, .int (nI i))]) hx hb dX3_goesLikeTheOneAhead_1 rfl hl (by decide) rfl (fun ls hl => ?_)
  have J_2 : ∀ (n9 : Nat) (y : Nat) (H : Heap) (locs : List Loc) (ls : Array Slot), (y ≤ nk) → (∀ k, k < y → decide (gl T nt up i k = gl T nt up (i - 1) k) = true) → nk - y < n9 → va_P (dC, dI) vwCl (w3 a cI cZ nk pa fa nc fo th tg nt tb te tk tt nu ub ue uk ut re ro fu bl go ra rc ex tc es wy) H → va_S (fun _ => False) s.heap H locs → lv_has ls 4 [(0, .ref (a 0)), (1, .int (nI i)), (2, .int (nI y))] → W p l e (headSpec wsX3_goesLikeTheOneAhead ({ frames := 2, cells := 0, slots := 0, locals := 49 } : Room)).room s m args below meth c H locs 0 0 Q (F0 m 2 ls []) := by
    intro n9
    induction n9 with
    | zero => intro y H locs ls hy ha hmu; exact absurd hmu (Nat.not_lt_zero _)
    | succ n9 ih_2 =>
      intro y H locs ls hy ha hmu hP hS hl
      refine lv_iload_n hx hb dX3_goesLikeTheOneAhead_2 rfl (lv_at hl 2 rfl) ?_
      refine lv_aload_n hx hb dX3_goesLikeTheOneAhead_3 rfl (lv_at hl 0 rfl) ?_
      refine va_get (D := (dC, dI)) (ci := 3) (v := .ref (a 1)) (C := RX3) (T := TX3) (N := 15) hx hb hts (by decide +kernel) hown hK hP 0 rfl rfl 0 (by decide) (hts (.fieldLink RX3 12 "HandlerOptimizer" "kinds" "LHandlerOptimizer$Kinds;") (by decide +kernel)) (fun _ h9 => h9) rfl dX3_goesLikeTheOneAhead_4 ?_
      refine va_getN (D := (dC, dI)) (ci := 1) (v := .int (nI nk)) (C := RX1) (T := TX1) (N := 3) hx hb hts (by decide +kernel) hown hK hP 1 rfl rfl 2 (by decide) (va_Nw.use rfl (hn (.fieldLinkNest RX3 76 "HandlerOptimizer$Kinds" "count" "I" "HandlerOptimizer") (by decide +kernel))) (fun _ h9 => h9) rfl dX3_goesLikeTheOneAhead_7 ?_
      refine lv_icmp_ge (tgt := 54) hx hb dX3_goesLikeTheOneAhead_10 (by decide) (fun c_1 => ?_) (fun c_1 => ?_)
      · skip
        have c_1 := (zz_get (a := y) (b := nk) (by omega) (by omega)).mp c_1
        refine lv_iconst (v := 1) hx hb dX3_goesLikeTheOneAhead_54 (by decide) ?_
        rw [← hQ]
        exact W.zret (v := 1) hx hb hr rfl (fun t ht hW => ⟨⟨1, (), rfl, (zb_t (al_iff.mpr (fun k hk => ha k (by omega)))), trivial⟩, hS.F ht⟩) hS.2.2 dX3_goesLikeTheOneAhead_55
      · skip
        have c_1 := (zz_gef (a := y) (b := nk) (by omega) (by omega)).mp c_1
        refine lv_aload_n hx hb dX3_goesLikeTheOneAhead_13 rfl (lv_at hl 0 rfl) ?_
        refine va_get (D := (dC, dI)) (ci := 3) (v := .ref (a 8)) (C := RX3) (T := TX3) (N := 15) hx hb hts (by decide +kernel) hown hK hP 0 rfl rfl 2 (by decide) (hts (.fieldLink RX3 26 "HandlerOptimizer" "table" "LHandlerOptimizer$Table;") (by decide +kernel)) (fun _ h9 => h9) rfl dX3_goesLikeTheOneAhead_14 ?_
        refine lv_aload_n hx hb dX3_goesLikeTheOneAhead_17 rfl (lv_at hl 0 rfl) ?_
        refine va_get (D := (dC, dI)) (ci := 3) (v := .ref (a 1)) (C := RX3) (T := TX3) (N := 15) hx hb hts (by decide +kernel) hown hK hP 0 rfl rfl 0 (by decide) (hts (.fieldLink RX3 12 "HandlerOptimizer" "kinds" "LHandlerOptimizer$Kinds;") (by decide +kernel)) (fun _ h9 => h9) rfl dX3_goesLikeTheOneAhead_18 ?_
        refine lv_iload_n hx hb dX3_goesLikeTheOneAhead_21 rfl (lv_at hl 1 rfl) ?_
        refine lv_iload_n hx hb dX3_goesLikeTheOneAhead_22 rfl (lv_at hl 2 rfl) ?_
        have hPc := hP.sub (ws' := wT (a 8) (a 9) (a 10) (a 11) (a 12) cI nt tb te tk tt ++ wK (a 1) (a 2) (a 3) cI nk pa fa) [8, 9, 10, 11, 12, 1, 2, 3] rfl
        refine va_calli (va_runVN (As := [.ref (a 1), .int (nI i), .int (nI y)]) (rest := []) ⟨hx, hb, hml, hown, hts⟩ (c_X2_goal l dC dI cI cZ cJ (a 8) (a 9) (a 10) (a 11) (a 12) nt tb te tk tt (a 1) (a 2) (a 3) nk pa fa i y T up (by omega) (by first | assumption | omega) (by first | assumption | omega) (by first | assumption | omega) (by first | assumption | omega) (by first | assumption | omega) (by first | assumption | omega)) ⟨va_cnB 3 hts gX3_goesLikeTheOneAhead_X2_goal_n259 rfl rfl rfl (hn (.methodLinkNest RX3 259 yX2_goal "HandlerOptimizer") (by decide +kernel)) (hts (.initialized RX2) (by decide +kernel)) (by decide +kernel) ⟨Nat.le_of_ble_eq_true rfl, Nat.le_of_ble_eq_true rfl⟩, hts (.instanceMethod yX2_goal) (by decide +kernel), hts (.selects RX2 yX2_goal yX2_goal) (by decide +kernel)⟩ ⟨zPre_blind, va_recv hK hPc (ci := 2) (q0 := 0) rfl rfl, zPre_at hPc hK hn⟩ rfl rfl hl.1 rfl (lv_room (Nat.le_of_ble_eq_true rfl)) dX3_goesLikeTheOneAhead_23 ⟨Nat.le_of_ble_eq_true rfl, Nat.le_of_ble_eq_true rfl⟩) hS (fun _ _ h => h.elim) (fun _ h => h.elim) (fun r_2 u_9 t H locs ht hvm hw hB hz1 hk1 hS => ?_)
        have hP := zkeep hP hk1
        subst hw
        refine lv_istore_n (lv' := [(3, .int (gl T nt up i y)), (0, .ref (a 0)), (1, .int (nI i)), (2, .int (nI y))]) hx hb dX3_goesLikeTheOneAhead_26 rfl hl (by decide) rfl (fun ls hl => ?_)
        refine lv_iload_n hx hb dX3_goesLikeTheOneAhead_27 rfl (lv_at hl 0 rfl) ?_
        refine lv_aload_n hx hb dX3_goesLikeTheOneAhead_28 rfl (lv_at hl 1 rfl) ?_
        refine va_get (D := (dC, dI)) (ci := 3) (v := .ref (a 8)) (C := RX3) (T := TX3) (N := 15) hx hb hts (by decide +kernel) hown hK hP 0 rfl rfl 2 (by decide) (hts (.fieldLink RX3 26 "HandlerOptimizer" "table" "LHandlerOptimizer$Table;") (by decide +kernel)) (fun _ h9 => h9) rfl dX3_goesLikeTheOneAhead_29 ?_
        refine lv_aload_n hx hb dX3_goesLikeTheOneAhead_32 rfl (lv_at hl 1 rfl) ?_
        refine va_get (D := (dC, dI)) (ci := 3) (v := .ref (a 1)) (C := RX3) (T := TX3) (N := 15) hx hb hts (by decide +kernel) hown hK hP 0 rfl rfl 0 (by decide) (hts (.fieldLink RX3 12 "HandlerOptimizer" "kinds" "LHandlerOptimizer$Kinds;") (by decide +kernel)) (fun _ h9 => h9) rfl dX3_goesLikeTheOneAhead_33 ?_
        refine lv_iload_n hx hb dX3_goesLikeTheOneAhead_36 rfl (lv_at hl 2 rfl) ?_
        refine lv_iconst (v := 1) hx hb dX3_goesLikeTheOneAhead_37 (by decide) ?_
        refine lv_isub hx hb dX3_goesLikeTheOneAhead_38 ?_
        refine zz_top (y := nI (i - 1)) (zz_pred (by omega)) ?_
        refine lv_iload_n hx hb dX3_goesLikeTheOneAhead_39 rfl (lv_at hl 3 rfl) ?_
        have hPc := hP.sub (ws' := wT (a 8) (a 9) (a 10) (a 11) (a 12) cI nt tb te tk tt ++ wK (a 1) (a 2) (a 3) cI nk pa fa) [8, 9, 10, 11, 12, 1, 2, 3] rfl
        refine va_calli (va_runVN (As := [.ref (a 1), .int (nI (i - 1)), .int (nI y)]) (rest := [.int (gl T nt up i y)]) ⟨hx, hb, hml, hown, hts⟩ (c_X2_goal l dC dI cI cZ cJ (a 8) (a 9) (a 10) (a 11) (a 12) nt tb te tk tt (a 1) (a 2) (a 3) nk pa fa (i - 1) y T up (by omega) (by first | assumption | omega) (by first | assumption | omega) (by first | assumption | omega) (by first | assumption | omega) (by first | assumption | omega) (by first | assumption | omega)) ⟨va_cnB 3 hts gX3_goesLikeTheOneAhead_X2_goal_n259 rfl rfl rfl (hn (.methodLinkNest RX3 259 yX2_goal "HandlerOptimizer") (by decide +kernel)) (hts (.initialized RX2) (by decide +kernel)) (by decide +kernel) ⟨Nat.le_of_ble_eq_true rfl, Nat.le_of_ble_eq_true rfl⟩, hts (.instanceMethod yX2_goal) (by decide +kernel), hts (.selects RX2 yX2_goal yX2_goal) (by decide +kernel)⟩ ⟨zPre_blind, va_recv hK hPc (ci := 2) (q0 := 0) rfl rfl, zPre_at hPc hK hn⟩ rfl rfl hl.1 rfl (lv_room (Nat.le_of_ble_eq_true rfl)) dX3_goesLikeTheOneAhead_40 ⟨Nat.le_of_ble_eq_true rfl, Nat.le_of_ble_eq_true rfl⟩) hS (fun _ _ h => h.elim) (fun _ h => h.elim) (fun r_3 u_9 t H locs ht hvm hw hB hz1 hk1 hS => ?_)
        have hP := zkeep hP hk1
        subst hw
        refine lv_icmp_eq (tgt := 48) hx hb dX3_goesLikeTheOneAhead_43 (by decide) (fun c_4 => ?_) (fun c_4 => ?_)
        · skip
          skip
          refine lv_iinc (v := nI (y + 1)) (lv' := [(2, .int (nI (y + 1))), (3, .int (gl T nt up i y)), (0, .ref (a 0)), (1, .int (nI i))]) hx hb dX3_goesLikeTheOneAhead_48 hl (k := 3) rfl (zz_inc y 1) (by decide) rfl (fun ls hl => ?_)
          refine lv_goto (tgt := 2) hx hb dX3_goesLikeTheOneAhead_51 (by decide) ?_
          exact ih_2 (y + 1) _ _ _ (by first | assumption | omega) (lt_s ha (decide_eq_true (by assumption))) (by omega) hP hS (lv_sub hl [2, 3, 0] rfl)
        · skip
          skip
          refine lv_iconst (v := 0) hx hb dX3_goesLikeTheOneAhead_46 (by decide) ?_
          rw [← hQ]
          exact W.zret (v := 0) hx hb hr rfl (fun t ht hW => ⟨⟨0, (), rfl, (zb_f (al_f (k := y) (by omega) (decide_eq_false (by assumption)))), trivial⟩, hS.F ht⟩) hS.2.2 dX3_goesLikeTheOneAhead_47
  exact J_2 _ 0 _ _ _ (by first | assumption | omega) lt_0 (Nat.lt_succ_self _) hP hS (lv_sub hl [1, 2, 0] rfl)

set_option maxHeartbeats 4000000 in
set_option maxRecDepth 100000 in
theorem c_X3_parts (l : Launch) (dC : Nat → ClassId) (dI : Nat → Nat → Nat) (cI cZ cJ : ClassId) (a : Nat → Nat) (nk : Nat) (pa : Nat → Int32) (fa : Nat → Int32) (nc : Nat) (fo : Nat → Int32) (th : Nat → Int32) (tg : Nat → Int32) (nt : Nat) (tb : Nat → Int32) (te : Nat → Int32) (tk : Nat → Int32) (tt : Nat → Int32) (nu : Nat) (ub : Nat → Int32) (ue : Nat → Int32) (uk : Nat → Int32) (ut : Nat → Int32) (re : Nat → Int32) (ro : Nat → Int32) (fu : Nat → Int32) (bl : Nat → Int32) (go : Nat → Int32) (ra : Nat → Int32) (rc : Nat) (ex : Int32) (tc : Int32) (es : Int32) (wy : Int64) (T : Nat → Nat → Nat) (up : Nat → Nat → Bool) (hg : g3 nk fa up nt tb te tk tt T) (hc : okC nk nc fo th tg) : Met l yX3_parts wsX3_parts ({ frames := 3, cells := 0, slots := 0, locals := 72 } : Room) (va_Pc [.ref (a 0)] (zPre (dC, dI) [(cI, .int), (cZ, .boolean), (cJ, .long)] (w3 a cI cZ nk pa fa nc fo th tg nt tb te tk tt nu ub ue uk ut re ro fu bl go ra rc ex tc es wy))) (va_Qi (fun (r : Int32) (_ : Unit) => r = nI (ptN (gl T nt up) nk nc)) (fun _ _ => True) (fun _ => False)) 0 0 (fun _ => False) := by
  refine Met.ofW (cc := cX3_parts) (maxL := 3) (ret := (some .int)) (by decide) rfl ?_
  intro p e s m args below meth c s₁ B hml hv
  obtain ⟨hav, hP, hK, hn⟩ := hv
  have hx := B.exec
  have hb := B.bytes
  have hr := B.returns
  have hts := atoms_spec (ws := wsX3_parts) B.pre
  have hown : s.vm.findClass RX3 = some m.cls := findClass_of_methodNamed B.named
  have hlocks := B.notSynchronized
  have hS : va_S (fun _ => False) s.heap s.heap [] := va_S.rf
  generalize hQ : MQ below (va_Qi (fun (r : Int32) (_ : Unit) => r = nI (ptN (gl T nt up) nk nc)) (fun _ _ => True) (fun _ => False)) args s 0 0 (fun _ => False) = Q
  refine W.eq (g2 := entryFrame m ([.ref (a 0)] : List Value).toArray 3) (by rw [hav]) ?_
  have hl := lv_entry ([.ref (a 0)]) (n := 3) (Nat.le_of_ble_eq_true rfl)
  rw [lg_entry_eq]
  generalize (lg_sl ([.ref (a 0)]) ++ List.replicate (3 - (lg_sl ([.ref (a 0)])).length) Slot.unset).toArray = ls at hl ⊢
  have hl : lv_has ls 3 [(0, .ref (a 0))] := hl
  obtain ⟨H, hH⟩ : ∃ H, H = s.heap := ⟨_, rfl⟩
  obtain ⟨locs, hlo⟩ : ∃ q : List Loc, q = [] := ⟨_, rfl⟩
  have hP : va_P (dC, dI) vwCl (w3 a cI cZ nk pa fa nc fo th tg nt tb te tk tt nu ub ue uk ut re ro fu bl go ra rc ex tc es wy) H := by rw [hH]; exact hP
  have hS : va_S (fun _ => False) s.heap H locs := by rw [hH, hlo]; exact hS
  refine zz_hl hH hlo ?_
  obtain ⟨hk01, hk8, hnt, hT, hO, hF, hU⟩ := id hg
  obtain ⟨hnc, hC⟩ := id hc
  refine lv_iconst (v := 0) hx hb dX3_parts_0 (by decide) ?_
  refine lv_istore_n (lv' := [(1, .int 0), (0, .ref (a 0))]) hx hb dX3_parts_1 rfl hl (by decide) rfl (fun ls hl => ?_)
  refine lv_iconst (v := 0) hx hb dX3_parts_2 (by decide) ?_
  refine lv_istore_n (lv' := [(2, .int 0), (1, .int 0), (0, .ref (a 0))]) hx hb dX3_parts_3 rfl hl (by decide) rfl (fun ls hl => ?_)
  have J_4 : ∀ (n9 : Nat) (y : Nat) (g : Nat) (H : Heap) (locs : List Loc) (ls : Array Slot), (y ≤ nc) → (g = it (ptG (gl T nt up) nk) y 0) → nc - y < n9 → va_P (dC, dI) vwCl (w3 a cI cZ nk pa fa nc fo th tg nt tb te tk tt nu ub ue uk ut re ro fu bl go ra rc ex tc es wy) H → va_S (fun _ => False) s.heap H locs → lv_has ls 3 [(0, .ref (a 0)), (1, .int (nI g)), (2, .int (nI y))] → W p l e (headSpec wsX3_parts ({ frames := 3, cells := 0, slots := 0, locals := 72 } : Room)).room s m args below meth c H locs 0 0 Q (F0 m 4 ls []) := by
    intro n9
    induction n9 with
    | zero => intro y g H locs ls hy hs9 hmu; exact absurd hmu (Nat.not_lt_zero _)
    | succ n9 ih_4 =>
      intro y g H locs ls hy hs9 hmu hP hS hl
      refine lv_iload_n hx hb dX3_parts_4 rfl (lv_at hl 2 rfl) ?_
      refine lv_aload_n hx hb dX3_parts_5 rfl (lv_at hl 0 rfl) ?_
      refine va_get (D := (dC, dI)) (ci := 3) (v := .ref (a 4)) (C := RX3) (T := TX3) (N := 15) hx hb hts (by decide +kernel) hown hK hP 0 rfl rfl 1 (by decide) (hts (.fieldLink RX3 19 "HandlerOptimizer" "code" "LHandlerOptimizer$Code;") (by decide +kernel)) (fun _ h9 => h9) rfl dX3_parts_6 ?_
      refine va_getN (D := (dC, dI)) (ci := 0) (v := .int (nI nc)) (C := RX0) (T := TX0) (N := 4) hx hb hts (by decide +kernel) hown hK hP 4 rfl rfl 3 (by decide) (va_Nw.use rfl (hn (.fieldLinkNest RX3 99 "HandlerOptimizer$Code" "count" "I" "HandlerOptimizer") (by decide +kernel))) (fun _ h9 => h9) rfl dX3_parts_9 ?_
      refine lv_icmp_ge (tgt := 36) hx hb dX3_parts_12 (by decide) (fun c_1 => ?_) (fun c_1 => ?_)
      · skip
        have c_1 := (zz_get (a := y) (b := nc) (by omega) (by omega)).mp c_1
        refine lv_iload_n hx hb dX3_parts_36 rfl (lv_at hl 1 rfl) ?_
        rw [← hQ]
        exact W.iret (v := nI g) hx hb hr (fun t ht hW => ⟨⟨nI g, (), rfl, (by rw [hs9, show y = nc from by omega]; rfl), trivial⟩, hS.F ht⟩) hS.2.2 dX3_parts_37
      · skip
        have c_1 := (zz_gef (a := y) (b := nc) (by omega) (by omega)).mp c_1
        refine lv_iload_n hx hb dX3_parts_15 rfl (lv_at hl 2 rfl) ?_
        refine lv_if_eq (tgt := 27) hx hb dX3_parts_16 (by decide) (fun c_2 => ?_) (fun c_2 => ?_)
        · skip
          have c_2 := (zz_eqt (a := y) (b := 0) (by omega) (by omega)).mp c_2
          refine lv_iinc (v := nI (g + 1)) (lv' := [(1, .int (nI (g + 1))), (0, .ref (a 0)), (2, .int (nI y))]) hx hb dX3_parts_27 hl (k := 1) rfl (zz_inc g 1) (by decide) rfl (fun ls hl => ?_)
          refine lv_iinc (v := nI (y + 1)) (lv' := [(2, .int (nI (y + 1))), (1, .int (nI (g + 1))), (0, .ref (a 0))]) hx hb dX3_parts_30 hl (k := 2) rfl (zz_inc y 1) (by decide) rfl (fun ls hl => ?_)
          refine lv_goto (tgt := 4) hx hb dX3_parts_33 (by decide) ?_
          exact ih_4 (y + 1) (g + 1) _ _ _ (by first | assumption | omega) (by rw [hs9]; simp only [it, ptG]; simp [*]) (by omega) hP hS (lv_sub hl [2, 1, 0] rfl)
        · skip
          have c_2 := (zz_eqf (a := y) (b := 0) (by omega) (by omega)).mp c_2
          refine lv_aload_n hx hb dX3_parts_19 rfl (lv_at hl 0 rfl) ?_
          refine lv_iload_n hx hb dX3_parts_20 rfl (lv_at hl 2 rfl) ?_
          refine va_calli (va_runV (As := [.int (nI y)]) (rest := []) ⟨hx, hb, hml, hown, hts⟩ (c_X3_goesLikeTheOneAhead l dC dI cI cZ cJ a nk pa fa nc fo th tg nt tb te tk tt nu ub ue uk ut re ro fu bl go ra rc ex tc es wy y T up (by first | assumption | omega) (by first | assumption | omega) (by omega) (by omega)) (cwV 1 hts gX3_parts_X3_goesLikeTheOneAhead rfl rfl rfl (by decide +kernel) ⟨Nat.le_of_ble_eq_true rfl, Nat.le_of_ble_eq_true rfl⟩) ⟨zPre_blind, va_recv hK hP (ci := 3) (q0 := 0) rfl rfl, zPre_at hP hK hn⟩ rfl rfl hl.1 rfl (lv_room (Nat.le_of_ble_eq_true rfl)) dX3_parts_21 ⟨Nat.le_of_ble_eq_true rfl, Nat.le_of_ble_eq_true rfl⟩) hS (fun _ _ h => h.elim) (fun _ h => h.elim) (fun r_3 u_9 t H locs ht hvm hw hB hz1 hk1 hS => ?_)
          have hP := zkeep hP hk1
          subst hw
          refine lv_if_ne (tgt := 30) hx hb dX3_parts_24 (by decide) (fun c_4 => ?_) (fun c_4 => ?_)
          · skip
            have c_4 := zb_1.mp c_4
            refine lv_iinc (v := nI (y + 1)) (lv' := [(2, .int (nI (y + 1))), (0, .ref (a 0)), (1, .int (nI g))]) hx hb dX3_parts_30 hl (k := 2) rfl (zz_inc y 1) (by decide) rfl (fun ls hl => ?_)
            refine lv_goto (tgt := 4) hx hb dX3_parts_33 (by decide) ?_
            exact ih_4 (y + 1) g _ _ _ (by first | assumption | omega) (by rw [hs9]; simp only [it, ptG]; simp [*]) (by omega) hP hS (lv_sub hl [1, 2, 0] rfl)
          · skip
            have c_4 := zb_0.mp c_4
            refine lv_iinc (v := nI (g + 1)) (lv' := [(1, .int (nI (g + 1))), (0, .ref (a 0)), (2, .int (nI y))]) hx hb dX3_parts_27 hl (k := 1) rfl (zz_inc g 1) (by decide) rfl (fun ls hl => ?_)
            refine lv_iinc (v := nI (y + 1)) (lv' := [(2, .int (nI (y + 1))), (1, .int (nI (g + 1))), (0, .ref (a 0))]) hx hb dX3_parts_30 hl (k := 2) rfl (zz_inc y 1) (by decide) rfl (fun ls hl => ?_)
            refine lv_goto (tgt := 4) hx hb dX3_parts_33 (by decide) ?_
            exact ih_4 (y + 1) (g + 1) _ _ _ (by first | assumption | omega) (by rw [hs9]; simp only [it, ptG]; simp [*]) (by omega) hP hS (lv_sub hl [2, 1, 0] rfl)
  exact J_4 _ 0 0 _ _ _ (by first | assumption | omega) rfl (Nat.lt_succ_self _) hP hS (lv_sub hl [2, 1, 0] rfl)

set_option maxHeartbeats 4000000 in
set_option maxRecDepth 100000 in
theorem c_X0_append (l : Launch) (dC : Nat → ClassId) (dI : Nat → Nat → Nat) (cI cZ cJ : ClassId) (c0 : Nat) (c1 : Nat) (c2 : Nat) (c3 : Nat) (nc : Nat) (fo : Nat → Int32) (th : Nat → Int32) (tg : Nat → Int32) (x : Int32) (y : Int32) (z : Int32) (sz : Nat) (hn9 : nc < 48) : Met l yX0_append wsX0_append ({ frames := 0, cells := 0, slots := 0, locals := 0 } : Room) (va_Pc [.ref c0, .int x, .int y, .int z] (zWr (dC, dI) [(cI, .int), (cZ, .boolean), (cJ, .long)] (wC c0 c1 c2 c3 cI nc fo th tg) sz)) (va_Qi (fun (r : Int32) (_ : Unit) => r = nI nc) (fun _ t => zWo (dC, dI) [(cI, .int), (cZ, .boolean), (cJ, .long)] (wC c0 c1 c2 c3 cI (nc + 1) (upd fo nc x) (upd th nc y) (upd tg nc z)) (va_A (wC c0 c1 c2 c3 cI nc fo th tg) sz) t) (va_A (wC c0 c1 c2 c3 cI nc fo th tg) sz)) 0 0 (va_A (wC c0 c1 c2 c3 cI nc fo th tg) sz) := by
  refine Met.ofW (cc := cX0_append) (maxL := 5) (ret := (some .int)) (by decide) rfl ?_
  intro p e s m args below meth c s₁ B hml hv
  obtain ⟨hav, hsz, ⟨hP, hK, hn⟩, hD0⟩ := hv
  have hx := B.exec
  have hb := B.bytes
  have hr := B.returns
  have hts := atoms_spec (ws := wsX0_append) B.pre
  have hown : s.vm.findClass RX0 = some m.cls := findClass_of_methodNamed B.named
  have hlocks := B.notSynchronized
  subst hsz
  have hD := hD0.self (sz := s.heap.size)
  generalize hAe : (va_A (wC c0 c1 c2 c3 cI nc fo th tg) s.heap.size) = A at hD ⊢
  have hA : ∀ q : Nat, s.heap.size ≤ q → A q := fun q h => by rw [← hAe]; exact Or.inr h
  have hS : va_S A s.heap s.heap [] := va_S.rf
  generalize hQ : MQ below (va_Qi (fun (r : Int32) (_ : Unit) => r = nI nc) (fun _ t => zWo (dC, dI) [(cI, .int), (cZ, .boolean), (cJ, .long)] (wC c0 c1 c2 c3 cI (nc + 1) (upd fo nc x) (upd th nc y) (upd tg nc z)) A t) A) args s 0 0 A = Q
  refine W.eq (g2 := entryFrame m ([.ref c0, .int x, .int y, .int z] : List Value).toArray 5) (by rw [hav]) ?_
  have hl := lv_entry ([.ref c0, .int x, .int y, .int z]) (n := 5) (Nat.le_of_ble_eq_true rfl)
  rw [lg_entry_eq]
  generalize (lg_sl ([.ref c0, .int x, .int y, .int z]) ++ List.replicate (5 - (lg_sl ([.ref c0, .int x, .int y, .int z])).length) Slot.unset).toArray = ls at hl ⊢
  have hl : lv_has ls 5 [(0, .ref c0), (1, .int x), (2, .int y), (3, .int z)] := hl
  obtain ⟨H, hH⟩ : ∃ H, H = s.heap := ⟨_, rfl⟩
  obtain ⟨locs, hlo⟩ : ∃ q : List Loc, q = [] := ⟨_, rfl⟩
  have hP : va_P (dC, dI) vwCl (wC c0 c1 c2 c3 cI nc fo th tg) H := by rw [hH]; exact hP
  have hS : va_S A s.heap H locs := by rw [hH, hlo]; exact hS
  refine zz_hl hH hlo ?_
  refine lv_aload_n hx hb dX0_append_0 rfl (lv_at hl 0 rfl) ?_
  refine va_get (D := (dC, dI)) (ci := 0) (v := .int (nI nc)) (C := RX0) (T := TX0) (N := 4) hx hb hts (by decide +kernel) hown hK hP 0 rfl rfl 3 (by decide) (hts (.fieldLink RX0 21 "HandlerOptimizer$Code" "count" "I") (by decide +kernel)) (fun _ h9 => h9) rfl dX0_append_1 ?_
  refine lv_istore (lv' := [(4, .int (nI nc)), (0, .ref c0), (1, .int x), (2, .int y), (3, .int z)]) hx hb dX0_append_4 hl (by decide) rfl (fun ls hl => ?_)
  refine lv_aload_n hx hb dX0_append_6 rfl (lv_at hl 1 rfl) ?_
  refine va_get (D := (dC, dI)) (ci := 0) (v := .ref c1) (C := RX0) (T := TX0) (N := 4) hx hb hts (by decide +kernel) hown hK hP 0 rfl rfl 0 (by decide) (hts (.fieldLink RX0 9 "HandlerOptimizer$Code" "forms" "[I") (by decide +kernel)) (fun _ h9 => h9) rfl dX0_append_7 ?_
  refine lv_iload hx hb dX0_append_10 (lv_at hl 0 rfl) ?_
  refine lv_iload_n hx hb dX0_append_12 rfl (lv_at hl 2 rfl) ?_
  refine va_iast hx hb hK hP hD hS 1 0 rfl rfl (vp_in_nI (n := nc) (by omega) (by decide)) dX0_append_13 (fun H locs hP hD hS => ?_)
  rw [nI_clamp (n := nc) (by omega)] at hP hD
  have hP : va_P (dC, dI) vwCl (wC c0 c1 c2 c3 cI nc (upd fo nc x) th tg) H := hP
  have hD : va_D A (wC c0 c1 c2 c3 cI nc (upd fo nc x) th tg) := hD
  refine lv_aload_n hx hb dX0_append_14 rfl (lv_at hl 1 rfl) ?_
  refine va_get (D := (dC, dI)) (ci := 0) (v := .ref c2) (C := RX0) (T := TX0) (N := 4) hx hb hts (by decide +kernel) hown hK hP 0 rfl rfl 1 (by decide) (hts (.fieldLink RX0 15 "HandlerOptimizer$Code" "thrown" "[I") (by decide +kernel)) (fun _ h9 => h9) rfl dX0_append_15 ?_
  refine lv_iload hx hb dX0_append_18 (lv_at hl 0 rfl) ?_
  refine lv_iload_n hx hb dX0_append_20 rfl (lv_at hl 3 rfl) ?_
  refine va_iast hx hb hK hP hD hS 2 0 rfl rfl (vp_in_nI (n := nc) (by omega) (by decide)) dX0_append_21 (fun H locs hP hD hS => ?_)
  rw [nI_clamp (n := nc) (by omega)] at hP hD
  have hP : va_P (dC, dI) vwCl (wC c0 c1 c2 c3 cI nc (upd fo nc x) (upd th nc y) tg) H := hP
  have hD : va_D A (wC c0 c1 c2 c3 cI nc (upd fo nc x) (upd th nc y) tg) := hD
  refine lv_aload_n hx hb dX0_append_22 rfl (lv_at hl 1 rfl) ?_
  refine va_get (D := (dC, dI)) (ci := 0) (v := .ref c3) (C := RX0) (T := TX0) (N := 4) hx hb hts (by decide +kernel) hown hK hP 0 rfl rfl 2 (by decide) (hts (.fieldLink RX0 18 "HandlerOptimizer$Code" "targets" "[I") (by decide +kernel)) (fun _ h9 => h9) rfl dX0_append_23 ?_
  refine lv_iload hx hb dX0_append_26 (lv_at hl 0 rfl) ?_
  refine lv_iload_n hx hb dX0_append_28 rfl (lv_at hl 4 rfl) ?_
  refine va_iast hx hb hK hP hD hS 3 0 rfl rfl (vp_in_nI (n := nc) (by omega) (by decide)) dX0_append_29 (fun H locs hP hD hS => ?_)
  rw [nI_clamp (n := nc) (by omega)] at hP hD
  have hP : va_P (dC, dI) vwCl (wC c0 c1 c2 c3 cI nc (upd fo nc x) (upd th nc y) (upd tg nc z)) H := hP
  have hD : va_D A (wC c0 c1 c2 c3 cI nc (upd fo nc x) (upd th nc y) (upd tg nc z)) := hD
  refine lv_aload_n hx hb dX0_append_30 rfl (lv_at hl 1 rfl) ?_
  refine lv_dup hx hb dX0_append_31 rfl ?_
  refine va_get (D := (dC, dI)) (ci := 0) (v := .int (nI nc)) (C := RX0) (T := TX0) (N := 4) hx hb hts (by decide +kernel) hown hK hP 0 rfl rfl 3 (by decide) (hts (.fieldLink RX0 21 "HandlerOptimizer$Code" "count" "I") (by decide +kernel)) (fun _ h9 => h9) rfl dX0_append_32 ?_
  refine lv_iconst (v := 1) hx hb dX0_append_35 (by decide) ?_
  refine lv_iadd hx hb dX0_append_36 ?_
  refine zz_top (y := nI (nc + 1)) (nI_add _ _) ?_
  refine va_put (D := (dC, dI)) (ci := 0) (v := .int (nI (nc + 1))) (ty := .int) (C := RX0) (T := TX0) (N := 4) hx hb hts (by decide +kernel) tyX0 tyX0_ok nmX0 hown hK hP hD hS 0 rfl rfl 3 (by decide) (hts (.fieldLink RX0 21 "HandlerOptimizer$Code" "count" "I") (by decide +kernel)) (fun _ h9 => h9) rfl (by decide +kernel) rfl rfl (Nat.le_of_ble_eq_true rfl) dX0_append_37 (fun H locs hP hD hS => ?_)
  have hP : va_P (dC, dI) vwCl (wC c0 c1 c2 c3 cI (nc + 1) (upd fo nc x) (upd th nc y) (upd tg nc z)) H := hP
  have hD : va_D A (wC c0 c1 c2 c3 cI (nc + 1) (upd fo nc x) (upd th nc y) (upd tg nc z)) := hD
  refine lv_iload hx hb dX0_append_40 (lv_at hl 0 rfl) ?_
  rw [← hQ]
  have hP9 := hP
  have hD9 := hD
  exact W.iret (v := nI nc) hx hb hr (fun t ht hW => ⟨⟨nI nc, (), rfl, rfl, (by rw [ht]; exact hP9), va_K.moved hW.alike hK, hD9⟩, hS.F ht⟩) hS.2.2 dX0_append_42

set_option maxHeartbeats 4000000 in
set_option maxRecDepth 100000 in
theorem c_X0_normalOptions (l : Launch) (dC : Nat → ClassId) (dI : Nat → Nat → Nat) (cI cZ cJ : ClassId) (c0 : Nat) (c1 : Nat) (c2 : Nat) (c3 : Nat) (nc : Nat) (fo : Nat → Int32) (th : Nat → Int32) (tg : Nat → Int32) (i : Nat) (hi : i < 48) : Met l yX0_normalOptions wsX0_normalOptions ({ frames := 0, cells := 0, slots := 0, locals := 0 } : Room) (va_Pc [.ref c0, .int (nI i)] (zPre (dC, dI) [(cI, .int), (cZ, .boolean), (cJ, .long)] (wC c0 c1 c2 c3 cI nc fo th tg))) (va_Qi (fun (r : Int32) (_ : Unit) => r = nI (noN (fo i))) (fun _ _ => True) (fun _ => False)) 0 0 (fun _ => False) := by
  refine Met.ofW (cc := cX0_normalOptions) (maxL := 2) (ret := (some .int)) (by decide) rfl ?_
  intro p e s m args below meth c s₁ B hml hv
  obtain ⟨hav, hP, hK, hn⟩ := hv
  have hx := B.exec
  have hb := B.bytes
  have hr := B.returns
  have hts := atoms_spec (ws := wsX0_normalOptions) B.pre
  have hown : s.vm.findClass RX0 = some m.cls := findClass_of_methodNamed B.named
  have hlocks := B.notSynchronized
  have hS : va_S (fun _ => False) s.heap s.heap [] := va_S.rf
  generalize hQ : MQ below (va_Qi (fun (r : Int32) (_ : Unit) => r = nI (noN (fo i))) (fun _ _ => True) (fun _ => False)) args s 0 0 (fun _ => False) = Q
  refine W.eq (g2 := entryFrame m ([.ref c0, .int (nI i)] : List Value).toArray 2) (by rw [hav]) ?_
  have hl := lv_entry ([.ref c0, .int (nI i)]) (n := 2) (Nat.le_of_ble_eq_true rfl)
  rw [lg_entry_eq]
  generalize (lg_sl ([.ref c0, .int (nI i)]) ++ List.replicate (2 - (lg_sl ([.ref c0, .int (nI i)])).length) Slot.unset).toArray = ls at hl ⊢
  have hl : lv_has ls 2 [(0, .ref c0), (1, .int (nI i))] := hl
  obtain ⟨H, hH⟩ : ∃ H, H = s.heap := ⟨_, rfl⟩
  obtain ⟨locs, hlo⟩ : ∃ q : List Loc, q = [] := ⟨_, rfl⟩
  have hP : va_P (dC, dI) vwCl (wC c0 c1 c2 c3 cI nc fo th tg) H := by rw [hH]; exact hP
  have hS : va_S (fun _ => False) s.heap H locs := by rw [hH, hlo]; exact hS
  refine zz_hl hH hlo ?_
  refine lv_aload_n hx hb dX0_normalOptions_0 rfl (lv_at hl 0 rfl) ?_
  refine va_get (D := (dC, dI)) (ci := 0) (v := .ref c1) (C := RX0) (T := TX0) (N := 4) hx hb hts (by decide +kernel) hown hK hP 0 rfl rfl 0 (by decide) (hts (.fieldLink RX0 9 "HandlerOptimizer$Code" "forms" "[I") (by decide +kernel)) (fun _ h9 => h9) rfl dX0_normalOptions_1 ?_
  refine lv_iload_n hx hb dX0_normalOptions_4 rfl (lv_at hl 1 rfl) ?_
  refine va_iald hx hb hK hP 1 0 rfl rfl (vp_in_nI (n := i) (by omega) (by decide)) dX0_normalOptions_5 ?_
  refine zz_top (y := fo i) (congrArg _ (nI_clamp (by omega))) ?_
  by_cases w_1_2 : fo i = 2
  · 
    refine lv_lookup (off := 26) (tgt := 32) hx hb dX0_normalOptions_6 (by decide) (by rw [w_1_2]; decide) (by decide) ?_
    refine lv_iconst (v := 2) hx hb dX0_normalOptions_32 (by decide) ?_
    rw [← hQ]
    exact W.iret (v := 2) hx hb hr (fun t ht hW => ⟨⟨2, (), rfl, (by rw [show noN (fo i) = 2 from by simp [noN, *]]; rfl), trivial⟩, hS.F ht⟩) hS.2.2 dX0_normalOptions_33
  by_cases w_1_4 : fo i = 4
  · 
    refine lv_lookup (off := 28) (tgt := 34) hx hb dX0_normalOptions_6 (by decide) (by rw [w_1_4]; decide) (by decide) ?_
    refine lv_iconst (v := 0) hx hb dX0_normalOptions_34 (by decide) ?_
    rw [← hQ]
    exact W.iret (v := 0) hx hb hr (fun t ht hW => ⟨⟨0, (), rfl, (by rw [show noN (fo i) = 0 from by simp [noN, *]]; rfl), trivial⟩, hS.F ht⟩) hS.2.2 dX0_normalOptions_35
  refine lv_lookup (off := 30) (tgt := 36) hx hb dX0_normalOptions_6 (by decide) (by have := zz_tn (n := 2) (by decide) w_1_2; have := zz_tn (n := 4) (by decide) w_1_4; simp [Op.lookupswitch.offset, *]) (by decide) ?_
  refine lv_iconst (v := 1) hx hb dX0_normalOptions_36 (by decide) ?_
  rw [← hQ]
  exact W.iret (v := 1) hx hb hr (fun t ht hW => ⟨⟨1, (), rfl, (by rw [show noN (fo i) = 1 from by simp [noN, *]]; rfl), trivial⟩, hS.F ht⟩) hS.2.2 dX0_normalOptions_37

set_option maxHeartbeats 4000000 in
set_option maxRecDepth 100000 in
theorem c_X0_normalNext (l : Launch) (dC : Nat → ClassId) (dI : Nat → Nat → Nat) (cI cZ cJ : ClassId) (c0 : Nat) (c1 : Nat) (c2 : Nat) (c3 : Nat) (nc : Nat) (fo : Nat → Int32) (th : Nat → Int32) (tg : Nat → Int32) (i : Nat) (o : Nat) (hi : i < 48) (ho : o < 100) : Met l yX0_normalNext wsX0_normalNext ({ frames := 0, cells := 0, slots := 0, locals := 0 } : Room) (va_Pc [.ref c0, .int (nI i), .int (nI o)] (zPre (dC, dI) [(cI, .int), (cZ, .boolean), (cJ, .long)] (wC c0 c1 c2 c3 cI nc fo th tg))) (va_Qi (fun (r : Int32) (_ : Unit) => r = nnx (fo i) (tg i) i o) (fun _ _ => True) (fun _ => False)) 0 0 (fun _ => False) := by
  refine Met.ofW (cc := cX0_normalNext) (maxL := 4) (ret := (some .int)) (by decide) rfl ?_
  intro p e s m args below meth c s₁ B hml hv
  obtain ⟨hav, hP, hK, hn⟩ := hv
  have hx := B.exec
  have hb := B.bytes
  have hr := B.returns
  have hts := atoms_spec (ws := wsX0_normalNext) B.pre
  have hown : s.vm.findClass RX0 = some m.cls := findClass_of_methodNamed B.named
  have hlocks := B.notSynchronized
  have hS : va_S (fun _ => False) s.heap s.heap [] := va_S.rf
  generalize hQ : MQ below (va_Qi (fun (r : Int32) (_ : Unit) => r = nnx (fo i) (tg i) i o) (fun _ _ => True) (fun _ => False)) args s 0 0 (fun _ => False) = Q
  refine W.eq (g2 := entryFrame m ([.ref c0, .int (nI i), .int (nI o)] : List Value).toArray 4) (by rw [hav]) ?_
  have hl := lv_entry ([.ref c0, .int (nI i), .int (nI o)]) (n := 4) (Nat.le_of_ble_eq_true rfl)
  rw [lg_entry_eq]
  generalize (lg_sl ([.ref c0, .int (nI i), .int (nI o)]) ++ List.replicate (4 - (lg_sl ([.ref c0, .int (nI i), .int (nI o)])).length) Slot.unset).toArray = ls at hl ⊢
  have hl : lv_has ls 4 [(0, .ref c0), (1, .int (nI i)), (2, .int (nI o))] := hl
  obtain ⟨H, hH⟩ : ∃ H, H = s.heap := ⟨_, rfl⟩
  obtain ⟨locs, hlo⟩ : ∃ q : List Loc, q = [] := ⟨_, rfl⟩
  have hP : va_P (dC, dI) vwCl (wC c0 c1 c2 c3 cI nc fo th tg) H := by rw [hH]; exact hP
  have hS : va_S (fun _ => False) s.heap H locs := by rw [hH, hlo]; exact hS
  refine zz_hl hH hlo ?_
  refine lv_aload_n hx hb dX0_normalNext_0 rfl (lv_at hl 0 rfl) ?_
  refine va_get (D := (dC, dI)) (ci := 0) (v := .ref c1) (C := RX0) (T := TX0) (N := 4) hx hb hts (by decide +kernel) hown hK hP 0 rfl rfl 0 (by decide) (hts (.fieldLink RX0 9 "HandlerOptimizer$Code" "forms" "[I") (by decide +kernel)) (fun _ h9 => h9) rfl dX0_normalNext_1 ?_
  refine lv_iload_n hx hb dX0_normalNext_4 rfl (lv_at hl 1 rfl) ?_
  refine va_iald hx hb hK hP 1 0 rfl rfl (vp_in_nI (n := i) (by omega) (by decide)) dX0_normalNext_5 ?_
  refine zz_top (y := fo i) (congrArg _ (nI_clamp (by omega))) ?_
  refine lv_iconst (v := 1) hx hb dX0_normalNext_6 (by decide) ?_
  refine lv_icmp_eq (tgt := 14) hx hb dX0_normalNext_7 (by decide) (fun c_1 => ?_) (fun c_1 => ?_)
  · skip
    skip
    refine lv_iconst (v := 1) hx hb dX0_normalNext_14 (by decide) ?_
    refine lv_goto (tgt := 19) hx hb dX0_normalNext_15 (by decide) ?_
    refine lv_istore_n (lv' := [(3, .int 1), (0, .ref c0), (1, .int (nI i)), (2, .int (nI o))]) hx hb dX0_normalNext_19 rfl hl (by decide) rfl (fun ls hl => ?_)
    refine lv_iload_n hx hb dX0_normalNext_20 rfl (lv_at hl 0 rfl) ?_
    refine lv_if_eq (tgt := 33) hx hb dX0_normalNext_21 (by decide) (fun c_2 => ?_) (fun c_2 => ?_)
    · exact absurd c_2 (by decide)
    · skip
      refine lv_aload_n hx hb dX0_normalNext_24 rfl (lv_at hl 1 rfl) ?_
      refine va_get (D := (dC, dI)) (ci := 0) (v := .ref c3) (C := RX0) (T := TX0) (N := 4) hx hb hts (by decide +kernel) hown hK hP 0 rfl rfl 2 (by decide) (hts (.fieldLink RX0 18 "HandlerOptimizer$Code" "targets" "[I") (by decide +kernel)) (fun _ h9 => h9) rfl dX0_normalNext_25 ?_
      refine lv_iload_n hx hb dX0_normalNext_28 rfl (lv_at hl 2 rfl) ?_
      refine va_iald hx hb hK hP 3 0 rfl rfl (vp_in_nI (n := i) (by omega) (by decide)) dX0_normalNext_29 ?_
      refine zz_top (y := tg i) (congrArg _ (nI_clamp (by omega))) ?_
      refine lv_goto (tgt := 36) hx hb dX0_normalNext_30 (by decide) ?_
      rw [← hQ]
      exact W.iret (v := tg i) hx hb hr (fun t ht hW => ⟨⟨tg i, (), rfl, (by first | (simp [nnx, *]; done) | (simp [nnx, *]; intro q; omega)), trivial⟩, hS.F ht⟩) hS.2.2 dX0_normalNext_36
  · skip
    skip
    refine lv_iload_n hx hb dX0_normalNext_10 rfl (lv_at hl 2 rfl) ?_
    refine lv_if_le (tgt := 18) hx hb dX0_normalNext_11 (by decide) (fun c_3 => ?_) (fun c_3 => ?_)
    · skip
      have c_3 := (zz_let (a := o) (b := 0) (by omega) (by omega)).mp c_3
      refine lv_iconst (v := 0) hx hb dX0_normalNext_18 (by decide) ?_
      refine lv_istore_n (lv' := [(3, .int 0), (0, .ref c0), (1, .int (nI i)), (2, .int (nI o))]) hx hb dX0_normalNext_19 rfl hl (by decide) rfl (fun ls hl => ?_)
      refine lv_iload_n hx hb dX0_normalNext_20 rfl (lv_at hl 0 rfl) ?_
      refine lv_if_eq (tgt := 33) hx hb dX0_normalNext_21 (by decide) (fun c_4 => ?_) (fun c_4 => ?_)
      · skip
        refine lv_iload_n hx hb dX0_normalNext_33 rfl (lv_at hl 2 rfl) ?_
        refine lv_iconst (v := 1) hx hb dX0_normalNext_34 (by decide) ?_
        refine lv_iadd hx hb dX0_normalNext_35 ?_
        refine zz_top (y := nI (i + 1)) (nI_add _ _) ?_
        rw [← hQ]
        exact W.iret (v := nI (i + 1)) hx hb hr (fun t ht hW => ⟨⟨nI (i + 1), (), rfl, (by first | (simp [nnx, *]; done) | (simp [nnx, *]; intro q; omega)), trivial⟩, hS.F ht⟩) hS.2.2 dX0_normalNext_36
      · exact absurd c_4 (by decide)
    · skip
      have c_3 := (zz_lef (a := o) (b := 0) (by omega) (by omega)).mp c_3
      refine lv_iconst (v := 1) hx hb dX0_normalNext_14 (by decide) ?_
      refine lv_goto (tgt := 19) hx hb dX0_normalNext_15 (by decide) ?_
      refine lv_istore_n (lv' := [(3, .int 1), (0, .ref c0), (1, .int (nI i)), (2, .int (nI o))]) hx hb dX0_normalNext_19 rfl hl (by decide) rfl (fun ls hl => ?_)
      refine lv_iload_n hx hb dX0_normalNext_20 rfl (lv_at hl 0 rfl) ?_
      refine lv_if_eq (tgt := 33) hx hb dX0_normalNext_21 (by decide) (fun c_5 => ?_) (fun c_5 => ?_)
      · exact absurd c_5 (by decide)
      · skip
        refine lv_aload_n hx hb dX0_normalNext_24 rfl (lv_at hl 1 rfl) ?_
        refine va_get (D := (dC, dI)) (ci := 0) (v := .ref c3) (C := RX0) (T := TX0) (N := 4) hx hb hts (by decide +kernel) hown hK hP 0 rfl rfl 2 (by decide) (hts (.fieldLink RX0 18 "HandlerOptimizer$Code" "targets" "[I") (by decide +kernel)) (fun _ h9 => h9) rfl dX0_normalNext_25 ?_
        refine lv_iload_n hx hb dX0_normalNext_28 rfl (lv_at hl 2 rfl) ?_
        refine va_iald hx hb hK hP 3 0 rfl rfl (vp_in_nI (n := i) (by omega) (by decide)) dX0_normalNext_29 ?_
        refine zz_top (y := tg i) (congrArg _ (nI_clamp (by omega))) ?_
        refine lv_goto (tgt := 36) hx hb dX0_normalNext_30 (by decide) ?_
        rw [← hQ]
        exact W.iret (v := tg i) hx hb hr (fun t ht hW => ⟨⟨tg i, (), rfl, (by first | (simp [nnx, *]; done) | (simp [nnx, *]; intro q; omega)), trivial⟩, hS.F ht⟩) hS.2.2 dX0_normalNext_36

set_option maxHeartbeats 4000000 in
set_option maxRecDepth 100000 in
theorem c_X1_append (l : Launch) (dC : Nat → ClassId) (dI : Nat → Nat → Nat) (cI cZ cJ : ClassId) (k0 : Nat) (k1 : Nat) (k2 : Nat) (nk : Nat) (pa : Nat → Int32) (fa : Nat → Int32) (par : Nat) (up : Nat → Nat → Bool) (sz : Nat) (hp : par < nk) (hnk : nk < 8) (hF : rF nk fa up) (hU : okU nk up) : Met l yX1_append wsX1_append ({ frames := 1, cells := 0, slots := 0, locals := 22 } : Room) (va_Pc [.ref k0, .int (nI par)] (zWr (dC, dI) [(cI, .int), (cZ, .boolean), (cJ, .long)] (wK k0 k1 k2 cI nk pa fa) sz)) (va_Qi (fun (r : Int32) (fa9 : Nat → Int32) => r = nI nk ∧ rF (nk + 1) fa9 (upN up nk par)) (fun fa9 t => zWo (dC, dI) [(cI, .int), (cZ, .boolean), (cJ, .long)] (wK k0 k1 k2 cI (nk + 1) (upd pa nk (nI par)) fa9) (va_A (wK k0 k1 k2 cI nk pa fa) sz) t) (va_A (wK k0 k1 k2 cI nk pa fa) sz)) 0 0 (va_A (wK k0 k1 k2 cI nk pa fa) sz) := by
  refine Met.ofW (cc := cX1_append) (maxL := 4) (ret := (some .int)) (by decide) rfl ?_
  intro p e s m args below meth c s₁ B hml hv
  obtain ⟨hav, hsz, ⟨hP, hK, hn⟩, hD0⟩ := hv
  have hx := B.exec
  have hb := B.bytes
  have hr := B.returns
  have hts := atoms_spec (ws := wsX1_append) B.pre
  have hown : s.vm.findClass RX1 = some m.cls := findClass_of_methodNamed B.named
  have hlocks := B.notSynchronized
  subst hsz
  have hD := hD0.self (sz := s.heap.size)
  generalize hAe : (va_A (wK k0 k1 k2 cI nk pa fa) s.heap.size) = A at hD ⊢
  have hA : ∀ q : Nat, s.heap.size ≤ q → A q := fun q h => by rw [← hAe]; exact Or.inr h
  have hS : va_S A s.heap s.heap [] := va_S.rf
  generalize hQ : MQ below (va_Qi (fun (r : Int32) (fa9 : Nat → Int32) => r = nI nk ∧ rF (nk + 1) fa9 (upN up nk par)) (fun fa9 t => zWo (dC, dI) [(cI, .int), (cZ, .boolean), (cJ, .long)] (wK k0 k1 k2 cI (nk + 1) (upd pa nk (nI par)) fa9) A t) A) args s 0 0 A = Q
  refine W.eq (g2 := entryFrame m ([.ref k0, .int (nI par)] : List Value).toArray 4) (by rw [hav]) ?_
  have hl := lv_entry ([.ref k0, .int (nI par)]) (n := 4) (Nat.le_of_ble_eq_true rfl)
  rw [lg_entry_eq]
  generalize (lg_sl ([.ref k0, .int (nI par)]) ++ List.replicate (4 - (lg_sl ([.ref k0, .int (nI par)])).length) Slot.unset).toArray = ls at hl ⊢
  have hl : lv_has ls 4 [(0, .ref k0), (1, .int (nI par))] := hl
  obtain ⟨H, hH⟩ : ∃ H, H = s.heap := ⟨_, rfl⟩
  obtain ⟨locs, hlo⟩ : ∃ q : List Loc, q = [] := ⟨_, rfl⟩
  have hP : va_P (dC, dI) vwCl (wK k0 k1 k2 cI nk pa fa) H := by rw [hH]; exact hP
  have hS : va_S A s.heap H locs := by rw [hH, hlo]; exact hS
  refine zz_hl hH hlo ?_
  refine lv_aload_n hx hb dX1_append_0 rfl (lv_at hl 0 rfl) ?_
  refine va_get (D := (dC, dI)) (ci := 1) (v := .int (nI nk)) (C := RX1) (T := TX1) (N := 3) hx hb hts (by decide +kernel) hown hK hP 0 rfl rfl 2 (by decide) (hts (.fieldLink RX1 18 "HandlerOptimizer$Kinds" "count" "I") (by decide +kernel)) (fun _ h9 => h9) rfl dX1_append_1 ?_
  refine lv_istore_n (lv' := [(2, .int (nI nk)), (0, .ref k0), (1, .int (nI par))]) hx hb dX1_append_4 rfl hl (by decide) rfl (fun ls hl => ?_)
  refine lv_iconst (v := 0) hx hb dX1_append_5 (by decide) ?_
  refine lv_istore_n (lv' := [(3, .int 0), (2, .int (nI nk)), (0, .ref k0), (1, .int (nI par))]) hx hb dX1_append_6 rfl hl (by decide) rfl (fun ls hl => ?_)
  have J_7 : ∀ (n9 : Nat) (y : Nat) (f : Nat → Int32) (H : Heap) (locs : List Loc) (ls : Array Slot), (y ≤ nk) → (fm up nk par y f) → nk - y < n9 → va_P (dC, dI) vwCl (wK k0 k1 k2 cI nk pa f) H → va_D A (wK k0 k1 k2 cI nk pa f) → va_S A s.heap H locs → lv_has ls 4 [(0, .ref k0), (1, .int (nI par)), (2, .int (nI nk)), (3, .int (nI y))] → W p l e (headSpec wsX1_append ({ frames := 1, cells := 0, slots := 0, locals := 22 } : Room)).room s m args below meth c H locs 0 0 Q (F0 m 7 ls []) := by
    intro n9
    induction n9 with
    | zero => intro y f H locs ls hy hf hmu; exact absurd hmu (Nat.not_lt_zero _)
    | succ n9 ih_7 =>
      intro y f H locs ls hy hf hmu hP hD hS hl
      refine lv_iload_n hx hb dX1_append_7 rfl (lv_at hl 3 rfl) ?_
      refine lv_iload_n hx hb dX1_append_8 rfl (lv_at hl 2 rfl) ?_
      refine lv_icmp_ge (tgt := 39) hx hb dX1_append_9 (by decide) (fun c_1 => ?_) (fun c_1 => ?_)
      · skip
        have c_1 := (zz_get (a := y) (b := nk) (by omega) (by omega)).mp c_1
        refine lv_aload_n hx hb dX1_append_39 rfl (lv_at hl 0 rfl) ?_
        refine va_get (D := (dC, dI)) (ci := 1) (v := .ref k1) (C := RX1) (T := TX1) (N := 3) hx hb hts (by decide +kernel) hown hK hP 0 rfl rfl 0 (by decide) (hts (.fieldLink RX1 9 "HandlerOptimizer$Kinds" "parents" "[I") (by decide +kernel)) (fun _ h9 => h9) rfl dX1_append_40 ?_
        refine lv_iload_n hx hb dX1_append_43 rfl (lv_at hl 2 rfl) ?_
        refine lv_iload_n hx hb dX1_append_44 rfl (lv_at hl 1 rfl) ?_
        refine va_iast hx hb hK hP hD hS 1 0 rfl rfl (vp_in_nI (n := nk) (by omega) (by decide)) dX1_append_45 (fun H locs hP hD hS => ?_)
        rw [nI_clamp (n := nk) (by omega)] at hP hD
        have hP : va_P (dC, dI) vwCl (wK k0 k1 k2 cI nk (upd pa nk (nI par)) f) H := hP
        have hD : va_D A (wK k0 k1 k2 cI nk (upd pa nk (nI par)) f) := hD
        refine lv_aload_n hx hb dX1_append_46 rfl (lv_at hl 0 rfl) ?_
        refine va_get (D := (dC, dI)) (ci := 1) (v := .ref k2) (C := RX1) (T := TX1) (N := 3) hx hb hts (by decide +kernel) hown hK hP 0 rfl rfl 1 (by decide) (hts (.fieldLink RX1 15 "HandlerOptimizer$Kinds" "families" "[I") (by decide +kernel)) (fun _ h9 => h9) rfl dX1_append_47 ?_
        refine lv_iload_n hx hb dX1_append_50 rfl (lv_at hl 2 rfl) ?_
        refine lv_iconst (v := 1) hx hb dX1_append_51 (by decide) ?_
        refine lv_iload_n hx hb dX1_append_52 rfl (lv_at hl 2 rfl) ?_
        refine lv_ishl hx hb dX1_append_53 ?_
        refine va_iast hx hb hK hP hD hS 2 0 rfl rfl (vp_in_nI (n := nk) (by omega) (by decide)) dX1_append_54 (fun H locs hP hD hS => ?_)
        rw [nI_clamp (n := nk) (by omega)] at hP hD
        have hP : va_P (dC, dI) vwCl (wK k0 k1 k2 cI nk (upd pa nk (nI par)) (upd f nk (1 <<< ((nI nk) &&& 31)))) H := hP
        have hD : va_D A (wK k0 k1 k2 cI nk (upd pa nk (nI par)) (upd f nk (1 <<< ((nI nk) &&& 31)))) := hD
        refine lv_aload_n hx hb dX1_append_55 rfl (lv_at hl 0 rfl) ?_
        refine lv_dup hx hb dX1_append_56 rfl ?_
        refine va_get (D := (dC, dI)) (ci := 1) (v := .int (nI nk)) (C := RX1) (T := TX1) (N := 3) hx hb hts (by decide +kernel) hown hK hP 0 rfl rfl 2 (by decide) (hts (.fieldLink RX1 18 "HandlerOptimizer$Kinds" "count" "I") (by decide +kernel)) (fun _ h9 => h9) rfl dX1_append_57 ?_
        refine lv_iconst (v := 1) hx hb dX1_append_60 (by decide) ?_
        refine lv_iadd hx hb dX1_append_61 ?_
        refine zz_top (y := nI (nk + 1)) (nI_add _ _) ?_
        refine va_put (D := (dC, dI)) (ci := 1) (v := .int (nI (nk + 1))) (ty := .int) (C := RX1) (T := TX1) (N := 3) hx hb hts (by decide +kernel) tyX1 tyX1_ok nmX1 hown hK hP hD hS 0 rfl rfl 2 (by decide) (hts (.fieldLink RX1 18 "HandlerOptimizer$Kinds" "count" "I") (by decide +kernel)) (fun _ h9 => h9) rfl (by decide +kernel) rfl rfl (Nat.le_of_ble_eq_true rfl) dX1_append_62 (fun H locs hP hD hS => ?_)
        have hP : va_P (dC, dI) vwCl (wK k0 k1 k2 cI (nk + 1) (upd pa nk (nI par)) (upd f nk (1 <<< ((nI nk) &&& 31)))) H := hP
        have hD : va_D A (wK k0 k1 k2 cI (nk + 1) (upd pa nk (nI par)) (upd f nk (1 <<< ((nI nk) &&& 31)))) := hD
        refine lv_iload_n hx hb dX1_append_65 rfl (lv_at hl 2 rfl) ?_
        rw [← hQ]
        have hP9 := hP
        have hD9 := hD
        exact W.iret (v := nI nk) hx hb hr (fun t ht hW => ⟨⟨nI nk, upd f nk (1 <<< ((nI nk) &&& 31)), rfl, (⟨rfl, fm_end (by rw [show nk = y from by omega] at hf ⊢; exact hf) hU (by omega)⟩), (by rw [ht]; exact hP9), va_K.moved hW.alike hK, hD9⟩, hS.F ht⟩) hS.2.2 dX1_append_66
      · skip
        have c_1 := (zz_gef (a := y) (b := nk) (by omega) (by omega)).mp c_1
        refine lv_aload_n hx hb dX1_append_12 rfl (lv_at hl 0 rfl) ?_
        refine lv_iload_n hx hb dX1_append_13 rfl (lv_at hl 1 rfl) ?_
        refine lv_iload_n hx hb dX1_append_14 rfl (lv_at hl 3 rfl) ?_
        refine va_calli (va_runV (As := [.int (nI par), .int (nI y)]) (rest := []) ⟨hx, hb, hml, hown, hts⟩ (c_X1_isInFamily l dC dI cI cZ cJ k0 k1 k2 nk pa f par y (by first | assumption | omega) (by first | assumption | omega)) (cwV 2 hts gX1_append_X1_isInFamily rfl rfl rfl (by decide +kernel) ⟨Nat.le_of_ble_eq_true rfl, Nat.le_of_ble_eq_true rfl⟩) ⟨zPre_blind, va_recv hK hP (ci := 1) (q0 := 0) rfl rfl, zPre_at hP hK hn⟩ rfl rfl hl.1 rfl (lv_room (Nat.le_of_ble_eq_true rfl)) dX1_append_15 ⟨Nat.le_of_ble_eq_true rfl, Nat.le_of_ble_eq_true rfl⟩) hS (fun _ _ h => h.elim) (fun _ h => h.elim) (fun r_2 u_9 t H locs ht hvm hw hB hz1 hk1 hS => ?_)
        have hP := zkeep hP hk1
        subst hw
        refine lv_if_eq (tgt := 33) hx hb dX1_append_18 (by decide) (fun c_3 => ?_) (fun c_3 => ?_)
        · skip
          have c9 := (fm_par hf (by omega) hp (by omega)).symm.trans (zb_0.mp c_3)
          refine lv_iinc (v := nI (y + 1)) (lv' := [(3, .int (nI (y + 1))), (0, .ref k0), (1, .int (nI par)), (2, .int (nI nk))]) hx hb dX1_append_33 hl (k := 3) rfl (zz_inc y 1) (by decide) rfl (fun ls hl => ?_)
          refine lv_goto (tgt := 7) hx hb dX1_append_36 (by decide) ?_
          exact ih_7 (y + 1) f _ _ _ (by first | assumption | omega) (by first | exact fm_f hf c9 | exact fm_t hf c9 (by omega) (by omega)) (by omega) hP hD hS (lv_sub hl [1, 2, 3, 0] rfl)
        · skip
          have c9 := (fm_par hf (by omega) hp (by omega)).symm.trans (zb_1.mp c_3)
          refine lv_aload_n hx hb dX1_append_21 rfl (lv_at hl 0 rfl) ?_
          refine va_get (D := (dC, dI)) (ci := 1) (v := .ref k2) (C := RX1) (T := TX1) (N := 3) hx hb hts (by decide +kernel) hown hK hP 0 rfl rfl 1 (by decide) (hts (.fieldLink RX1 15 "HandlerOptimizer$Kinds" "families" "[I") (by decide +kernel)) (fun _ h9 => h9) rfl dX1_append_22 ?_
          refine lv_iload_n hx hb dX1_append_25 rfl (lv_at hl 3 rfl) ?_
          refine lv_dup2_11 hx hb dX1_append_26 rfl rfl ?_
          refine va_iald hx hb hK hP 2 0 rfl rfl (vp_in_nI (n := y) (by omega) (by decide)) dX1_append_27 ?_
          refine zz_top (y := f y) (congrArg _ (nI_clamp (by omega))) ?_
          refine lv_iconst (v := 1) hx hb dX1_append_28 (by decide) ?_
          refine lv_iload_n hx hb dX1_append_29 rfl (lv_at hl 2 rfl) ?_
          refine lv_ishl hx hb dX1_append_30 ?_
          refine lv_ior hx hb dX1_append_31 ?_
          refine va_iast hx hb hK hP hD hS 2 0 rfl rfl (vp_in_nI (n := y) (by omega) (by decide)) dX1_append_32 (fun H locs hP hD hS => ?_)
          rw [nI_clamp (n := y) (by omega)] at hP hD
          have hP : va_P (dC, dI) vwCl (wK k0 k1 k2 cI nk pa (upd f y ((f y) ||| (1 <<< ((nI nk) &&& 31))))) H := hP
          have hD : va_D A (wK k0 k1 k2 cI nk pa (upd f y ((f y) ||| (1 <<< ((nI nk) &&& 31))))) := hD
          refine lv_iinc (v := nI (y + 1)) (lv' := [(3, .int (nI (y + 1))), (0, .ref k0), (1, .int (nI par)), (2, .int (nI nk))]) hx hb dX1_append_33 hl (k := 3) rfl (zz_inc y 1) (by decide) rfl (fun ls hl => ?_)
          refine lv_goto (tgt := 7) hx hb dX1_append_36 (by decide) ?_
          exact ih_7 (y + 1) (upd f y ((f y) ||| (1 <<< ((nI nk) &&& 31)))) _ _ _ (by first | assumption | omega) (by first | exact fm_f hf c9 | exact fm_t hf c9 (by omega) (by omega)) (by omega) hP hD hS (lv_sub hl [1, 2, 3, 0] rfl)
  exact J_7 _ 0 fa _ _ _ (by first | assumption | omega) (fm_0 hF) (Nat.lt_succ_self _) hP hD hS (lv_sub hl [2, 3, 1, 0] rfl)

set_option maxHeartbeats 4000000 in
set_option maxRecDepth 100000 in
theorem c_X1_lowestAbove (l : Launch) (dC : Nat → ClassId) (dI : Nat → Nat → Nat) (cI cZ cJ : ClassId) (k0 : Nat) (k1 : Nat) (k2 : Nat) (nk : Nat) (pa : Nat → Int32) (fa : Nat → Int32) (a : Nat) (b : Nat) (up : Nat → Nat → Bool) (ha : a < nk) (hb9 : b < nk) (hnk : nk ≤ 8) (hF : rF nk fa up) (hU : okU nk up) : Met l yX1_lowestAbove wsX1_lowestAbove ({ frames := 1, cells := 0, slots := 0, locals := 22 } : Room) (va_Pc [.ref k0, .int (nI a), .int (nI b)] (zPre (dC, dI) [(cI, .int), (cZ, .boolean), (cJ, .long)] (wK k0 k1 k2 cI nk pa fa))) (va_Qi (fun (r : Int32) (_ : Unit) => r = nI (lw up nk a b)) (fun _ _ => True) (fun _ => False)) 0 0 (fun _ => False) := by
  refine Met.ofW (cc := cX1_lowestAbove) (maxL := 4) (ret := (some .int)) (by decide) rfl ?_
  intro p e s m args below meth c s₁ B hml hv
  obtain ⟨hav, hP, hK, hn⟩ := hv
  have hx := B.exec
  have hb := B.bytes
  have hr := B.returns
  have hts := atoms_spec (ws := wsX1_lowestAbove) B.pre
  have hown : s.vm.findClass RX1 = some m.cls := findClass_of_methodNamed B.named
  have hlocks := B.notSynchronized
  have hS : va_S (fun _ => False) s.heap s.heap [] := va_S.rf
  generalize hQ : MQ below (va_Qi (fun (r : Int32) (_ : Unit) => r = nI (lw up nk a b)) (fun _ _ => True) (fun _ => False)) args s 0 0 (fun _ => False) = Q
  refine W.eq (g2 := entryFrame m ([.ref k0, .int (nI a), .int (nI b)] : List Value).toArray 4) (by rw [hav]) ?_
  have hl := lv_entry ([.ref k0, .int (nI a), .int (nI b)]) (n := 4) (Nat.le_of_ble_eq_true rfl)
  rw [lg_entry_eq]
  generalize (lg_sl ([.ref k0, .int (nI a), .int (nI b)]) ++ List.replicate (4 - (lg_sl ([.ref k0, .int (nI a), .int (nI b)])).length) Slot.unset).toArray = ls at hl ⊢
  have hl : lv_has ls 4 [(0, .ref k0), (1, .int (nI a)), (2, .int (nI b))] := hl
  obtain ⟨H, hH⟩ : ∃ H, H = s.heap := ⟨_, rfl⟩
  obtain ⟨locs, hlo⟩ : ∃ q : List Loc, q = [] := ⟨_, rfl⟩
  have hP : va_P (dC, dI) vwCl (wK k0 k1 k2 cI nk pa fa) H := by rw [hH]; exact hP
  have hS : va_S (fun _ => False) s.heap H locs := by rw [hH, hlo]; exact hS
  refine zz_hl hH hlo ?_
  refine lv_iload_n hx hb dX1_lowestAbove_0 rfl (lv_at hl 1 rfl) ?_
  refine lv_iload_n hx hb dX1_lowestAbove_1 rfl (lv_at hl 2 rfl) ?_
  refine va_mmin hx hb (by rw [hml]; exact hl.1.symm) (own := RX1) hown (hts (.methodLink RX1 26 Lib.Math.min.name) (by decide +kernel)) (hts (.static Lib.Math.min.name) (by decide +kernel)) (hts (.initialized "java/lang/Math") (by decide +kernel)) (hts (.code Lib.Math.min.name Lib.Math.min.code 2 (some .int)) (by decide +kernel)) (Nat.le_of_ble_eq_true rfl) (Nat.le_of_ble_eq_true rfl) (Nat.zero_le _) (Nat.zero_le _) dX1_lowestAbove_2 ?_
  refine zz_top (y := nI (min a b)) (zz_min (by omega) (by omega)) ?_
  refine lv_istore_n (lv' := [(3, .int (nI (min a b))), (0, .ref k0), (1, .int (nI a)), (2, .int (nI b))]) hx hb dX1_lowestAbove_5 rfl hl (by decide) rfl (fun ls hl => ?_)
  have J_6 : ∀ (n9 : Nat) (y : Nat) (H : Heap) (locs : List Loc) (ls : Array Slot), (y < nk) → (∀ j, y < j → j < nk → (up a j && up b j) = false) → y < n9 → va_P (dC, dI) vwCl (wK k0 k1 k2 cI nk pa fa) H → va_S (fun _ => False) s.heap H locs → lv_has ls 4 [(0, .ref k0), (1, .int (nI a)), (2, .int (nI b)), (3, .int (nI y))] → W p l e (headSpec wsX1_lowestAbove ({ frames := 1, cells := 0, slots := 0, locals := 22 } : Room)).room s m args below meth c H locs 0 0 Q (F0 m 6 ls []) := by
    intro n9
    induction n9 with
    | zero => intro y H locs ls hy hgt hmu; exact absurd hmu (Nat.not_lt_zero _)
    | succ n9 ih_6 =>
      intro y H locs ls hy hgt hmu hP hS hl
      refine lv_iload_n hx hb dX1_lowestAbove_6 rfl (lv_at hl 3 rfl) ?_
      refine lv_if_le (tgt := 36) hx hb dX1_lowestAbove_7 (by decide) (fun c_1 => ?_) (fun c_1 => ?_)
      · skip
        have c_1 := (zz_let (a := y) (b := 0) (by omega) (by omega)).mp c_1
        refine lv_iconst (v := 0) hx hb dX1_lowestAbove_36 (by decide) ?_
        rw [← hQ]
        exact W.iret (v := 0) hx hb hr (fun t ht hW => ⟨⟨0, (), rfl, (lw_no (fun j h1 h2 => hgt j (by omega) h2)), trivial⟩, hS.F ht⟩) hS.2.2 dX1_lowestAbove_37
      · skip
        have c_1 := (zz_lef (a := y) (b := 0) (by omega) (by omega)).mp c_1
        refine lv_aload_n hx hb dX1_lowestAbove_10 rfl (lv_at hl 0 rfl) ?_
        refine lv_iload_n hx hb dX1_lowestAbove_11 rfl (lv_at hl 1 rfl) ?_
        refine lv_iload_n hx hb dX1_lowestAbove_12 rfl (lv_at hl 3 rfl) ?_
        refine va_calli (va_runV (As := [.int (nI a), .int (nI y)]) (rest := []) ⟨hx, hb, hml, hown, hts⟩ (c_X1_isInFamily l dC dI cI cZ cJ k0 k1 k2 nk pa fa a y (by first | assumption | omega) (by first | assumption | omega)) (cwV 2 hts gX1_lowestAbove_X1_isInFamily rfl rfl rfl (by decide +kernel) ⟨Nat.le_of_ble_eq_true rfl, Nat.le_of_ble_eq_true rfl⟩) ⟨zPre_blind, va_recv hK hP (ci := 1) (q0 := 0) rfl rfl, zPre_at hP hK hn⟩ rfl rfl hl.1 rfl (lv_room (Nat.le_of_ble_eq_true rfl)) dX1_lowestAbove_13 ⟨Nat.le_of_ble_eq_true rfl, Nat.le_of_ble_eq_true rfl⟩) hS (fun _ _ h => h.elim) (fun _ h => h.elim) (fun r_2 u_9 t H locs ht hvm hw hB hz1 hk1 hS => ?_)
        have hP := zkeep hP hk1
        subst hw
        refine lv_if_eq (tgt := 30) hx hb dX1_lowestAbove_16 (by decide) (fun c_3 => ?_) (fun c_3 => ?_)
        · skip
          have c_3 := zb_0.mp c_3
          refine lv_iinc (v := nI (y - 1)) (lv' := [(3, .int (nI (y - 1))), (0, .ref k0), (1, .int (nI a)), (2, .int (nI b))]) hx hb dX1_lowestAbove_30 hl (k := 3) rfl (zz_dec1 (by omega)) (by decide) rfl (fun ls hl => ?_)
          refine lv_goto (tgt := 6) hx hb dX1_lowestAbove_33 (by decide) ?_
          exact ih_6 (y - 1) _ _ _ (by first | assumption | omega) (lw_step hgt (by rw [← hF y hy a (by omega), ← hF y hy b (by omega)]; simp [*])) (by omega) hP hS (lv_sub hl [1, 2, 3, 0] rfl)
        · skip
          have c_3 := zb_1.mp c_3
          refine lv_aload_n hx hb dX1_lowestAbove_19 rfl (lv_at hl 0 rfl) ?_
          refine lv_iload_n hx hb dX1_lowestAbove_20 rfl (lv_at hl 2 rfl) ?_
          refine lv_iload_n hx hb dX1_lowestAbove_21 rfl (lv_at hl 3 rfl) ?_
          refine va_calli (va_runV (As := [.int (nI b), .int (nI y)]) (rest := []) ⟨hx, hb, hml, hown, hts⟩ (c_X1_isInFamily l dC dI cI cZ cJ k0 k1 k2 nk pa fa b y (by first | assumption | omega) (by first | assumption | omega)) (cwV 2 hts gX1_lowestAbove_X1_isInFamily rfl rfl rfl (by decide +kernel) ⟨Nat.le_of_ble_eq_true rfl, Nat.le_of_ble_eq_true rfl⟩) ⟨zPre_blind, va_recv hK hP (ci := 1) (q0 := 0) rfl rfl, zPre_at hP hK hn⟩ rfl rfl hl.1 rfl (lv_room (Nat.le_of_ble_eq_true rfl)) dX1_lowestAbove_22 ⟨Nat.le_of_ble_eq_true rfl, Nat.le_of_ble_eq_true rfl⟩) hS (fun _ _ h => h.elim) (fun _ h => h.elim) (fun r_4 u_9 t H locs ht hvm hw hB hz1 hk1 hS => ?_)
          have hP := zkeep hP hk1
          subst hw
          refine lv_if_eq (tgt := 30) hx hb dX1_lowestAbove_25 (by decide) (fun c_5 => ?_) (fun c_5 => ?_)
          · skip
            have c_5 := zb_0.mp c_5
            refine lv_iinc (v := nI (y - 1)) (lv' := [(3, .int (nI (y - 1))), (0, .ref k0), (1, .int (nI a)), (2, .int (nI b))]) hx hb dX1_lowestAbove_30 hl (k := 3) rfl (zz_dec1 (by omega)) (by decide) rfl (fun ls hl => ?_)
            refine lv_goto (tgt := 6) hx hb dX1_lowestAbove_33 (by decide) ?_
            exact ih_6 (y - 1) _ _ _ (by first | assumption | omega) (lw_step hgt (by rw [← hF y hy a (by omega), ← hF y hy b (by omega)]; simp [*])) (by omega) hP hS (lv_sub hl [1, 2, 3, 0] rfl)
          · skip
            have c_5 := zb_1.mp c_5
            refine lv_iload_n hx hb dX1_lowestAbove_28 rfl (lv_at hl 3 rfl) ?_
            rw [← hQ]
            exact W.iret (v := nI y) hx hb hr (fun t ht hW => ⟨⟨nI y, (), rfl, (lw_hit hy (by rw [← hF y hy a (by omega)]; assumption) (by rw [← hF y hy b (by omega)]; assumption) hgt), trivial⟩, hS.F ht⟩) hS.2.2 dX1_lowestAbove_29
  exact J_6 _ (min a b) _ _ _ (by first | assumption | omega) (lw_init hU) (Nat.lt_succ_self _) hP hS (lv_sub hl [1, 2, 3, 0] rfl)

set_option maxHeartbeats 4000000 in
set_option maxRecDepth 100000 in
theorem c_X2_append (l : Launch) (dC : Nat → ClassId) (dI : Nat → Nat → Nat) (cI cZ cJ : ClassId) (t0 : Nat) (t1 : Nat) (t2 : Nat) (t3 : Nat) (t4 : Nat) (nt : Nat) (tb : Nat → Int32) (te : Nat → Int32) (tk : Nat → Int32) (tt : Nat → Int32) (b1 : Int32) (b2 : Int32) (b3 : Int32) (b4 : Int32) (sz : Nat) (hn9 : nt < 24) : Met l yX2_append wsX2_append ({ frames := 0, cells := 0, slots := 0, locals := 0 } : Room) (va_Pc [.ref t0, .int b1, .int b2, .int b3, .int b4] (zWr (dC, dI) [(cI, .int), (cZ, .boolean), (cJ, .long)] (wT t0 t1 t2 t3 t4 cI nt tb te tk tt) sz)) (va_Qi (fun (r : Int32) (_ : Unit) => r = nI nt) (fun _ t => zWo (dC, dI) [(cI, .int), (cZ, .boolean), (cJ, .long)] (wT t0 t1 t2 t3 t4 cI (nt + 1) (upd tb nt b1) (upd te nt b2) (upd tk nt b3) (upd tt nt b4)) (va_A (wT t0 t1 t2 t3 t4 cI nt tb te tk tt) sz) t) (va_A (wT t0 t1 t2 t3 t4 cI nt tb te tk tt) sz)) 0 0 (va_A (wT t0 t1 t2 t3 t4 cI nt tb te tk tt) sz) := by
  refine Met.ofW (cc := cX2_append) (maxL := 6) (ret := (some .int)) (by decide) rfl ?_
  intro p e s m args below meth c s₁ B hml hv
  obtain ⟨hav, hsz, ⟨hP, hK, hn⟩, hD0⟩ := hv
  have hx := B.exec
  have hb := B.bytes
  have hr := B.returns
  have hts := atoms_spec (ws := wsX2_append) B.pre
  have hown : s.vm.findClass RX2 = some m.cls := findClass_of_methodNamed B.named
  have hlocks := B.notSynchronized
  subst hsz
  have hD := hD0.self (sz := s.heap.size)
  generalize hAe : (va_A (wT t0 t1 t2 t3 t4 cI nt tb te tk tt) s.heap.size) = A at hD ⊢
  have hA : ∀ q : Nat, s.heap.size ≤ q → A q := fun q h => by rw [← hAe]; exact Or.inr h
  have hS : va_S A s.heap s.heap [] := va_S.rf
  generalize hQ : MQ below (va_Qi (fun (r : Int32) (_ : Unit) => r = nI nt) (fun _ t => zWo (dC, dI) [(cI, .int), (cZ, .boolean), (cJ, .long)] (wT t0 t1 t2 t3 t4 cI (nt + 1) (upd tb nt b1) (upd te nt b2) (upd tk nt b3) (upd tt nt b4)) A t) A) args s 0 0 A = Q
  refine W.eq (g2 := entryFrame m ([.ref t0, .int b1, .int b2, .int b3, .int b4] : List Value).toArray 6) (by rw [hav]) ?_
  have hl := lv_entry ([.ref t0, .int b1, .int b2, .int b3, .int b4]) (n := 6) (Nat.le_of_ble_eq_true rfl)
  rw [lg_entry_eq]
  generalize (lg_sl ([.ref t0, .int b1, .int b2, .int b3, .int b4]) ++ List.replicate (6 - (lg_sl ([.ref t0, .int b1, .int b2, .int b3, .int b4])).length) Slot.unset).toArray = ls at hl ⊢
  have hl : lv_has ls 6 [(0, .ref t0), (1, .int b1), (2, .int b2), (3, .int b3), (4, .int b4)] := hl
  obtain ⟨H, hH⟩ : ∃ H, H = s.heap := ⟨_, rfl⟩
  obtain ⟨locs, hlo⟩ : ∃ q : List Loc, q = [] := ⟨_, rfl⟩
  have hP : va_P (dC, dI) vwCl (wT t0 t1 t2 t3 t4 cI nt tb te tk tt) H := by rw [hH]; exact hP
  have hS : va_S A s.heap H locs := by rw [hH, hlo]; exact hS
  refine zz_hl hH hlo ?_
  refine lv_aload_n hx hb dX2_append_0 rfl (lv_at hl 0 rfl) ?_
  refine va_get (D := (dC, dI)) (ci := 2) (v := .int (nI nt)) (C := RX2) (T := TX2) (N := 5) hx hb hts (by decide +kernel) hown hK hP 0 rfl rfl 4 (by decide) (hts (.fieldLink RX2 24 "HandlerOptimizer$Table" "count" "I") (by decide +kernel)) (fun _ h9 => h9) rfl dX2_append_1 ?_
  refine lv_istore (lv' := [(5, .int (nI nt)), (0, .ref t0), (1, .int b1), (2, .int b2), (3, .int b3), (4, .int b4)]) hx hb dX2_append_4 hl (by decide) rfl (fun ls hl => ?_)
  refine lv_aload_n hx hb dX2_append_6 rfl (lv_at hl 1 rfl) ?_
  refine va_get (D := (dC, dI)) (ci := 2) (v := .ref t1) (C := RX2) (T := TX2) (N := 5) hx hb hts (by decide +kernel) hown hK hP 0 rfl rfl 0 (by decide) (hts (.fieldLink RX2 9 "HandlerOptimizer$Table" "begins" "[I") (by decide +kernel)) (fun _ h9 => h9) rfl dX2_append_7 ?_
  refine lv_iload hx hb dX2_append_10 (lv_at hl 0 rfl) ?_
  refine lv_iload_n hx hb dX2_append_12 rfl (lv_at hl 2 rfl) ?_
  refine va_iast hx hb hK hP hD hS 1 0 rfl rfl (vp_in_nI (n := nt) (by omega) (by decide)) dX2_append_13 (fun H locs hP hD hS => ?_)
  rw [nI_clamp (n := nt) (by omega)] at hP hD
  have hP : va_P (dC, dI) vwCl (wT t0 t1 t2 t3 t4 cI nt (upd tb nt b1) te tk tt) H := hP
  have hD : va_D A (wT t0 t1 t2 t3 t4 cI nt (upd tb nt b1) te tk tt) := hD
  refine lv_aload_n hx hb dX2_append_14 rfl (lv_at hl 1 rfl) ?_
  refine va_get (D := (dC, dI)) (ci := 2) (v := .ref t2) (C := RX2) (T := TX2) (N := 5) hx hb hts (by decide +kernel) hown hK hP 0 rfl rfl 1 (by decide) (hts (.fieldLink RX2 15 "HandlerOptimizer$Table" "ends" "[I") (by decide +kernel)) (fun _ h9 => h9) rfl dX2_append_15 ?_
  refine lv_iload hx hb dX2_append_18 (lv_at hl 0 rfl) ?_
  refine lv_iload_n hx hb dX2_append_20 rfl (lv_at hl 3 rfl) ?_
  refine va_iast hx hb hK hP hD hS 2 0 rfl rfl (vp_in_nI (n := nt) (by omega) (by decide)) dX2_append_21 (fun H locs hP hD hS => ?_)
  rw [nI_clamp (n := nt) (by omega)] at hP hD
  have hP : va_P (dC, dI) vwCl (wT t0 t1 t2 t3 t4 cI nt (upd tb nt b1) (upd te nt b2) tk tt) H := hP
  have hD : va_D A (wT t0 t1 t2 t3 t4 cI nt (upd tb nt b1) (upd te nt b2) tk tt) := hD
  refine lv_aload_n hx hb dX2_append_22 rfl (lv_at hl 1 rfl) ?_
  refine va_get (D := (dC, dI)) (ci := 2) (v := .ref t3) (C := RX2) (T := TX2) (N := 5) hx hb hts (by decide +kernel) hown hK hP 0 rfl rfl 2 (by decide) (hts (.fieldLink RX2 18 "HandlerOptimizer$Table" "kinds" "[I") (by decide +kernel)) (fun _ h9 => h9) rfl dX2_append_23 ?_
  refine lv_iload hx hb dX2_append_26 (lv_at hl 0 rfl) ?_
  refine lv_iload_n hx hb dX2_append_28 rfl (lv_at hl 4 rfl) ?_
  refine va_iast hx hb hK hP hD hS 3 0 rfl rfl (vp_in_nI (n := nt) (by omega) (by decide)) dX2_append_29 (fun H locs hP hD hS => ?_)
  rw [nI_clamp (n := nt) (by omega)] at hP hD
  have hP : va_P (dC, dI) vwCl (wT t0 t1 t2 t3 t4 cI nt (upd tb nt b1) (upd te nt b2) (upd tk nt b3) tt) H := hP
  have hD : va_D A (wT t0 t1 t2 t3 t4 cI nt (upd tb nt b1) (upd te nt b2) (upd tk nt b3) tt) := hD
  refine lv_aload_n hx hb dX2_append_30 rfl (lv_at hl 1 rfl) ?_
  refine va_get (D := (dC, dI)) (ci := 2) (v := .ref t4) (C := RX2) (T := TX2) (N := 5) hx hb hts (by decide +kernel) hown hK hP 0 rfl rfl 3 (by decide) (hts (.fieldLink RX2 21 "HandlerOptimizer$Table" "targets" "[I") (by decide +kernel)) (fun _ h9 => h9) rfl dX2_append_31 ?_
  refine lv_iload hx hb dX2_append_34 (lv_at hl 0 rfl) ?_
  refine lv_iload hx hb dX2_append_36 (lv_at hl 5 rfl) ?_
  refine va_iast hx hb hK hP hD hS 4 0 rfl rfl (vp_in_nI (n := nt) (by omega) (by decide)) dX2_append_38 (fun H locs hP hD hS => ?_)
  rw [nI_clamp (n := nt) (by omega)] at hP hD
  have hP : va_P (dC, dI) vwCl (wT t0 t1 t2 t3 t4 cI nt (upd tb nt b1) (upd te nt b2) (upd tk nt b3) (upd tt nt b4)) H := hP
  have hD : va_D A (wT t0 t1 t2 t3 t4 cI nt (upd tb nt b1) (upd te nt b2) (upd tk nt b3) (upd tt nt b4)) := hD
  refine lv_aload_n hx hb dX2_append_39 rfl (lv_at hl 1 rfl) ?_
  refine lv_dup hx hb dX2_append_40 rfl ?_
  refine va_get (D := (dC, dI)) (ci := 2) (v := .int (nI nt)) (C := RX2) (T := TX2) (N := 5) hx hb hts (by decide +kernel) hown hK hP 0 rfl rfl 4 (by decide) (hts (.fieldLink RX2 24 "HandlerOptimizer$Table" "count" "I") (by decide +kernel)) (fun _ h9 => h9) rfl dX2_append_41 ?_
  refine lv_iconst (v := 1) hx hb dX2_append_44 (by decide) ?_
  refine lv_iadd hx hb dX2_append_45 ?_
  refine zz_top (y := nI (nt + 1)) (nI_add _ _) ?_
  refine va_put (D := (dC, dI)) (ci := 2) (v := .int (nI (nt + 1))) (ty := .int) (C := RX2) (T := TX2) (N := 5) hx hb hts (by decide +kernel) tyX2 tyX2_ok nmX2 hown hK hP hD hS 0 rfl rfl 4 (by decide) (hts (.fieldLink RX2 24 "HandlerOptimizer$Table" "count" "I") (by decide +kernel)) (fun _ h9 => h9) rfl (by decide +kernel) rfl rfl (Nat.le_of_ble_eq_true rfl) dX2_append_46 (fun H locs hP hD hS => ?_)
  have hP : va_P (dC, dI) vwCl (wT t0 t1 t2 t3 t4 cI (nt + 1) (upd tb nt b1) (upd te nt b2) (upd tk nt b3) (upd tt nt b4)) H := hP
  have hD : va_D A (wT t0 t1 t2 t3 t4 cI (nt + 1) (upd tb nt b1) (upd te nt b2) (upd tk nt b3) (upd tt nt b4)) := hD
  refine lv_iload hx hb dX2_append_49 (lv_at hl 0 rfl) ?_
  rw [← hQ]
  have hP9 := hP
  have hD9 := hD
  exact W.iret (v := nI nt) hx hb hr (fun t ht hW => ⟨⟨nI nt, (), rfl, rfl, (by rw [ht]; exact hP9), va_K.moved hW.alike hK, hD9⟩, hS.F ht⟩) hS.2.2 dX2_append_51

set_option maxHeartbeats 4000000 in
set_option maxRecDepth 100000 in
theorem c_X2_copyEntry_self (l : Launch) (dC : Nat → ClassId) (dI : Nat → Nat → Nat) (cI cZ cJ : ClassId) (t0 : Nat) (t1 : Nat) (t2 : Nat) (t3 : Nat) (t4 : Nat) (nt : Nat) (tb : Nat → Int32) (te : Nat → Int32) (tk : Nat → Int32) (tt : Nat → Int32) (i : Nat) (j : Nat) (sz : Nat) (hi : i < 24) (hj : j < 24) : Met l yX2_copyEntry wsX2_copyEntry ({ frames := 0, cells := 0, slots := 0, locals := 0 } : Room) (va_Pc [.ref t0, .ref t0, .int (nI i), .int (nI j)] (zWr (dC, dI) [(cI, .int), (cZ, .boolean), (cJ, .long)] (wT t0 t1 t2 t3 t4 cI nt tb te tk tt) sz)) (va_Qv (fun (_ : Unit) => True) (fun _ t => zWo (dC, dI) [(cI, .int), (cZ, .boolean), (cJ, .long)] (wT t0 t1 t2 t3 t4 cI nt (upd tb j (tb i)) (upd te j (te i)) (upd tk j (tk i)) (upd tt j (tt i))) (va_A (wT t0 t1 t2 t3 t4 cI nt tb te tk tt) sz) t) (va_A (wT t0 t1 t2 t3 t4 cI nt tb te tk tt) sz)) 0 0 (va_A (wT t0 t1 t2 t3 t4 cI nt tb te tk tt) sz) := by
  refine Met.ofW (cc := cX2_copyEntry) (maxL := 4) (ret := none) (by decide) rfl ?_
  intro p e s m args below meth c s₁ B hml hv
  obtain ⟨hav, hsz, ⟨hP, hK, hn⟩, hD0⟩ := hv
  have hx := B.exec
  have hb := B.bytes
  have hr := B.returns
  have hts := atoms_spec (ws := wsX2_copyEntry) B.pre
  have hown : s.vm.findClass RX2 = some m.cls := findClass_of_methodNamed B.named
  have hlocks := B.notSynchronized
  subst hsz
  have hD := hD0.self (sz := s.heap.size)
  generalize hAe : (va_A (wT t0 t1 t2 t3 t4 cI nt tb te tk tt) s.heap.size) = A at hD ⊢
  have hA : ∀ q : Nat, s.heap.size ≤ q → A q := fun q h => by rw [← hAe]; exact Or.inr h
  have hS : va_S A s.heap s.heap [] := va_S.rf
  generalize hQ : MQ below (va_Qv (fun (_ : Unit) => True) (fun _ t => zWo (dC, dI) [(cI, .int), (cZ, .boolean), (cJ, .long)] (wT t0 t1 t2 t3 t4 cI nt (upd tb j (tb i)) (upd te j (te i)) (upd tk j (tk i)) (upd tt j (tt i))) A t) A) args s 0 0 A = Q
  refine W.eq (g2 := entryFrame m ([.ref t0, .ref t0, .int (nI i), .int (nI j)] : List Value).toArray 4) (by rw [hav]) ?_
  have hl := lv_entry ([.ref t0, .ref t0, .int (nI i), .int (nI j)]) (n := 4) (Nat.le_of_ble_eq_true rfl)
  rw [lg_entry_eq]
  generalize (lg_sl ([.ref t0, .ref t0, .int (nI i), .int (nI j)]) ++ List.replicate (4 - (lg_sl ([.ref t0, .ref t0, .int (nI i), .int (nI j)])).length) Slot.unset).toArray = ls at hl ⊢
  have hl : lv_has ls 4 [(0, .ref t0), (1, .ref t0), (2, .int (nI i)), (3, .int (nI j))] := hl
  obtain ⟨H, hH⟩ : ∃ H, H = s.heap := ⟨_, rfl⟩
  obtain ⟨locs, hlo⟩ : ∃ q : List Loc, q = [] := ⟨_, rfl⟩
  have hP : va_P (dC, dI) vwCl (wT t0 t1 t2 t3 t4 cI nt tb te tk tt) H := by rw [hH]; exact hP
  have hS : va_S A s.heap H locs := by rw [hH, hlo]; exact hS
  refine zz_hl hH hlo ?_
  refine lv_aload_n hx hb dX2_copyEntry_0 rfl (lv_at hl 0 rfl) ?_
  refine va_get (D := (dC, dI)) (ci := 2) (v := .ref t1) (C := RX2) (T := TX2) (N := 5) hx hb hts (by decide +kernel) hown hK hP 0 rfl rfl 0 (by decide) (hts (.fieldLink RX2 9 "HandlerOptimizer$Table" "begins" "[I") (by decide +kernel)) (fun _ h9 => h9) rfl dX2_copyEntry_1 ?_
  refine lv_iload_n hx hb dX2_copyEntry_4 rfl (lv_at hl 3 rfl) ?_
  refine lv_aload_n hx hb dX2_copyEntry_5 rfl (lv_at hl 1 rfl) ?_
  refine va_get (D := (dC, dI)) (ci := 2) (v := .ref t1) (C := RX2) (T := TX2) (N := 5) hx hb hts (by decide +kernel) hown hK hP 0 rfl rfl 0 (by decide) (hts (.fieldLink RX2 9 "HandlerOptimizer$Table" "begins" "[I") (by decide +kernel)) (fun _ h9 => h9) rfl dX2_copyEntry_6 ?_
  refine lv_iload_n hx hb dX2_copyEntry_9 rfl (lv_at hl 2 rfl) ?_
  refine va_iald hx hb hK hP 1 0 rfl rfl (vp_in_nI (n := i) (by omega) (by decide)) dX2_copyEntry_10 ?_
  refine zz_top (y := tb i) (congrArg _ (nI_clamp (by omega))) ?_
  refine va_iast hx hb hK hP hD hS 1 0 rfl rfl (vp_in_nI (n := j) (by omega) (by decide)) dX2_copyEntry_11 (fun H locs hP hD hS => ?_)
  rw [nI_clamp (n := j) (by omega)] at hP hD
  have hP : va_P (dC, dI) vwCl (wT t0 t1 t2 t3 t4 cI nt (upd tb j (tb i)) te tk tt) H := hP
  have hD : va_D A (wT t0 t1 t2 t3 t4 cI nt (upd tb j (tb i)) te tk tt) := hD
  refine lv_aload_n hx hb dX2_copyEntry_12 rfl (lv_at hl 0 rfl) ?_
  refine va_get (D := (dC, dI)) (ci := 2) (v := .ref t2) (C := RX2) (T := TX2) (N := 5) hx hb hts (by decide +kernel) hown hK hP 0 rfl rfl 1 (by decide) (hts (.fieldLink RX2 15 "HandlerOptimizer$Table" "ends" "[I") (by decide +kernel)) (fun _ h9 => h9) rfl dX2_copyEntry_13 ?_
  refine lv_iload_n hx hb dX2_copyEntry_16 rfl (lv_at hl 3 rfl) ?_
  refine lv_aload_n hx hb dX2_copyEntry_17 rfl (lv_at hl 1 rfl) ?_
  refine va_get (D := (dC, dI)) (ci := 2) (v := .ref t2) (C := RX2) (T := TX2) (N := 5) hx hb hts (by decide +kernel) hown hK hP 0 rfl rfl 1 (by decide) (hts (.fieldLink RX2 15 "HandlerOptimizer$Table" "ends" "[I") (by decide +kernel)) (fun _ h9 => h9) rfl dX2_copyEntry_18 ?_
  refine lv_iload_n hx hb dX2_copyEntry_21 rfl (lv_at hl 2 rfl) ?_
  refine va_iald hx hb hK hP 2 0 rfl rfl (vp_in_nI (n := i) (by omega) (by decide)) dX2_copyEntry_22 ?_
  refine zz_top (y := te i) (congrArg _ (nI_clamp (by omega))) ?_
  refine va_iast hx hb hK hP hD hS 2 0 rfl rfl (vp_in_nI (n := j) (by omega) (by decide)) dX2_copyEntry_23 (fun H locs hP hD hS => ?_)
  rw [nI_clamp (n := j) (by omega)] at hP hD
  have hP : va_P (dC, dI) vwCl (wT t0 t1 t2 t3 t4 cI nt (upd tb j (tb i)) (upd te j (te i)) tk tt) H := hP
  have hD : va_D A (wT t0 t1 t2 t3 t4 cI nt (upd tb j (tb i)) (upd te j (te i)) tk tt) := hD
  refine lv_aload_n hx hb dX2_copyEntry_24 rfl (lv_at hl 0 rfl) ?_
  refine va_get (D := (dC, dI)) (ci := 2) (v := .ref t3) (C := RX2) (T := TX2) (N := 5) hx hb hts (by decide +kernel) hown hK hP 0 rfl rfl 2 (by decide) (hts (.fieldLink RX2 18 "HandlerOptimizer$Table" "kinds" "[I") (by decide +kernel)) (fun _ h9 => h9) rfl dX2_copyEntry_25 ?_
  refine lv_iload_n hx hb dX2_copyEntry_28 rfl (lv_at hl 3 rfl) ?_
  refine lv_aload_n hx hb dX2_copyEntry_29 rfl (lv_at hl 1 rfl) ?_
  refine va_get (D := (dC, dI)) (ci := 2) (v := .ref t3) (C := RX2) (T := TX2) (N := 5) hx hb hts (by decide +kernel) hown hK hP 0 rfl rfl 2 (by decide) (hts (.fieldLink RX2 18 "HandlerOptimizer$Table" "kinds" "[I") (by decide +kernel)) (fun _ h9 => h9) rfl dX2_copyEntry_30 ?_
  refine lv_iload_n hx hb dX2_copyEntry_33 rfl (lv_at hl 2 rfl) ?_
  refine va_iald hx hb hK hP 3 0 rfl rfl (vp_in_nI (n := i) (by omega) (by decide)) dX2_copyEntry_34 ?_
  refine zz_top (y := tk i) (congrArg _ (nI_clamp (by omega))) ?_
  refine va_iast hx hb hK hP hD hS 3 0 rfl rfl (vp_in_nI (n := j) (by omega) (by decide)) dX2_copyEntry_35 (fun H locs hP hD hS => ?_)
  rw [nI_clamp (n := j) (by omega)] at hP hD
  have hP : va_P (dC, dI) vwCl (wT t0 t1 t2 t3 t4 cI nt (upd tb j (tb i)) (upd te j (te i)) (upd tk j (tk i)) tt) H := hP
  have hD : va_D A (wT t0 t1 t2 t3 t4 cI nt (upd tb j (tb i)) (upd te j (te i)) (upd tk j (tk i)) tt) := hD
  refine lv_aload_n hx hb dX2_copyEntry_36 rfl (lv_at hl 0 rfl) ?_
  refine va_get (D := (dC, dI)) (ci := 2) (v := .ref t4) (C := RX2) (T := TX2) (N := 5) hx hb hts (by decide +kernel) hown hK hP 0 rfl rfl 3 (by decide) (hts (.fieldLink RX2 21 "HandlerOptimizer$Table" "targets" "[I") (by decide +kernel)) (fun _ h9 => h9) rfl dX2_copyEntry_37 ?_
  refine lv_iload_n hx hb dX2_copyEntry_40 rfl (lv_at hl 3 rfl) ?_
  refine lv_aload_n hx hb dX2_copyEntry_41 rfl (lv_at hl 1 rfl) ?_
  refine va_get (D := (dC, dI)) (ci := 2) (v := .ref t4) (C := RX2) (T := TX2) (N := 5) hx hb hts (by decide +kernel) hown hK hP 0 rfl rfl 3 (by decide) (hts (.fieldLink RX2 21 "HandlerOptimizer$Table" "targets" "[I") (by decide +kernel)) (fun _ h9 => h9) rfl dX2_copyEntry_42 ?_
  refine lv_iload_n hx hb dX2_copyEntry_45 rfl (lv_at hl 2 rfl) ?_
  refine va_iald hx hb hK hP 4 0 rfl rfl (vp_in_nI (n := i) (by omega) (by decide)) dX2_copyEntry_46 ?_
  refine zz_top (y := tt i) (congrArg _ (nI_clamp (by omega))) ?_
  refine va_iast hx hb hK hP hD hS 4 0 rfl rfl (vp_in_nI (n := j) (by omega) (by decide)) dX2_copyEntry_47 (fun H locs hP hD hS => ?_)
  rw [nI_clamp (n := j) (by omega)] at hP hD
  have hP : va_P (dC, dI) vwCl (wT t0 t1 t2 t3 t4 cI nt (upd tb j (tb i)) (upd te j (te i)) (upd tk j (tk i)) (upd tt j (tt i))) H := hP
  have hD : va_D A (wT t0 t1 t2 t3 t4 cI nt (upd tb j (tb i)) (upd te j (te i)) (upd tk j (tk i)) (upd tt j (tt i))) := hD
  rw [← hQ]
  have hP9 := hP
  have hD9 := hD
  exact W.vret hx hb hr (fun t ht hW => ⟨⟨(), rfl, trivial, (by rw [ht]; exact hP9), va_K.moved hW.alike hK, hD9⟩, hS.F ht⟩) hS.2.2 dX2_copyEntry_48

set_option maxHeartbeats 4000000 in
set_option maxRecDepth 100000 in
theorem c_X2_copyEntry_two (l : Launch) (dC : Nat → ClassId) (dI : Nat → Nat → Nat) (cI cZ cJ : ClassId) (t0 : Nat) (t1 : Nat) (t2 : Nat) (t3 : Nat) (t4 : Nat) (nt : Nat) (tb : Nat → Int32) (te : Nat → Int32) (tk : Nat → Int32) (tt : Nat → Int32) (u0 : Nat) (u1 : Nat) (u2 : Nat) (u3 : Nat) (u4 : Nat) (nu : Nat) (ub : Nat → Int32) (ue : Nat → Int32) (uk : Nat → Int32) (ut : Nat → Int32) (i : Nat) (j : Nat) (sz : Nat) (hi : i < 24) (hj : j < 24) : Met l yX2_copyEntry wsX2_copyEntry ({ frames := 0, cells := 0, slots := 0, locals := 0 } : Room) (va_Pc [.ref t0, .ref u0, .int (nI i), .int (nI j)] (zWr (dC, dI) [(cI, .int), (cZ, .boolean), (cJ, .long)] (wT t0 t1 t2 t3 t4 cI nt tb te tk tt ++ wT u0 u1 u2 u3 u4 cI nu ub ue uk ut) sz)) (va_Qv (fun (_ : Unit) => True) (fun _ t => zWo (dC, dI) [(cI, .int), (cZ, .boolean), (cJ, .long)] (wT t0 t1 t2 t3 t4 cI nt (upd tb j (ub i)) (upd te j (ue i)) (upd tk j (uk i)) (upd tt j (ut i)) ++ wT u0 u1 u2 u3 u4 cI nu ub ue uk ut) (va_A (wT t0 t1 t2 t3 t4 cI nt tb te tk tt ++ wT u0 u1 u2 u3 u4 cI nu ub ue uk ut) sz) t) (va_A (wT t0 t1 t2 t3 t4 cI nt tb te tk tt ++ wT u0 u1 u2 u3 u4 cI nu ub ue uk ut) sz)) 0 0 (va_A (wT t0 t1 t2 t3 t4 cI nt tb te tk tt ++ wT u0 u1 u2 u3 u4 cI nu ub ue uk ut) sz) := by
  refine Met.ofW (cc := cX2_copyEntry) (maxL := 4) (ret := none) (by decide) rfl ?_
  intro p e s m args below meth c s₁ B hml hv
  obtain ⟨hav, hsz, ⟨hP, hK, hn⟩, hD0⟩ := hv
  have hx := B.exec
  have hb := B.bytes
  have hr := B.returns
  have hts := atoms_spec (ws := wsX2_copyEntry) B.pre
  have hown : s.vm.findClass RX2 = some m.cls := findClass_of_methodNamed B.named
  have hlocks := B.notSynchronized
  subst hsz
  have hD := hD0.self (sz := s.heap.size)
  generalize hAe : (va_A (wT t0 t1 t2 t3 t4 cI nt tb te tk tt ++ wT u0 u1 u2 u3 u4 cI nu ub ue uk ut) s.heap.size) = A at hD ⊢
  have hA : ∀ q : Nat, s.heap.size ≤ q → A q := fun q h => by rw [← hAe]; exact Or.inr h
  have hS : va_S A s.heap s.heap [] := va_S.rf
  generalize hQ : MQ below (va_Qv (fun (_ : Unit) => True) (fun _ t => zWo (dC, dI) [(cI, .int), (cZ, .boolean), (cJ, .long)] (wT t0 t1 t2 t3 t4 cI nt (upd tb j (ub i)) (upd te j (ue i)) (upd tk j (uk i)) (upd tt j (ut i)) ++ wT u0 u1 u2 u3 u4 cI nu ub ue uk ut) A t) A) args s 0 0 A = Q
  refine W.eq (g2 := entryFrame m ([.ref t0, .ref u0, .int (nI i), .int (nI j)] : List Value).toArray 4) (by rw [hav]) ?_
  have hl := lv_entry ([.ref t0, .ref u0, .int (nI i), .int (nI j)]) (n := 4) (Nat.le_of_ble_eq_true rfl)
  rw [lg_entry_eq]
  generalize (lg_sl ([.ref t0, .ref u0, .int (nI i), .int (nI j)]) ++ List.replicate (4 - (lg_sl ([.ref t0, .ref u0, .int (nI i), .int (nI j)])).length) Slot.unset).toArray = ls at hl ⊢
  have hl : lv_has ls 4 [(0, .ref t0), (1, .ref u0), (2, .int (nI i)), (3, .int (nI j))] := hl
  obtain ⟨H, hH⟩ : ∃ H, H = s.heap := ⟨_, rfl⟩
  obtain ⟨locs, hlo⟩ : ∃ q : List Loc, q = [] := ⟨_, rfl⟩
  have hP : va_P (dC, dI) vwCl (wT t0 t1 t2 t3 t4 cI nt tb te tk tt ++ wT u0 u1 u2 u3 u4 cI nu ub ue uk ut) H := by rw [hH]; exact hP
  have hS : va_S A s.heap H locs := by rw [hH, hlo]; exact hS
  refine zz_hl hH hlo ?_
  refine lv_aload_n hx hb dX2_copyEntry_0 rfl (lv_at hl 0 rfl) ?_
  refine va_get (D := (dC, dI)) (ci := 2) (v := .ref t1) (C := RX2) (T := TX2) (N := 5) hx hb hts (by decide +kernel) hown hK hP 0 rfl rfl 0 (by decide) (hts (.fieldLink RX2 9 "HandlerOptimizer$Table" "begins" "[I") (by decide +kernel)) (fun _ h9 => h9) rfl dX2_copyEntry_1 ?_
  refine lv_iload_n hx hb dX2_copyEntry_4 rfl (lv_at hl 3 rfl) ?_
  refine lv_aload_n hx hb dX2_copyEntry_5 rfl (lv_at hl 1 rfl) ?_
  refine va_get (D := (dC, dI)) (ci := 2) (v := .ref u1) (C := RX2) (T := TX2) (N := 5) hx hb hts (by decide +kernel) hown hK hP 5 rfl rfl 0 (by decide) (hts (.fieldLink RX2 9 "HandlerOptimizer$Table" "begins" "[I") (by decide +kernel)) (fun _ h9 => h9) rfl dX2_copyEntry_6 ?_
  refine lv_iload_n hx hb dX2_copyEntry_9 rfl (lv_at hl 2 rfl) ?_
  refine va_iald hx hb hK hP 6 0 rfl rfl (vp_in_nI (n := i) (by omega) (by decide)) dX2_copyEntry_10 ?_
  refine zz_top (y := ub i) (congrArg _ (nI_clamp (by omega))) ?_
  refine va_iast hx hb hK hP hD hS 1 0 rfl rfl (vp_in_nI (n := j) (by omega) (by decide)) dX2_copyEntry_11 (fun H locs hP hD hS => ?_)
  rw [nI_clamp (n := j) (by omega)] at hP hD
  have hP : va_P (dC, dI) vwCl (wT t0 t1 t2 t3 t4 cI nt (upd tb j (ub i)) te tk tt ++ wT u0 u1 u2 u3 u4 cI nu ub ue uk ut) H := hP
  have hD : va_D A (wT t0 t1 t2 t3 t4 cI nt (upd tb j (ub i)) te tk tt ++ wT u0 u1 u2 u3 u4 cI nu ub ue uk ut) := hD
  refine lv_aload_n hx hb dX2_copyEntry_12 rfl (lv_at hl 0 rfl) ?_
  refine va_get (D := (dC, dI)) (ci := 2) (v := .ref t2) (C := RX2) (T := TX2) (N := 5) hx hb hts (by decide +kernel) hown hK hP 0 rfl rfl 1 (by decide) (hts (.fieldLink RX2 15 "HandlerOptimizer$Table" "ends" "[I") (by decide +kernel)) (fun _ h9 => h9) rfl dX2_copyEntry_13 ?_
  refine lv_iload_n hx hb dX2_copyEntry_16 rfl (lv_at hl 3 rfl) ?_
  refine lv_aload_n hx hb dX2_copyEntry_17 rfl (lv_at hl 1 rfl) ?_
  refine va_get (D := (dC, dI)) (ci := 2) (v := .ref u2) (C := RX2) (T := TX2) (N := 5) hx hb hts (by decide +kernel) hown hK hP 5 rfl rfl 1 (by decide) (hts (.fieldLink RX2 15 "HandlerOptimizer$Table" "ends" "[I") (by decide +kernel)) (fun _ h9 => h9) rfl dX2_copyEntry_18 ?_
  refine lv_iload_n hx hb dX2_copyEntry_21 rfl (lv_at hl 2 rfl) ?_
  refine va_iald hx hb hK hP 7 0 rfl rfl (vp_in_nI (n := i) (by omega) (by decide)) dX2_copyEntry_22 ?_
  refine zz_top (y := ue i) (congrArg _ (nI_clamp (by omega))) ?_
  refine va_iast hx hb hK hP hD hS 2 0 rfl rfl (vp_in_nI (n := j) (by omega) (by decide)) dX2_copyEntry_23 (fun H locs hP hD hS => ?_)
  rw [nI_clamp (n := j) (by omega)] at hP hD
  have hP : va_P (dC, dI) vwCl (wT t0 t1 t2 t3 t4 cI nt (upd tb j (ub i)) (upd te j (ue i)) tk tt ++ wT u0 u1 u2 u3 u4 cI nu ub ue uk ut) H := hP
  have hD : va_D A (wT t0 t1 t2 t3 t4 cI nt (upd tb j (ub i)) (upd te j (ue i)) tk tt ++ wT u0 u1 u2 u3 u4 cI nu ub ue uk ut) := hD
  refine lv_aload_n hx hb dX2_copyEntry_24 rfl (lv_at hl 0 rfl) ?_
  refine va_get (D := (dC, dI)) (ci := 2) (v := .ref t3) (C := RX2) (T := TX2) (N := 5) hx hb hts (by decide +kernel) hown hK hP 0 rfl rfl 2 (by decide) (hts (.fieldLink RX2 18 "HandlerOptimizer$Table" "kinds" "[I") (by decide +kernel)) (fun _ h9 => h9) rfl dX2_copyEntry_25 ?_
  refine lv_iload_n hx hb dX2_copyEntry_28 rfl (lv_at hl 3 rfl) ?_
  refine lv_aload_n hx hb dX2_copyEntry_29 rfl (lv_at hl 1 rfl) ?_
  refine va_get (D := (dC, dI)) (ci := 2) (v := .ref u3) (C := RX2) (T := TX2) (N := 5) hx hb hts (by decide +kernel) hown hK hP 5 rfl rfl 2 (by decide) (hts (.fieldLink RX2 18 "HandlerOptimizer$Table" "kinds" "[I") (by decide +kernel)) (fun _ h9 => h9) rfl dX2_copyEntry_30 ?_
  refine lv_iload_n hx hb dX2_copyEntry_33 rfl (lv_at hl 2 rfl) ?_
  refine va_iald hx hb hK hP 8 0 rfl rfl (vp_in_nI (n := i) (by omega) (by decide)) dX2_copyEntry_34 ?_
  refine zz_top (y := uk i) (congrArg _ (nI_clamp (by omega))) ?_
  refine va_iast hx hb hK hP hD hS 3 0 rfl rfl (vp_in_nI (n := j) (by omega) (by decide)) dX2_copyEntry_35 (fun H locs hP hD hS => ?_)
  rw [nI_clamp (n := j) (by omega)] at hP hD
  have hP : va_P (dC, dI) vwCl (wT t0 t1 t2 t3 t4 cI nt (upd tb j (ub i)) (upd te j (ue i)) (upd tk j (uk i)) tt ++ wT u0 u1 u2 u3 u4 cI nu ub ue uk ut) H := hP
  have hD : va_D A (wT t0 t1 t2 t3 t4 cI nt (upd tb j (ub i)) (upd te j (ue i)) (upd tk j (uk i)) tt ++ wT u0 u1 u2 u3 u4 cI nu ub ue uk ut) := hD
  refine lv_aload_n hx hb dX2_copyEntry_36 rfl (lv_at hl 0 rfl) ?_
  refine va_get (D := (dC, dI)) (ci := 2) (v := .ref t4) (C := RX2) (T := TX2) (N := 5) hx hb hts (by decide +kernel) hown hK hP 0 rfl rfl 3 (by decide) (hts (.fieldLink RX2 21 "HandlerOptimizer$Table" "targets" "[I") (by decide +kernel)) (fun _ h9 => h9) rfl dX2_copyEntry_37 ?_
  refine lv_iload_n hx hb dX2_copyEntry_40 rfl (lv_at hl 3 rfl) ?_
  refine lv_aload_n hx hb dX2_copyEntry_41 rfl (lv_at hl 1 rfl) ?_
  refine va_get (D := (dC, dI)) (ci := 2) (v := .ref u4) (C := RX2) (T := TX2) (N := 5) hx hb hts (by decide +kernel) hown hK hP 5 rfl rfl 3 (by decide) (hts (.fieldLink RX2 21 "HandlerOptimizer$Table" "targets" "[I") (by decide +kernel)) (fun _ h9 => h9) rfl dX2_copyEntry_42 ?_
  refine lv_iload_n hx hb dX2_copyEntry_45 rfl (lv_at hl 2 rfl) ?_
  refine va_iald hx hb hK hP 9 0 rfl rfl (vp_in_nI (n := i) (by omega) (by decide)) dX2_copyEntry_46 ?_
  refine zz_top (y := ut i) (congrArg _ (nI_clamp (by omega))) ?_
  refine va_iast hx hb hK hP hD hS 4 0 rfl rfl (vp_in_nI (n := j) (by omega) (by decide)) dX2_copyEntry_47 (fun H locs hP hD hS => ?_)
  rw [nI_clamp (n := j) (by omega)] at hP hD
  have hP : va_P (dC, dI) vwCl (wT t0 t1 t2 t3 t4 cI nt (upd tb j (ub i)) (upd te j (ue i)) (upd tk j (uk i)) (upd tt j (ut i)) ++ wT u0 u1 u2 u3 u4 cI nu ub ue uk ut) H := hP
  have hD : va_D A (wT t0 t1 t2 t3 t4 cI nt (upd tb j (ub i)) (upd te j (ue i)) (upd tk j (uk i)) (upd tt j (ut i)) ++ wT u0 u1 u2 u3 u4 cI nu ub ue uk ut) := hD
  rw [← hQ]
  have hP9 := hP
  have hD9 := hD
  exact W.vret hx hb hr (fun t ht hW => ⟨⟨(), rfl, trivial, (by rw [ht]; exact hP9), va_K.moved hW.alike hK, hD9⟩, hS.F ht⟩) hS.2.2 dX2_copyEntry_48

set_option maxHeartbeats 4000000 in
set_option maxRecDepth 100000 in
theorem c_X2_delete (l : Launch) (dC : Nat → ClassId) (dI : Nat → Nat → Nat) (cI cZ cJ : ClassId) (t0 : Nat) (t1 : Nat) (t2 : Nat) (t3 : Nat) (t4 : Nat) (nt : Nat) (tb : Nat → Int32) (te : Nat → Int32) (tk : Nat → Int32) (tt : Nat → Int32) (ei : Nat) (T : Nat → Nat → Nat) (sz : Nat) (hei : ei < nt) (hnt : nt ≤ 24) (hT : rT nt tb te tk tt T) : Met l yX2_delete wsX2_delete ({ frames := 1, cells := 0, slots := 0, locals := 23 } : Room) (va_Pc [.ref t0, .int (nI ei)] (zWr (dC, dI) [(cI, .int), (cZ, .boolean), (cJ, .long)] (wT t0 t1 t2 t3 t4 cI nt tb te tk tt) sz)) (va_Qv (fun (u : (Nat → Int32) × (Nat → Int32) × (Nat → Int32) × (Nat → Int32)) => match u with | (tb9, te9, tk9, tt9) => rT (nt - 1) tb9 te9 tk9 tt9 (dT T ei)) (fun u t => match u with | (tb9, te9, tk9, tt9) => zWo (dC, dI) [(cI, .int), (cZ, .boolean), (cJ, .long)] (wT t0 t1 t2 t3 t4 cI (nt - 1) tb9 te9 tk9 tt9) (va_A (wT t0 t1 t2 t3 t4 cI nt tb te tk tt) sz) t) (va_A (wT t0 t1 t2 t3 t4 cI nt tb te tk tt) sz)) 0 0 (va_A (wT t0 t1 t2 t3 t4 cI nt tb te tk tt) sz) := by
  refine Met.ofW (cc := cX2_delete) (maxL := 3) (ret := none) (by decide) rfl ?_
  intro p e s m args below meth c s₁ B hml hv
  obtain ⟨hav, hsz, ⟨hP, hK, hn⟩, hD0⟩ := hv
  have hx := B.exec
  have hb := B.bytes
  have hr := B.returns
  have hts := atoms_spec (ws := wsX2_delete) B.pre
  have hown : s.vm.findClass RX2 = some m.cls := findClass_of_methodNamed B.named
  have hlocks := B.notSynchronized
  subst hsz
  have hD := hD0.self (sz := s.heap.size)
  generalize hAe : (va_A (wT t0 t1 t2 t3 t4 cI nt tb te tk tt) s.heap.size) = A at hD ⊢
  have hA : ∀ q : Nat, s.heap.size ≤ q → A q := fun q h => by rw [← hAe]; exact Or.inr h
  have hS : va_S A s.heap s.heap [] := va_S.rf
  generalize hQ : MQ below (va_Qv (fun (u : (Nat → Int32) × (Nat → Int32) × (Nat → Int32) × (Nat → Int32)) => match u with | (tb9, te9, tk9, tt9) => rT (nt - 1) tb9 te9 tk9 tt9 (dT T ei)) (fun u t => match u with | (tb9, te9, tk9, tt9) => zWo (dC, dI) [(cI, .int), (cZ, .boolean), (cJ, .long)] (wT t0 t1 t2 t3 t4 cI (nt - 1) tb9 te9 tk9 tt9) A t) A) args s 0 0 A = Q
  refine W.eq (g2 := entryFrame m ([.ref t0, .int (nI ei)] : List Value).toArray 3) (by rw [hav]) ?_
  have hl := lv_entry ([.ref t0, .int (nI ei)]) (n := 3) (Nat.le_of_ble_eq_true rfl)
  rw [lg_entry_eq]
  generalize (lg_sl ([.ref t0, .int (nI ei)]) ++ List.replicate (3 - (lg_sl ([.ref t0, .int (nI ei)])).length) Slot.unset).toArray = ls at hl ⊢
  have hl : lv_has ls 3 [(0, .ref t0), (1, .int (nI ei))] := hl
  obtain ⟨H, hH⟩ : ∃ H, H = s.heap := ⟨_, rfl⟩
  obtain ⟨locs, hlo⟩ : ∃ q : List Loc, q = [] := ⟨_, rfl⟩
  have hP : va_P (dC, dI) vwCl (wT t0 t1 t2 t3 t4 cI nt tb te tk tt) H := by rw [hH]; exact hP
  have hS : va_S A s.heap H locs := by rw [hH, hlo]; exact hS
  refine zz_hl hH hlo ?_
  refine lv_iload_n hx hb dX2_delete_0 rfl (lv_at hl 1 rfl) ?_
  refine lv_iconst (v := 1) hx hb dX2_delete_1 (by decide) ?_
  refine lv_iadd hx hb dX2_delete_2 ?_
  refine zz_top (y := nI (ei + 1)) (nI_add _ _) ?_
  refine lv_istore_n (lv' := [(2, .int (nI (ei + 1))), (0, .ref t0), (1, .int (nI ei))]) hx hb dX2_delete_3 rfl hl (by decide) rfl (fun ls hl => ?_)
  have J_4 : ∀ (n9 : Nat) (y : Nat) (gb : Nat → Int32) (ge : Nat → Int32) (gk : Nat → Int32) (gt : Nat → Int32) (H : Heap) (locs : List Loc) (ls : Array Slot), (ei ≤ y) → (y < nt) → (rT nt gb ge gk gt (mxT T ei y)) → nt - y < n9 → va_P (dC, dI) vwCl (wT t0 t1 t2 t3 t4 cI nt gb ge gk gt) H → va_D A (wT t0 t1 t2 t3 t4 cI nt gb ge gk gt) → va_S A s.heap H locs → lv_has ls 3 [(0, .ref t0), (1, .int (nI ei)), (2, .int (nI (y + 1)))] → W p l e (headSpec wsX2_delete ({ frames := 1, cells := 0, slots := 0, locals := 23 } : Room)).room s m args below meth c H locs 0 0 Q (F0 m 4 ls []) := by
    intro n9
    induction n9 with
    | zero => intro y gb ge gk gt H locs ls hy hy2 hr9 hmu; exact absurd hmu (Nat.not_lt_zero _)
    | succ n9 ih_4 =>
      intro y gb ge gk gt H locs ls hy hy2 hr9 hmu hP hD hS hl
      refine lv_iload_n hx hb dX2_delete_4 rfl (lv_at hl 2 rfl) ?_
      refine lv_aload_n hx hb dX2_delete_5 rfl (lv_at hl 0 rfl) ?_
      refine va_get (D := (dC, dI)) (ci := 2) (v := .int (nI nt)) (C := RX2) (T := TX2) (N := 5) hx hb hts (by decide +kernel) hown hK hP 0 rfl rfl 4 (by decide) (hts (.fieldLink RX2 24 "HandlerOptimizer$Table" "count" "I") (by decide +kernel)) (fun _ h9 => h9) rfl dX2_delete_6 ?_
      refine lv_icmp_ge (tgt := 27) hx hb dX2_delete_9 (by decide) (fun c_1 => ?_) (fun c_1 => ?_)
      · skip
        have c_1 := (zz_get (a := y + 1) (b := nt) (by omega) (by omega)).mp c_1
        refine lv_aload_n hx hb dX2_delete_27 rfl (lv_at hl 0 rfl) ?_
        refine lv_dup hx hb dX2_delete_28 rfl ?_
        refine va_get (D := (dC, dI)) (ci := 2) (v := .int (nI nt)) (C := RX2) (T := TX2) (N := 5) hx hb hts (by decide +kernel) hown hK hP 0 rfl rfl 4 (by decide) (hts (.fieldLink RX2 24 "HandlerOptimizer$Table" "count" "I") (by decide +kernel)) (fun _ h9 => h9) rfl dX2_delete_29 ?_
        refine lv_iconst (v := 1) hx hb dX2_delete_32 (by decide) ?_
        refine lv_isub hx hb dX2_delete_33 ?_
        refine zz_top (y := nI (nt - 1)) (zz_pred (by omega)) ?_
        refine va_put (D := (dC, dI)) (ci := 2) (v := .int (nI (nt - 1))) (ty := .int) (C := RX2) (T := TX2) (N := 5) hx hb hts (by decide +kernel) tyX2 tyX2_ok nmX2 hown hK hP hD hS 0 rfl rfl 4 (by decide) (hts (.fieldLink RX2 24 "HandlerOptimizer$Table" "count" "I") (by decide +kernel)) (fun _ h9 => h9) rfl (by decide +kernel) rfl rfl (Nat.le_of_ble_eq_true rfl) dX2_delete_34 (fun H locs hP hD hS => ?_)
        have hP : va_P (dC, dI) vwCl (wT t0 t1 t2 t3 t4 cI (nt - 1) gb ge gk gt) H := hP
        have hD : va_D A (wT t0 t1 t2 t3 t4 cI (nt - 1) gb ge gk gt) := hD
        rw [← hQ]
        have hP9 := hP
        have hD9 := hD
        exact W.vret hx hb hr (fun t ht hW => ⟨⟨(gb, ge, gk, gt), rfl, (rT_end hr9 (by omega)), (by rw [ht]; exact hP9), va_K.moved hW.alike hK, hD9⟩, hS.F ht⟩) hS.2.2 dX2_delete_37
      · skip
        have c_1 := (zz_gef (a := y + 1) (b := nt) (by omega) (by omega)).mp c_1
        refine lv_aload_n hx hb dX2_delete_12 rfl (lv_at hl 0 rfl) ?_
        refine lv_aload_n hx hb dX2_delete_13 rfl (lv_at hl 0 rfl) ?_
        refine lv_iload_n hx hb dX2_delete_14 rfl (lv_at hl 2 rfl) ?_
        refine lv_iload_n hx hb dX2_delete_15 rfl (lv_at hl 2 rfl) ?_
        refine lv_iconst (v := 1) hx hb dX2_delete_16 (by decide) ?_
        refine lv_isub hx hb dX2_delete_17 ?_
        refine zz_top (y := nI y) (nI_pred _) ?_
        have hDc := hD
        have hFc := va_free (wc := wT t0 t1 t2 t3 t4 cI nt gb ge gk gt) hD hS hA [0, 1, 2, 3, 4] rfl
        refine va_callv (va_runV (As := [.ref t0, .int (nI (y + 1)), .int (nI y)]) (rest := []) ⟨hx, hb, hml, hown, hts⟩ (c_X2_copyEntry_self l dC dI cI cZ cJ t0 t1 t2 t3 t4 nt gb ge gk gt (y + 1) y H.size (by first | assumption | omega) (by first | assumption | omega)) (cwV 3 hts gX2_delete_X2_copyEntry rfl rfl rfl (by decide +kernel) ⟨Nat.le_of_ble_eq_true rfl, Nat.le_of_ble_eq_true rfl⟩) ⟨zWr_blind, va_recv hK hP (ci := 2) (q0 := 0) rfl rfl, zWr_at hP hK hn (hDc.weaken (fun _ _ _ _ => trivial))⟩ rfl rfl hl.1 rfl (lv_room (Nat.le_of_ble_eq_true rfl)) dX2_delete_18 ⟨Nat.le_of_ble_eq_true rfl, Nat.le_of_ble_eq_true rfl⟩) hS (fun q _ h => hFc q h) hFc (fun u_9 t H1 locs ht hvm hw hB hz1 hk1 hS => ?_)
        obtain ⟨hP1, -, hD1⟩ := hB
        rw [ht] at hP1
        obtain ⟨hP, hD⟩ := va_join (wr := []) (w1 := wT t0 t1 t2 t3 t4 cI nt (upd gb y (gb (y + 1))) (upd ge y (ge (y + 1))) (upd gk y (gk (y + 1))) (upd gt y (gt (y + 1)))) hP hD [0, 1, 2, 3, 4] [] rfl rfl (by decide) (by decide) hk1 hFc hP1 hD1
        generalize H1 = H at hP hS ⊢
        have hP : va_P (dC, dI) vwCl (wT t0 t1 t2 t3 t4 cI nt (upd gb y (gb (y + 1))) (upd ge y (ge (y + 1))) (upd gk y (gk (y + 1))) (upd gt y (gt (y + 1)))) H := hP
        have hD : va_D A (wT t0 t1 t2 t3 t4 cI nt (upd gb y (gb (y + 1))) (upd ge y (ge (y + 1))) (upd gk y (gk (y + 1))) (upd gt y (gt (y + 1)))) := hD
        refine lv_iinc (v := nI (y + 1 + 1)) (lv' := [(2, .int (nI (y + 1 + 1))), (0, .ref t0), (1, .int (nI ei))]) hx hb dX2_delete_21 hl (k := 2) rfl (zz_inc (y + 1) 1) (by decide) rfl (fun ls hl => ?_)
        refine lv_goto (tgt := 4) hx hb dX2_delete_24 (by decide) ?_
        exact ih_4 (y + 1) (upd gb y (gb (y + 1))) (upd ge y (ge (y + 1))) (upd gk y (gk (y + 1))) (upd gt y (gt (y + 1))) _ _ _ (by first | assumption | omega) (by first | assumption | omega) (rT_del hr9 hy (by omega)) (by omega) hP hD hS (lv_sub hl [1, 2, 0] rfl)
  exact J_4 _ ei tb te tk tt _ _ _ (by first | assumption | omega) (by first | assumption | omega) (rT_start hT) (Nat.lt_succ_self _) hP hD hS (lv_sub hl [1, 2, 0] rfl)

set_option maxHeartbeats 4000000 in
set_option maxRecDepth 100000 in
theorem c_X2_copyAll (l : Launch) (dC : Nat → ClassId) (dI : Nat → Nat → Nat) (cI cZ cJ : ClassId) (t0 : Nat) (t1 : Nat) (t2 : Nat) (t3 : Nat) (t4 : Nat) (nt : Nat) (tb : Nat → Int32) (te : Nat → Int32) (tk : Nat → Int32) (tt : Nat → Int32) (u0 : Nat) (u1 : Nat) (u2 : Nat) (u3 : Nat) (u4 : Nat) (nu : Nat) (ub : Nat → Int32) (ue : Nat → Int32) (uk : Nat → Int32) (ut : Nat → Int32) (T : Nat → Nat → Nat) (sz : Nat) (hnu : nu ≤ 24) (hT : rT nu ub ue uk ut T) : Met l yX2_copyAll wsX2_copyAll ({ frames := 1, cells := 0, slots := 0, locals := 23 } : Room) (va_Pc [.ref t0, .ref u0] (zWr (dC, dI) [(cI, .int), (cZ, .boolean), (cJ, .long)] (wT t0 t1 t2 t3 t4 cI nt tb te tk tt ++ wT u0 u1 u2 u3 u4 cI nu ub ue uk ut) sz)) (va_Qv (fun (u : (Nat → Int32) × (Nat → Int32) × (Nat → Int32) × (Nat → Int32)) => match u with | (tb9, te9, tk9, tt9) => rT nu tb9 te9 tk9 tt9 T) (fun u t => match u with | (tb9, te9, tk9, tt9) => zWo (dC, dI) [(cI, .int), (cZ, .boolean), (cJ, .long)] (wT t0 t1 t2 t3 t4 cI nu tb9 te9 tk9 tt9 ++ wT u0 u1 u2 u3 u4 cI nu ub ue uk ut) (va_A (wT t0 t1 t2 t3 t4 cI nt tb te tk tt ++ wT u0 u1 u2 u3 u4 cI nu ub ue uk ut) sz) t) (va_A (wT t0 t1 t2 t3 t4 cI nt tb te tk tt ++ wT u0 u1 u2 u3 u4 cI nu ub ue uk ut) sz)) 0 0 (va_A (wT t0 t1 t2 t3 t4 cI nt tb te tk tt ++ wT u0 u1 u2 u3 u4 cI nu ub ue uk ut) sz) := by
  refine Met.ofW (cc := cX2_copyAll) (maxL := 3) (ret := none) (by decide) rfl ?_
  intro p e s m args below meth c s₁ B hml hv
  obtain ⟨hav, hsz, ⟨hP, hK, hn⟩, hD0⟩ := hv
  have hx := B.exec
  have hb := B.bytes
  have hr := B.returns
  have hts := atoms_spec (ws := wsX2_copyAll) B.pre
  have hown : s.vm.findClass RX2 = some m.cls := findClass_of_methodNamed B.named
  have hlocks := B.notSynchronized
  subst hsz
  have hD := hD0.self (sz := s.heap.size)
  generalize hAe : (va_A (wT t0 t1 t2 t3 t4 cI nt tb te tk tt ++ wT u0 u1 u2 u3 u4 cI nu ub ue uk ut) s.heap.size) = A at hD ⊢
  have hA : ∀ q : Nat, s.heap.size ≤ q → A q := fun q h => by rw [← hAe]; exact Or.inr h
  have hS : va_S A s.heap s.heap [] := va_S.rf
  generalize hQ : MQ below (va_Qv (fun (u : (Nat → Int32) × (Nat → Int32) × (Nat → Int32) × (Nat → Int32)) => match u with | (tb9, te9, tk9, tt9) => rT nu tb9 te9 tk9 tt9 T) (fun u t => match u with | (tb9, te9, tk9, tt9) => zWo (dC, dI) [(cI, .int), (cZ, .boolean), (cJ, .long)] (wT t0 t1 t2 t3 t4 cI nu tb9 te9 tk9 tt9 ++ wT u0 u1 u2 u3 u4 cI nu ub ue uk ut) A t) A) args s 0 0 A = Q
  refine W.eq (g2 := entryFrame m ([.ref t0, .ref u0] : List Value).toArray 3) (by rw [hav]) ?_
  have hl := lv_entry ([.ref t0, .ref u0]) (n := 3) (Nat.le_of_ble_eq_true rfl)
  rw [lg_entry_eq]
  generalize (lg_sl ([.ref t0, .ref u0]) ++ List.replicate (3 - (lg_sl ([.ref t0, .ref u0])).length) Slot.unset).toArray = ls at hl ⊢
  have hl : lv_has ls 3 [(0, .ref t0), (1, .ref u0)] := hl
  obtain ⟨H, hH⟩ : ∃ H, H = s.heap := ⟨_, rfl⟩
  obtain ⟨locs, hlo⟩ : ∃ q : List Loc, q = [] := ⟨_, rfl⟩
  have hP : va_P (dC, dI) vwCl (wT t0 t1 t2 t3 t4 cI nt tb te tk tt ++ wT u0 u1 u2 u3 u4 cI nu ub ue uk ut) H := by rw [hH]; exact hP
  have hS : va_S A s.heap H locs := by rw [hH, hlo]; exact hS
  refine zz_hl hH hlo ?_
  refine lv_iconst (v := 0) hx hb dX2_copyAll_0 (by decide) ?_
  refine lv_istore_n (lv' := [(2, .int 0), (0, .ref t0), (1, .ref u0)]) hx hb dX2_copyAll_1 rfl hl (by decide) rfl (fun ls hl => ?_)
  have J_2 : ∀ (n9 : Nat) (y : Nat) (gb : Nat → Int32) (ge : Nat → Int32) (gk : Nat → Int32) (gt : Nat → Int32) (H : Heap) (locs : List Loc) (ls : Array Slot), (y ≤ nu) → (ag y gb ub) → (ag y ge ue) → (ag y gk uk) → (ag y gt ut) → nu - y < n9 → va_P (dC, dI) vwCl (wT t0 t1 t2 t3 t4 cI nt gb ge gk gt ++ wT u0 u1 u2 u3 u4 cI nu ub ue uk ut) H → va_D A (wT t0 t1 t2 t3 t4 cI nt gb ge gk gt ++ wT u0 u1 u2 u3 u4 cI nu ub ue uk ut) → va_S A s.heap H locs → lv_has ls 3 [(0, .ref t0), (1, .ref u0), (2, .int (nI y))] → W p l e (headSpec wsX2_copyAll ({ frames := 1, cells := 0, slots := 0, locals := 23 } : Room)).room s m args below meth c H locs 0 0 Q (F0 m 2 ls []) := by
    intro n9
    induction n9 with
    | zero => intro y gb ge gk gt H locs ls hy h1 h2 h3 h4 hmu; exact absurd hmu (Nat.not_lt_zero _)
    | succ n9 ih_2 =>
      intro y gb ge gk gt H locs ls hy h1 h2 h3 h4 hmu hP hD hS hl
      refine lv_iload_n hx hb dX2_copyAll_2 rfl (lv_at hl 2 rfl) ?_
      refine lv_aload_n hx hb dX2_copyAll_3 rfl (lv_at hl 1 rfl) ?_
      refine va_get (D := (dC, dI)) (ci := 2) (v := .int (nI nu)) (C := RX2) (T := TX2) (N := 5) hx hb hts (by decide +kernel) hown hK hP 5 rfl rfl 4 (by decide) (hts (.fieldLink RX2 24 "HandlerOptimizer$Table" "count" "I") (by decide +kernel)) (fun _ h9 => h9) rfl dX2_copyAll_4 ?_
      refine lv_icmp_ge (tgt := 23) hx hb dX2_copyAll_7 (by decide) (fun c_1 => ?_) (fun c_1 => ?_)
      · skip
        have c_1 := (zz_get (a := y) (b := nu) (by omega) (by omega)).mp c_1
        have hy9 : y = nu := by omega
        refine lv_aload_n hx hb dX2_copyAll_23 rfl (lv_at hl 0 rfl) ?_
        refine lv_aload_n hx hb dX2_copyAll_24 rfl (lv_at hl 1 rfl) ?_
        refine va_get (D := (dC, dI)) (ci := 2) (v := .int (nI nu)) (C := RX2) (T := TX2) (N := 5) hx hb hts (by decide +kernel) hown hK hP 5 rfl rfl 4 (by decide) (hts (.fieldLink RX2 24 "HandlerOptimizer$Table" "count" "I") (by decide +kernel)) (fun _ h9 => h9) rfl dX2_copyAll_25 ?_
        refine va_put (D := (dC, dI)) (ci := 2) (v := .int (nI nu)) (ty := .int) (C := RX2) (T := TX2) (N := 5) hx hb hts (by decide +kernel) tyX2 tyX2_ok nmX2 hown hK hP hD hS 0 rfl rfl 4 (by decide) (hts (.fieldLink RX2 24 "HandlerOptimizer$Table" "count" "I") (by decide +kernel)) (fun _ h9 => h9) rfl (by decide +kernel) rfl rfl (Nat.le_of_ble_eq_true rfl) dX2_copyAll_28 (fun H locs hP hD hS => ?_)
        have hP : va_P (dC, dI) vwCl (wT t0 t1 t2 t3 t4 cI nu gb ge gk gt ++ wT u0 u1 u2 u3 u4 cI nu ub ue uk ut) H := hP
        have hD : va_D A (wT t0 t1 t2 t3 t4 cI nu gb ge gk gt ++ wT u0 u1 u2 u3 u4 cI nu ub ue uk ut) := hD
        rw [← hQ]
        have hP9 := hP
        have hD9 := hD
        exact W.vret hx hb hr (fun t ht hW => ⟨⟨(gb, ge, gk, gt), rfl, (rT_ag hT (hy9 ▸ h1) (hy9 ▸ h2) (hy9 ▸ h3) (hy9 ▸ h4)), (by rw [ht]; exact hP9), va_K.moved hW.alike hK, hD9⟩, hS.F ht⟩) hS.2.2 dX2_copyAll_31
      · skip
        have c_1 := (zz_gef (a := y) (b := nu) (by omega) (by omega)).mp c_1
        refine lv_aload_n hx hb dX2_copyAll_10 rfl (lv_at hl 0 rfl) ?_
        refine lv_aload_n hx hb dX2_copyAll_11 rfl (lv_at hl 1 rfl) ?_
        refine lv_iload_n hx hb dX2_copyAll_12 rfl (lv_at hl 2 rfl) ?_
        refine lv_iload_n hx hb dX2_copyAll_13 rfl (lv_at hl 2 rfl) ?_
        have hDc := hD
        have hFc := va_free (wc := wT t0 t1 t2 t3 t4 cI nt gb ge gk gt ++ wT u0 u1 u2 u3 u4 cI nu ub ue uk ut) hD hS hA [0, 1, 2, 3, 4, 5, 6, 7, 8, 9] rfl
        refine va_callv (va_runV (As := [.ref u0, .int (nI y), .int (nI y)]) (rest := []) ⟨hx, hb, hml, hown, hts⟩ (c_X2_copyEntry_two l dC dI cI cZ cJ t0 t1 t2 t3 t4 nt gb ge gk gt u0 u1 u2 u3 u4 nu ub ue uk ut y y H.size (by first | assumption | omega) (by first | assumption | omega)) (cwV 3 hts gX2_copyAll_X2_copyEntry rfl rfl rfl (by decide +kernel) ⟨Nat.le_of_ble_eq_true rfl, Nat.le_of_ble_eq_true rfl⟩) ⟨zWr_blind, va_recv hK hP (ci := 2) (q0 := 0) rfl rfl, zWr_at hP hK hn (hDc.weaken (fun _ _ _ _ => trivial))⟩ rfl rfl hl.1 rfl (lv_room (Nat.le_of_ble_eq_true rfl)) dX2_copyAll_14 ⟨Nat.le_of_ble_eq_true rfl, Nat.le_of_ble_eq_true rfl⟩) hS (fun q _ h => hFc q h) hFc (fun u_9 t H1 locs ht hvm hw hB hz1 hk1 hS => ?_)
        obtain ⟨hP1, -, hD1⟩ := hB
        rw [ht] at hP1
        obtain ⟨hP, hD⟩ := va_join (wr := []) (w1 := wT t0 t1 t2 t3 t4 cI nt (upd gb y (ub y)) (upd ge y (ue y)) (upd gk y (uk y)) (upd gt y (ut y)) ++ wT u0 u1 u2 u3 u4 cI nu ub ue uk ut) hP hD [0, 1, 2, 3, 4, 5, 6, 7, 8, 9] [] rfl rfl (by decide) (by decide) hk1 hFc hP1 hD1
        generalize H1 = H at hP hS ⊢
        have hP : va_P (dC, dI) vwCl (wT t0 t1 t2 t3 t4 cI nt (upd gb y (ub y)) (upd ge y (ue y)) (upd gk y (uk y)) (upd gt y (ut y)) ++ wT u0 u1 u2 u3 u4 cI nu ub ue uk ut) H := hP
        have hD : va_D A (wT t0 t1 t2 t3 t4 cI nt (upd gb y (ub y)) (upd ge y (ue y)) (upd gk y (uk y)) (upd gt y (ut y)) ++ wT u0 u1 u2 u3 u4 cI nu ub ue uk ut) := hD
        refine lv_iinc (v := nI (y + 1)) (lv' := [(2, .int (nI (y + 1))), (0, .ref t0), (1, .ref u0)]) hx hb dX2_copyAll_17 hl (k := 2) rfl (zz_inc y 1) (by decide) rfl (fun ls hl => ?_)
        refine lv_goto (tgt := 2) hx hb dX2_copyAll_20 (by decide) ?_
        exact ih_2 (y + 1) (upd gb y (ub y)) (upd ge y (ue y)) (upd gk y (uk y)) (upd gt y (ut y)) _ _ _ (by first | assumption | omega) (ag_s h1) (ag_s h2) (ag_s h3) (ag_s h4) (by omega) hP hD hS (lv_sub hl [1, 2, 0] rfl)
  exact J_2 _ 0 tb te tk tt _ _ _ (Nat.zero_le _) (fun j hj => absurd hj (Nat.not_lt_zero j)) (fun j hj => absurd hj (Nat.not_lt_zero j)) (fun j hj => absurd hj (Nat.not_lt_zero j)) (fun j hj => absurd hj (Nat.not_lt_zero j)) (Nat.lt_succ_self _) hP hD hS (lv_sub hl [1, 2, 0] rfl)

set_option maxHeartbeats 4000000 in
set_option maxRecDepth 100000 in
theorem c_X0_init (l : Launch) (dC : Nat → ClassId) (dI : Nat → Nat → Nat) (cI cZ cJ : ClassId) (c0 : Nat) (sz : Nat) : Met l yX0_init wsX0_init ({ frames := 1, cells := 3, slots := 144, locals := 12 } : Room) (va_Pc [.ref c0] (zWr (dC, dI) [(cI, .int), (cZ, .boolean), (cJ, .long)] ([(c0, .inr (0, [.null, .null, .null, .int 0]))]) sz)) (va_Qv (fun (u : Nat × Nat × Nat) => match u with | (c1, c2, c3) => True) (fun u t => match u with | (c1, c2, c3) => zWo (dC, dI) [(cI, .int), (cZ, .boolean), (cJ, .long)] (wC c0 c1 c2 c3 cI 0 (fun _ => 0) (fun _ => 0) (fun _ => 0)) (va_A ([(c0, .inr (0, [.null, .null, .null, .int 0]))]) sz) t) (va_A ([(c0, .inr (0, [.null, .null, .null, .int 0]))]) sz)) 3 144 (va_A ([(c0, .inr (0, [.null, .null, .null, .int 0]))]) sz) := by
  refine Met.ofW (cc := cX0_init) (maxL := 1) (ret := none) (by decide) rfl ?_
  intro p e s m args below meth c s₁ B hml hv
  obtain ⟨hav, hsz, ⟨hP, hK, hn⟩, hD0⟩ := hv
  have hx := B.exec
  have hb := B.bytes
  have hr := B.returns
  have hts := atoms_spec (ws := wsX0_init) B.pre
  have hown : s.vm.findClass RX0 = some m.cls := findClass_of_methodNamed B.named
  have hlocks := B.notSynchronized
  have hin : meth.name = "<init>" := (name_of_methodNamed B.named B.method).1
  subst hsz
  have hD := hD0.self (sz := s.heap.size)
  generalize hAe : (va_A ([(c0, .inr (0, [.null, .null, .null, .int 0]))]) s.heap.size) = A at hD ⊢
  have hA : ∀ q : Nat, s.heap.size ≤ q → A q := fun q h => by rw [← hAe]; exact Or.inr h
  have hS : va_S A s.heap s.heap [] := va_S.rf
  generalize hQ : MQ below (va_Qv (fun (u : Nat × Nat × Nat) => match u with | (c1, c2, c3) => True) (fun u t => match u with | (c1, c2, c3) => zWo (dC, dI) [(cI, .int), (cZ, .boolean), (cJ, .long)] (wC c0 c1 c2 c3 cI 0 (fun _ => 0) (fun _ => 0) (fun _ => 0)) A t) A) args s 3 144 A = Q
  refine W.eq (g2 := entryFrame m ([.ref c0] : List Value).toArray 1) (by rw [hav]) ?_
  have hl := lv_entry ([.ref c0]) (n := 1) (Nat.le_of_ble_eq_true rfl)
  rw [lg_entry_eq]
  generalize (lg_sl ([.ref c0]) ++ List.replicate (1 - (lg_sl ([.ref c0])).length) Slot.unset).toArray = ls at hl ⊢
  have hl : lv_has ls 1 [(0, .ref c0)] := hl
  obtain ⟨H, hH⟩ : ∃ H, H = s.heap := ⟨_, rfl⟩
  obtain ⟨locs, hlo⟩ : ∃ q : List Loc, q = [] := ⟨_, rfl⟩
  have hP : va_P (dC, dI) vwCl ([(c0, .inr (0, [.null, .null, .null, .int 0]))]) H := by rw [hH]; exact hP
  have hS : va_S A s.heap H locs := by rw [hH, hlo]; exact hS
  refine zz_hl hH hlo ?_
  refine lv_aload_n hx hb dX0_init_0 rfl (lv_at hl 0 rfl) ?_
  refine W.objInit hx hb hown (hts (.methodLink RX0 3 objectInit) (by decide +kernel)) (hts (.instanceMethod objectInit) (by decide +kernel)) (hts (.code objectInit ⟨#[0xb1]⟩ 1 none) (by decide +kernel)) rfl (by rw [hml]; exact hl.1) rfl dX0_init_1 (Nat.le_of_ble_eq_true rfl) (Nat.le_of_ble_eq_true rfl) ?_
  refine W.eq (g2 := F0 m 4 ls []) rfl ?_
  refine lv_aload_n hx hb dX0_init_4 rfl (lv_at hl 0 rfl) ?_
  refine lv_bipush (v := 48) hx hb dX0_init_5 (by decide) ?_
  refine va_newa (atype := .int) (ty := .int) (a0 := (48, .inl (fun _ => 0))) hx hb (hts (.arrayClass .int) (by decide +kernel)) rfl hK hP hD hS hA (n := 48) (N' := 48) (fun _ => rfl) (by decide) (by decide) (by decide) (Nat.le_of_ble_eq_true rfl) (Nat.le_of_ble_eq_true rfl) dX0_init_7 (fun q_7 cA H hK1 hP hD hS => ?_)
  rw [zz_cI hK1] at hP hD
  refine W.widen (k := 1) (n := 48) (by omega) (by omega) ?_
  have hP : va_P (dC, dI) vwCl ([(c0, .inr (0, [.null, .null, .null, .int 0])), (q_7, .inl (cI, 48, .inl (fun _ => 0)))]) H := hP
  have hD : va_D A ([(c0, .inr (0, [.null, .null, .null, .int 0])), (q_7, .inl (cI, 48, .inl (fun _ => 0)))]) := hD
  refine va_putF (D := (dC, dI)) (ci := 0) (v := .ref q_7) (ty := .array .int) (C := RX0) (T := TX0) (N := 4) hx hb hts (by decide +kernel) tyX0 tyX0_ok nmX0 hown hK hP hD hS 0 rfl rfl 0 (by decide) (hts (.fieldLink RX0 9 "HandlerOptimizer$Code" "forms" "[I") (by decide +kernel)) (fun _ h9 => h9) rfl hin rfl (by decide +kernel) rfl rfl (Nat.le_of_ble_eq_true rfl) dX0_init_9 (fun H locs hP hD hS => ?_)
  have hP : va_P (dC, dI) vwCl ([(c0, .inr (0, [.ref q_7, .null, .null, .int 0])), (q_7, .inl (cI, 48, .inl (fun _ => 0)))]) H := hP
  have hD : va_D A ([(c0, .inr (0, [.ref q_7, .null, .null, .int 0])), (q_7, .inl (cI, 48, .inl (fun _ => 0)))]) := hD
  refine lv_aload_n hx hb dX0_init_12 rfl (lv_at hl 0 rfl) ?_
  refine lv_bipush (v := 48) hx hb dX0_init_13 (by decide) ?_
  refine va_newa (atype := .int) (ty := .int) (a0 := (48, .inl (fun _ => 0))) hx hb (hts (.arrayClass .int) (by decide +kernel)) rfl hK hP hD hS hA (n := 48) (N' := 48) (fun _ => rfl) (by decide) (by decide) (by decide) (Nat.le_of_ble_eq_true rfl) (Nat.le_of_ble_eq_true rfl) dX0_init_15 (fun q_15 cA H hK1 hP hD hS => ?_)
  rw [zz_cI hK1] at hP hD
  refine W.widen (k := 2) (n := 96) (by omega) (by omega) ?_
  have hP : va_P (dC, dI) vwCl ([(c0, .inr (0, [.ref q_7, .null, .null, .int 0])), (q_7, .inl (cI, 48, .inl (fun _ => 0))), (q_15, .inl (cI, 48, .inl (fun _ => 0)))]) H := hP
  have hD : va_D A ([(c0, .inr (0, [.ref q_7, .null, .null, .int 0])), (q_7, .inl (cI, 48, .inl (fun _ => 0))), (q_15, .inl (cI, 48, .inl (fun _ => 0)))]) := hD
  refine va_putF (D := (dC, dI)) (ci := 0) (v := .ref q_15) (ty := .array .int) (C := RX0) (T := TX0) (N := 4) hx hb hts (by decide +kernel) tyX0 tyX0_ok nmX0 hown hK hP hD hS 0 rfl rfl 1 (by decide) (hts (.fieldLink RX0 15 "HandlerOptimizer$Code" "thrown" "[I") (by decide +kernel)) (fun _ h9 => h9) rfl hin rfl (by decide +kernel) rfl rfl (Nat.le_of_ble_eq_true rfl) dX0_init_17 (fun H locs hP hD hS => ?_)
  have hP : va_P (dC, dI) vwCl ([(c0, .inr (0, [.ref q_7, .ref q_15, .null, .int 0])), (q_7, .inl (cI, 48, .inl (fun _ => 0))), (q_15, .inl (cI, 48, .inl (fun _ => 0)))]) H := hP
  have hD : va_D A ([(c0, .inr (0, [.ref q_7, .ref q_15, .null, .int 0])), (q_7, .inl (cI, 48, .inl (fun _ => 0))), (q_15, .inl (cI, 48, .inl (fun _ => 0)))]) := hD
  refine lv_aload_n hx hb dX0_init_20 rfl (lv_at hl 0 rfl) ?_
  refine lv_bipush (v := 48) hx hb dX0_init_21 (by decide) ?_
  refine va_newa (atype := .int) (ty := .int) (a0 := (48, .inl (fun _ => 0))) hx hb (hts (.arrayClass .int) (by decide +kernel)) rfl hK hP hD hS hA (n := 48) (N' := 48) (fun _ => rfl) (by decide) (by decide) (by decide) (Nat.le_of_ble_eq_true rfl) (Nat.le_of_ble_eq_true rfl) dX0_init_23 (fun q_23 cA H hK1 hP hD hS => ?_)
  rw [zz_cI hK1] at hP hD
  refine W.widen (k := 3) (n := 144) (by omega) (by omega) ?_
  have hP : va_P (dC, dI) vwCl ([(c0, .inr (0, [.ref q_7, .ref q_15, .null, .int 0])), (q_7, .inl (cI, 48, .inl (fun _ => 0))), (q_15, .inl (cI, 48, .inl (fun _ => 0))), (q_23, .inl (cI, 48, .inl (fun _ => 0)))]) H := hP
  have hD : va_D A ([(c0, .inr (0, [.ref q_7, .ref q_15, .null, .int 0])), (q_7, .inl (cI, 48, .inl (fun _ => 0))), (q_15, .inl (cI, 48, .inl (fun _ => 0))), (q_23, .inl (cI, 48, .inl (fun _ => 0)))]) := hD
  refine va_putF (D := (dC, dI)) (ci := 0) (v := .ref q_23) (ty := .array .int) (C := RX0) (T := TX0) (N := 4) hx hb hts (by decide +kernel) tyX0 tyX0_ok nmX0 hown hK hP hD hS 0 rfl rfl 2 (by decide) (hts (.fieldLink RX0 18 "HandlerOptimizer$Code" "targets" "[I") (by decide +kernel)) (fun _ h9 => h9) rfl hin rfl (by decide +kernel) rfl rfl (Nat.le_of_ble_eq_true rfl) dX0_init_25 (fun H locs hP hD hS => ?_)
  have hP : va_P (dC, dI) vwCl (wC c0 q_7 q_15 q_23 cI 0 (fun _ => 0) (fun _ => 0) (fun _ => 0)) H := hP
  have hD : va_D A (wC c0 q_7 q_15 q_23 cI 0 (fun _ => 0) (fun _ => 0) (fun _ => 0)) := hD
  rw [← hQ]
  have hP9 := hP
  have hD9 := hD
  exact W.vret hx hb hr (fun t ht hW => ⟨⟨(q_7, q_15, q_23), rfl, trivial, (by rw [ht]; exact hP9), va_K.moved hW.alike hK, hD9⟩, hS.F ht⟩) hS.2.2 dX0_init_28

set_option maxHeartbeats 4000000 in
set_option maxRecDepth 100000 in
theorem c_X1_init (l : Launch) (dC : Nat → ClassId) (dI : Nat → Nat → Nat) (cI cZ cJ : ClassId) (k0 : Nat) (sz : Nat) : Met l yX1_init wsX1_init ({ frames := 1, cells := 2, slots := 16, locals := 12 } : Room) (va_Pc [.ref k0] (zWr (dC, dI) [(cI, .int), (cZ, .boolean), (cJ, .long)] ([(k0, .inr (1, [.null, .null, .int 0]))]) sz)) (va_Qv (fun (u : Nat × Nat) => match u with | (k1, k2) => True) (fun u t => match u with | (k1, k2) => zWo (dC, dI) [(cI, .int), (cZ, .boolean), (cJ, .long)] (wK k0 k1 k2 cI 1 (upd (fun _ => 0) 0 (-1)) (upd (fun _ => 0) 0 1)) (va_A ([(k0, .inr (1, [.null, .null, .int 0]))]) sz) t) (va_A ([(k0, .inr (1, [.null, .null, .int 0]))]) sz)) 2 16 (va_A ([(k0, .inr (1, [.null, .null, .int 0]))]) sz) := by
  refine Met.ofW (cc := cX1_init) (maxL := 1) (ret := none) (by decide) rfl ?_
  intro p e s m args below meth c s₁ B hml hv
  obtain ⟨hav, hsz, ⟨hP, hK, hn⟩, hD0⟩ := hv
  have hx := B.exec
  have hb := B.bytes
  have hr := B.returns
  have hts := atoms_spec (ws := wsX1_init) B.pre
  have hown : s.vm.findClass RX1 = some m.cls := findClass_of_methodNamed B.named
  have hlocks := B.notSynchronized
  have hin : meth.name = "<init>" := (name_of_methodNamed B.named B.method).1
  subst hsz
  have hD := hD0.self (sz := s.heap.size)
  generalize hAe : (va_A ([(k0, .inr (1, [.null, .null, .int 0]))]) s.heap.size) = A at hD ⊢
  have hA : ∀ q : Nat, s.heap.size ≤ q → A q := fun q h => by rw [← hAe]; exact Or.inr h
  have hS : va_S A s.heap s.heap [] := va_S.rf
  generalize hQ : MQ below (va_Qv (fun (u : Nat × Nat) => match u with | (k1, k2) => True) (fun u t => match u with | (k1, k2) => zWo (dC, dI) [(cI, .int), (cZ, .boolean), (cJ, .long)] (wK k0 k1 k2 cI 1 (upd (fun _ => 0) 0 (-1)) (upd (fun _ => 0) 0 1)) A t) A) args s 2 16 A = Q
  refine W.eq (g2 := entryFrame m ([.ref k0] : List Value).toArray 1) (by rw [hav]) ?_
  have hl := lv_entry ([.ref k0]) (n := 1) (Nat.le_of_ble_eq_true rfl)
  rw [lg_entry_eq]
  generalize (lg_sl ([.ref k0]) ++ List.replicate (1 - (lg_sl ([.ref k0])).length) Slot.unset).toArray = ls at hl ⊢
  have hl : lv_has ls 1 [(0, .ref k0)] := hl
  obtain ⟨H, hH⟩ : ∃ H, H = s.heap := ⟨_, rfl⟩
  obtain ⟨locs, hlo⟩ : ∃ q : List Loc, q = [] := ⟨_, rfl⟩
  have hP : va_P (dC, dI) vwCl ([(k0, .inr (1, [.null, .null, .int 0]))]) H := by rw [hH]; exact hP
  have hS : va_S A s.heap H locs := by rw [hH, hlo]; exact hS
  refine zz_hl hH hlo ?_
  refine lv_aload_n hx hb dX1_init_0 rfl (lv_at hl 0 rfl) ?_
  refine W.objInit hx hb hown (hts (.methodLink RX1 3 objectInit) (by decide +kernel)) (hts (.instanceMethod objectInit) (by decide +kernel)) (hts (.code objectInit ⟨#[0xb1]⟩ 1 none) (by decide +kernel)) rfl (by rw [hml]; exact hl.1) rfl dX1_init_1 (Nat.le_of_ble_eq_true rfl) (Nat.le_of_ble_eq_true rfl) ?_
  refine W.eq (g2 := F0 m 4 ls []) rfl ?_
  refine lv_aload_n hx hb dX1_init_4 rfl (lv_at hl 0 rfl) ?_
  refine lv_bipush (v := 8) hx hb dX1_init_5 (by decide) ?_
  refine va_newa (atype := .int) (ty := .int) (a0 := (8, .inl (fun _ => 0))) hx hb (hts (.arrayClass .int) (by decide +kernel)) rfl hK hP hD hS hA (n := 8) (N' := 8) (fun _ => rfl) (by decide) (by decide) (by decide) (Nat.le_of_ble_eq_true rfl) (Nat.le_of_ble_eq_true rfl) dX1_init_7 (fun q_7 cA H hK1 hP hD hS => ?_)
  rw [zz_cI hK1] at hP hD
  refine W.widen (k := 1) (n := 8) (by omega) (by omega) ?_
  have hP : va_P (dC, dI) vwCl ([(k0, .inr (1, [.null, .null, .int 0])), (q_7, .inl (cI, 8, .inl (fun _ => 0)))]) H := hP
  have hD : va_D A ([(k0, .inr (1, [.null, .null, .int 0])), (q_7, .inl (cI, 8, .inl (fun _ => 0)))]) := hD
  refine va_putF (D := (dC, dI)) (ci := 1) (v := .ref q_7) (ty := .array .int) (C := RX1) (T := TX1) (N := 3) hx hb hts (by decide +kernel) tyX1 tyX1_ok nmX1 hown hK hP hD hS 0 rfl rfl 0 (by decide) (hts (.fieldLink RX1 9 "HandlerOptimizer$Kinds" "parents" "[I") (by decide +kernel)) (fun _ h9 => h9) rfl hin rfl (by decide +kernel) rfl rfl (Nat.le_of_ble_eq_true rfl) dX1_init_9 (fun H locs hP hD hS => ?_)
  have hP : va_P (dC, dI) vwCl ([(k0, .inr (1, [.ref q_7, .null, .int 0])), (q_7, .inl (cI, 8, .inl (fun _ => 0)))]) H := hP
  have hD : va_D A ([(k0, .inr (1, [.ref q_7, .null, .int 0])), (q_7, .inl (cI, 8, .inl (fun _ => 0)))]) := hD
  refine lv_aload_n hx hb dX1_init_12 rfl (lv_at hl 0 rfl) ?_
  refine lv_bipush (v := 8) hx hb dX1_init_13 (by decide) ?_
  refine va_newa (atype := .int) (ty := .int) (a0 := (8, .inl (fun _ => 0))) hx hb (hts (.arrayClass .int) (by decide +kernel)) rfl hK hP hD hS hA (n := 8) (N' := 8) (fun _ => rfl) (by decide) (by decide) (by decide) (Nat.le_of_ble_eq_true rfl) (Nat.le_of_ble_eq_true rfl) dX1_init_15 (fun q_15 cA H hK1 hP hD hS => ?_)
  rw [zz_cI hK1] at hP hD
  refine W.widen (k := 2) (n := 16) (by omega) (by omega) ?_
  have hP : va_P (dC, dI) vwCl ([(k0, .inr (1, [.ref q_7, .null, .int 0])), (q_7, .inl (cI, 8, .inl (fun _ => 0))), (q_15, .inl (cI, 8, .inl (fun _ => 0)))]) H := hP
  have hD : va_D A ([(k0, .inr (1, [.ref q_7, .null, .int 0])), (q_7, .inl (cI, 8, .inl (fun _ => 0))), (q_15, .inl (cI, 8, .inl (fun _ => 0)))]) := hD
  refine va_putF (D := (dC, dI)) (ci := 1) (v := .ref q_15) (ty := .array .int) (C := RX1) (T := TX1) (N := 3) hx hb hts (by decide +kernel) tyX1 tyX1_ok nmX1 hown hK hP hD hS 0 rfl rfl 1 (by decide) (hts (.fieldLink RX1 15 "HandlerOptimizer$Kinds" "families" "[I") (by decide +kernel)) (fun _ h9 => h9) rfl hin rfl (by decide +kernel) rfl rfl (Nat.le_of_ble_eq_true rfl) dX1_init_17 (fun H locs hP hD hS => ?_)
  have hP : va_P (dC, dI) vwCl (wK k0 q_7 q_15 cI 0 (fun _ => 0) (fun _ => 0)) H := hP
  have hD : va_D A (wK k0 q_7 q_15 cI 0 (fun _ => 0) (fun _ => 0)) := hD
  refine lv_aload_n hx hb dX1_init_20 rfl (lv_at hl 0 rfl) ?_
  refine va_get (D := (dC, dI)) (ci := 1) (v := .ref q_7) (C := RX1) (T := TX1) (N := 3) hx hb hts (by decide +kernel) hown hK hP 0 rfl rfl 0 (by decide) (hts (.fieldLink RX1 9 "HandlerOptimizer$Kinds" "parents" "[I") (by decide +kernel)) (fun _ h9 => h9) rfl dX1_init_21 ?_
  refine lv_iconst (v := 0) hx hb dX1_init_24 (by decide) ?_
  refine lv_iconst (v := -1) hx hb dX1_init_25 (by decide) ?_
  refine va_iast hx hb hK hP hD hS 1 0 rfl rfl (vp_in_nI (n := 0) (by omega) (by decide)) dX1_init_26 (fun H locs hP hD hS => ?_)
  have hP : va_P (dC, dI) vwCl (wK k0 q_7 q_15 cI 0 (upd (fun _ => 0) 0 (-1)) (fun _ => 0)) H := hP
  have hD : va_D A (wK k0 q_7 q_15 cI 0 (upd (fun _ => 0) 0 (-1)) (fun _ => 0)) := hD
  refine lv_aload_n hx hb dX1_init_27 rfl (lv_at hl 0 rfl) ?_
  refine va_get (D := (dC, dI)) (ci := 1) (v := .ref q_15) (C := RX1) (T := TX1) (N := 3) hx hb hts (by decide +kernel) hown hK hP 0 rfl rfl 1 (by decide) (hts (.fieldLink RX1 15 "HandlerOptimizer$Kinds" "families" "[I") (by decide +kernel)) (fun _ h9 => h9) rfl dX1_init_28 ?_
  refine lv_iconst (v := 0) hx hb dX1_init_31 (by decide) ?_
  refine lv_iconst (v := 1) hx hb dX1_init_32 (by decide) ?_
  refine va_iast hx hb hK hP hD hS 2 0 rfl rfl (vp_in_nI (n := 0) (by omega) (by decide)) dX1_init_33 (fun H locs hP hD hS => ?_)
  have hP : va_P (dC, dI) vwCl (wK k0 q_7 q_15 cI 0 (upd (fun _ => 0) 0 (-1)) (upd (fun _ => 0) 0 1)) H := hP
  have hD : va_D A (wK k0 q_7 q_15 cI 0 (upd (fun _ => 0) 0 (-1)) (upd (fun _ => 0) 0 1)) := hD
  refine lv_aload_n hx hb dX1_init_34 rfl (lv_at hl 0 rfl) ?_
  refine lv_iconst (v := 1) hx hb dX1_init_35 (by decide) ?_
  refine va_put (D := (dC, dI)) (ci := 1) (v := .int 1) (ty := .int) (C := RX1) (T := TX1) (N := 3) hx hb hts (by decide +kernel) tyX1 tyX1_ok nmX1 hown hK hP hD hS 0 rfl rfl 2 (by decide) (hts (.fieldLink RX1 18 "HandlerOptimizer$Kinds" "count" "I") (by decide +kernel)) (fun _ h9 => h9) rfl (by decide +kernel) rfl rfl (Nat.le_of_ble_eq_true rfl) dX1_init_36 (fun H locs hP hD hS => ?_)
  have hP : va_P (dC, dI) vwCl (wK k0 q_7 q_15 cI 1 (upd (fun _ => 0) 0 (-1)) (upd (fun _ => 0) 0 1)) H := hP
  have hD : va_D A (wK k0 q_7 q_15 cI 1 (upd (fun _ => 0) 0 (-1)) (upd (fun _ => 0) 0 1)) := hD
  rw [← hQ]
  have hP9 := hP
  have hD9 := hD
  exact W.vret hx hb hr (fun t ht hW => ⟨⟨(q_7, q_15), rfl, trivial, (by rw [ht]; exact hP9), va_K.moved hW.alike hK, hD9⟩, hS.F ht⟩) hS.2.2 dX1_init_39

set_option maxHeartbeats 4000000 in
set_option maxRecDepth 100000 in
theorem c_X2_init (l : Launch) (dC : Nat → ClassId) (dI : Nat → Nat → Nat) (cI cZ cJ : ClassId) (t0 : Nat) (sz : Nat) : Met l yX2_init wsX2_init ({ frames := 1, cells := 4, slots := 96, locals := 12 } : Room) (va_Pc [.ref t0] (zWr (dC, dI) [(cI, .int), (cZ, .boolean), (cJ, .long)] ([(t0, .inr (2, [.null, .null, .null, .null, .int 0]))]) sz)) (va_Qv (fun (u : Nat × Nat × Nat × Nat) => match u with | (t1, t2, t3, t4) => True) (fun u t => match u with | (t1, t2, t3, t4) => zWo (dC, dI) [(cI, .int), (cZ, .boolean), (cJ, .long)] (wT t0 t1 t2 t3 t4 cI 0 (fun _ => 0) (fun _ => 0) (fun _ => 0) (fun _ => 0)) (va_A ([(t0, .inr (2, [.null, .null, .null, .null, .int 0]))]) sz) t) (va_A ([(t0, .inr (2, [.null, .null, .null, .null, .int 0]))]) sz)) 4 96 (va_A ([(t0, .inr (2, [.null, .null, .null, .null, .int 0]))]) sz) := by
  refine Met.ofW (cc := cX2_init) (maxL := 1) (ret := none) (by decide) rfl ?_
  intro p e s m args below meth c s₁ B hml hv
  obtain ⟨hav, hsz, ⟨hP, hK, hn⟩, hD0⟩ := hv
  have hx := B.exec
  have hb := B.bytes
  have hr := B.returns
  have hts := atoms_spec (ws := wsX2_init) B.pre
  have hown : s.vm.findClass RX2 = some m.cls := findClass_of_methodNamed B.named
  have hlocks := B.notSynchronized
  have hin : meth.name = "<init>" := (name_of_methodNamed B.named B.method).1
  subst hsz
  have hD := hD0.self (sz := s.heap.size)
  generalize hAe : (va_A ([(t0, .inr (2, [.null, .null, .null, .null, .int 0]))]) s.heap.size) = A at hD ⊢
  have hA : ∀ q : Nat, s.heap.size ≤ q → A q := fun q h => by rw [← hAe]; exact Or.inr h
  have hS : va_S A s.heap s.heap [] := va_S.rf
  generalize hQ : MQ below (va_Qv (fun (u : Nat × Nat × Nat × Nat) => match u with | (t1, t2, t3, t4) => True) (fun u t => match u with | (t1, t2, t3, t4) => zWo (dC, dI) [(cI, .int), (cZ, .boolean), (cJ, .long)] (wT t0 t1 t2 t3 t4 cI 0 (fun _ => 0) (fun _ => 0) (fun _ => 0) (fun _ => 0)) A t) A) args s 4 96 A = Q
  refine W.eq (g2 := entryFrame m ([.ref t0] : List Value).toArray 1) (by rw [hav]) ?_
  have hl := lv_entry ([.ref t0]) (n := 1) (Nat.le_of_ble_eq_true rfl)
  rw [lg_entry_eq]
  generalize (lg_sl ([.ref t0]) ++ List.replicate (1 - (lg_sl ([.ref t0])).length) Slot.unset).toArray = ls at hl ⊢
  have hl : lv_has ls 1 [(0, .ref t0)] := hl
  obtain ⟨H, hH⟩ : ∃ H, H = s.heap := ⟨_, rfl⟩
  obtain ⟨locs, hlo⟩ : ∃ q : List Loc, q = [] := ⟨_, rfl⟩
  have hP : va_P (dC, dI) vwCl ([(t0, .inr (2, [.null, .null, .null, .null, .int 0]))]) H := by rw [hH]; exact hP
  have hS : va_S A s.heap H locs := by rw [hH, hlo]; exact hS
  refine zz_hl hH hlo ?_
  refine lv_aload_n hx hb dX2_init_0 rfl (lv_at hl 0 rfl) ?_
  refine W.objInit hx hb hown (hts (.methodLink RX2 3 objectInit) (by decide +kernel)) (hts (.instanceMethod objectInit) (by decide +kernel)) (hts (.code objectInit ⟨#[0xb1]⟩ 1 none) (by decide +kernel)) rfl (by rw [hml]; exact hl.1) rfl dX2_init_1 (Nat.le_of_ble_eq_true rfl) (Nat.le_of_ble_eq_true rfl) ?_
  refine W.eq (g2 := F0 m 4 ls []) rfl ?_
  refine lv_aload_n hx hb dX2_init_4 rfl (lv_at hl 0 rfl) ?_
  refine lv_bipush (v := 24) hx hb dX2_init_5 (by decide) ?_
  refine va_newa (atype := .int) (ty := .int) (a0 := (24, .inl (fun _ => 0))) hx hb (hts (.arrayClass .int) (by decide +kernel)) rfl hK hP hD hS hA (n := 24) (N' := 24) (fun _ => rfl) (by decide) (by decide) (by decide) (Nat.le_of_ble_eq_true rfl) (Nat.le_of_ble_eq_true rfl) dX2_init_7 (fun q_7 cA H hK1 hP hD hS => ?_)
  rw [zz_cI hK1] at hP hD
  refine W.widen (k := 1) (n := 24) (by omega) (by omega) ?_
  have hP : va_P (dC, dI) vwCl ([(t0, .inr (2, [.null, .null, .null, .null, .int 0])), (q_7, .inl (cI, 24, .inl (fun _ => 0)))]) H := hP
  have hD : va_D A ([(t0, .inr (2, [.null, .null, .null, .null, .int 0])), (q_7, .inl (cI, 24, .inl (fun _ => 0)))]) := hD
  refine va_putF (D := (dC, dI)) (ci := 2) (v := .ref q_7) (ty := .array .int) (C := RX2) (T := TX2) (N := 5) hx hb hts (by decide +kernel) tyX2 tyX2_ok nmX2 hown hK hP hD hS 0 rfl rfl 0 (by decide) (hts (.fieldLink RX2 9 "HandlerOptimizer$Table" "begins" "[I") (by decide +kernel)) (fun _ h9 => h9) rfl hin rfl (by decide +kernel) rfl rfl (Nat.le_of_ble_eq_true rfl) dX2_init_9 (fun H locs hP hD hS => ?_)
  have hP : va_P (dC, dI) vwCl ([(t0, .inr (2, [.ref q_7, .null, .null, .null, .int 0])), (q_7, .inl (cI, 24, .inl (fun _ => 0)))]) H := hP
  have hD : va_D A ([(t0, .inr (2, [.ref q_7, .null, .null, .null, .int 0])), (q_7, .inl (cI, 24, .inl (fun _ => 0)))]) := hD
  refine lv_aload_n hx hb dX2_init_12 rfl (lv_at hl 0 rfl) ?_
  refine lv_bipush (v := 24) hx hb dX2_init_13 (by decide) ?_
  refine va_newa (atype := .int) (ty := .int) (a0 := (24, .inl (fun _ => 0))) hx hb (hts (.arrayClass .int) (by decide +kernel)) rfl hK hP hD hS hA (n := 24) (N' := 24) (fun _ => rfl) (by decide) (by decide) (by decide) (Nat.le_of_ble_eq_true rfl) (Nat.le_of_ble_eq_true rfl) dX2_init_15 (fun q_15 cA H hK1 hP hD hS => ?_)
  rw [zz_cI hK1] at hP hD
  refine W.widen (k := 2) (n := 48) (by omega) (by omega) ?_
  have hP : va_P (dC, dI) vwCl ([(t0, .inr (2, [.ref q_7, .null, .null, .null, .int 0])), (q_7, .inl (cI, 24, .inl (fun _ => 0))), (q_15, .inl (cI, 24, .inl (fun _ => 0)))]) H := hP
  have hD : va_D A ([(t0, .inr (2, [.ref q_7, .null, .null, .null, .int 0])), (q_7, .inl (cI, 24, .inl (fun _ => 0))), (q_15, .inl (cI, 24, .inl (fun _ => 0)))]) := hD
  refine va_putF (D := (dC, dI)) (ci := 2) (v := .ref q_15) (ty := .array .int) (C := RX2) (T := TX2) (N := 5) hx hb hts (by decide +kernel) tyX2 tyX2_ok nmX2 hown hK hP hD hS 0 rfl rfl 1 (by decide) (hts (.fieldLink RX2 15 "HandlerOptimizer$Table" "ends" "[I") (by decide +kernel)) (fun _ h9 => h9) rfl hin rfl (by decide +kernel) rfl rfl (Nat.le_of_ble_eq_true rfl) dX2_init_17 (fun H locs hP hD hS => ?_)
  have hP : va_P (dC, dI) vwCl ([(t0, .inr (2, [.ref q_7, .ref q_15, .null, .null, .int 0])), (q_7, .inl (cI, 24, .inl (fun _ => 0))), (q_15, .inl (cI, 24, .inl (fun _ => 0)))]) H := hP
  have hD : va_D A ([(t0, .inr (2, [.ref q_7, .ref q_15, .null, .null, .int 0])), (q_7, .inl (cI, 24, .inl (fun _ => 0))), (q_15, .inl (cI, 24, .inl (fun _ => 0)))]) := hD
  refine lv_aload_n hx hb dX2_init_20 rfl (lv_at hl 0 rfl) ?_
  refine lv_bipush (v := 24) hx hb dX2_init_21 (by decide) ?_
  refine va_newa (atype := .int) (ty := .int) (a0 := (24, .inl (fun _ => 0))) hx hb (hts (.arrayClass .int) (by decide +kernel)) rfl hK hP hD hS hA (n := 24) (N' := 24) (fun _ => rfl) (by decide) (by decide) (by decide) (Nat.le_of_ble_eq_true rfl) (Nat.le_of_ble_eq_true rfl) dX2_init_23 (fun q_23 cA H hK1 hP hD hS => ?_)
  rw [zz_cI hK1] at hP hD
  refine W.widen (k := 3) (n := 72) (by omega) (by omega) ?_
  have hP : va_P (dC, dI) vwCl ([(t0, .inr (2, [.ref q_7, .ref q_15, .null, .null, .int 0])), (q_7, .inl (cI, 24, .inl (fun _ => 0))), (q_15, .inl (cI, 24, .inl (fun _ => 0))), (q_23, .inl (cI, 24, .inl (fun _ => 0)))]) H := hP
  have hD : va_D A ([(t0, .inr (2, [.ref q_7, .ref q_15, .null, .null, .int 0])), (q_7, .inl (cI, 24, .inl (fun _ => 0))), (q_15, .inl (cI, 24, .inl (fun _ => 0))), (q_23, .inl (cI, 24, .inl (fun _ => 0)))]) := hD
  refine va_putF (D := (dC, dI)) (ci := 2) (v := .ref q_23) (ty := .array .int) (C := RX2) (T := TX2) (N := 5) hx hb hts (by decide +kernel) tyX2 tyX2_ok nmX2 hown hK hP hD hS 0 rfl rfl 2 (by decide) (hts (.fieldLink RX2 18 "HandlerOptimizer$Table" "kinds" "[I") (by decide +kernel)) (fun _ h9 => h9) rfl hin rfl (by decide +kernel) rfl rfl (Nat.le_of_ble_eq_true rfl) dX2_init_25 (fun H locs hP hD hS => ?_)
  have hP : va_P (dC, dI) vwCl ([(t0, .inr (2, [.ref q_7, .ref q_15, .ref q_23, .null, .int 0])), (q_7, .inl (cI, 24, .inl (fun _ => 0))), (q_15, .inl (cI, 24, .inl (fun _ => 0))), (q_23, .inl (cI, 24, .inl (fun _ => 0)))]) H := hP
  have hD : va_D A ([(t0, .inr (2, [.ref q_7, .ref q_15, .ref q_23, .null, .int 0])), (q_7, .inl (cI, 24, .inl (fun _ => 0))), (q_15, .inl (cI, 24, .inl (fun _ => 0))), (q_23, .inl (cI, 24, .inl (fun _ => 0)))]) := hD
  refine lv_aload_n hx hb dX2_init_28 rfl (lv_at hl 0 rfl) ?_
  refine lv_bipush (v := 24) hx hb dX2_init_29 (by decide) ?_
  refine va_newa (atype := .int) (ty := .int) (a0 := (24, .inl (fun _ => 0))) hx hb (hts (.arrayClass .int) (by decide +kernel)) rfl hK hP hD hS hA (n := 24) (N' := 24) (fun _ => rfl) (by decide) (by decide) (by decide) (Nat.le_of_ble_eq_true rfl) (Nat.le_of_ble_eq_true rfl) dX2_init_31 (fun q_31 cA H hK1 hP hD hS => ?_)
  rw [zz_cI hK1] at hP hD
  refine W.widen (k := 4) (n := 96) (by omega) (by omega) ?_
  have hP : va_P (dC, dI) vwCl ([(t0, .inr (2, [.ref q_7, .ref q_15, .ref q_23, .null, .int 0])), (q_7, .inl (cI, 24, .inl (fun _ => 0))), (q_15, .inl (cI, 24, .inl (fun _ => 0))), (q_23, .inl (cI, 24, .inl (fun _ => 0))), (q_31, .inl (cI, 24, .inl (fun _ => 0)))]) H := hP
  have hD : va_D A ([(t0, .inr (2, [.ref q_7, .ref q_15, .ref q_23, .null, .int 0])), (q_7, .inl (cI, 24, .inl (fun _ => 0))), (q_15, .inl (cI, 24, .inl (fun _ => 0))), (q_23, .inl (cI, 24, .inl (fun _ => 0))), (q_31, .inl (cI, 24, .inl (fun _ => 0)))]) := hD
  refine va_putF (D := (dC, dI)) (ci := 2) (v := .ref q_31) (ty := .array .int) (C := RX2) (T := TX2) (N := 5) hx hb hts (by decide +kernel) tyX2 tyX2_ok nmX2 hown hK hP hD hS 0 rfl rfl 3 (by decide) (hts (.fieldLink RX2 21 "HandlerOptimizer$Table" "targets" "[I") (by decide +kernel)) (fun _ h9 => h9) rfl hin rfl (by decide +kernel) rfl rfl (Nat.le_of_ble_eq_true rfl) dX2_init_33 (fun H locs hP hD hS => ?_)
  have hP : va_P (dC, dI) vwCl (wT t0 q_7 q_15 q_23 q_31 cI 0 (fun _ => 0) (fun _ => 0) (fun _ => 0) (fun _ => 0)) H := hP
  have hD : va_D A (wT t0 q_7 q_15 q_23 q_31 cI 0 (fun _ => 0) (fun _ => 0) (fun _ => 0) (fun _ => 0)) := hD
  rw [← hQ]
  have hP9 := hP
  have hD9 := hD
  exact W.vret hx hb hr (fun t ht hW => ⟨⟨(q_7, q_15, q_23, q_31), rfl, trivial, (by rw [ht]; exact hP9), va_K.moved hW.alike hK, hD9⟩, hS.F ht⟩) hS.2.2 dX2_init_36

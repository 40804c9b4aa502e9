set_option maxHeartbeats 4000000 in
set_option maxRecDepth 100000 in
theorem c_X3_isThrown (l : Launch) (dC : Nat → ClassId) (dI : Nat → Nat → Nat) (cI cZ cJ : ClassId) (a : Nat → Nat) (nk : Nat) (pa : Nat → Int32) (fa : Nat → Int32) (nc : Nat) (fo : Nat → Int32) (th : Nat → Int32) (tg : Nat → Int32) (nt : Nat) (tb : Nat → Int32) (te : Nat → Int32) (tk : Nat → Int32) (tt : Nat → Int32) (nu : Nat) (ub : Nat → Int32) (ue : Nat → Int32) (uk : Nat → Int32) (ut : Nat → Int32) (re : Nat → Int32) (ro : Nat → Int32) (fu : Nat → Int32) (bl : Nat → Int32) (go : Nat → Int32) (ra : Nat → Int32) (rc : Nat) (ex : Int32) (tc : Int32) (es : Int32) (wy : Int64) (i : Nat) (k : Nat) (v : Nat → Bool) (hi : i < 48) (hk : k < 8) (hre : ∀ j, j < 48 → re j = bI (v j)) : Met l yX3_isThrown wsX3_isThrown ({ frames := 1, cells := 0, slots := 0, locals := 22 } : Room) (va_Pc [.ref (a 0), .int (nI i), .int (nI k)] (zPre (dC, dI) [(cI, .int), (cZ, .boolean), (cJ, .long)] (w3 a cI cZ nk pa fa nc fo th tg nt tb te tk tt nu ub ue uk ut re ro fu bl go ra rc ex tc es wy))) (va_Qi (fun (r : Int32) (_ : Unit) => r = bI (v i && bt (th i) k)) (fun _ _ => True) (fun _ => False)) 0 0 (fun _ => False) := by
  refine Met.ofW (cc := cX3_isThrown) (maxL := 3) (ret := (some .boolean)) (by decide) rfl ?_
  intro p e s m args below meth c s₁ B hml hv
  obtain ⟨hav, hP, hK, hn⟩ := hv
  have hx := B.exec
  have hb := B.bytes
  have hr := B.returns
  have hts := atoms_spec (ws := wsX3_isThrown) B.pre
  have hown : s.vm.findClass RX3 = some m.cls := findClass_of_methodNamed B.named
  have hlocks := B.notSynchronized
  have hS : va_S (fun _ => False) s.heap s.heap [] := va_S.rf
  generalize hQ : MQ below (va_Qi (fun (r : Int32) (_ : Unit) => r = bI (v i && bt (th i) k)) (fun _ _ => True) (fun _ => False)) args s 0 0 (fun _ => False) = Q
  refine W.eq (g2 := entryFrame m ([.ref (a 0), .int (nI i), .int (nI k)] : List Value).toArray 3) (by rw [hav]) ?_
  have hl := lv_entry ([.ref (a 0), .int (nI i), .int (nI k)]) (n := 3) (Nat.le_of_ble_eq_true rfl)
  rw [lg_entry_eq]
  generalize (lg_sl ([.ref (a 0), .int (nI i), .int (nI k)]) ++ List.replicate (3 - (lg_sl ([.ref (a 0), .int (nI i), .int (nI k)])).length) Slot.unset).toArray = ls at hl ⊢
  have hl : lv_has ls 3 [(0, .ref (a 0)), (1, .int (nI i)), (2, .int (nI k))] := hl
  obtain ⟨H, hH⟩ : ∃ H, H = s.heap := ⟨_, rfl⟩
  obtain ⟨locs, hlo⟩ : ∃ q : List Loc, q = [] := ⟨_, rfl⟩
  have hP : va_P (dC, dI) vwCl (w3 a cI cZ nk pa fa nc fo th tg nt tb te tk tt nu ub ue uk ut re ro fu bl go ra rc ex tc es wy) H := by rw [hH]; exact hP
  have hS : va_S (fun _ => False) s.heap H locs := by rw [hH, hlo]; exact hS
  refine zz_hl hH hlo ?_
  refine lv_aload_n hx hb dX3_isThrown_0 rfl (lv_at hl 0 rfl) ?_
  refine va_get (D := (dC, dI)) (ci := 3) (v := .ref (a 18)) (C := RX3) (T := TX3) (N := 15) hx hb hts (by decide +kernel) hown hK hP 0 rfl rfl 4 (by decide) (hts (.fieldLink RX3 33 "HandlerOptimizer" "reached" "[Z") (by decide +kernel)) (fun _ h9 => h9) rfl dX3_isThrown_1 ?_
  refine lv_iload_n hx hb dX3_isThrown_4 rfl (lv_at hl 1 rfl) ?_
  refine va_zald hx hb hK hP 18 1 rfl rfl (vp_in_nI (n := i) (by omega) (by decide)) dX3_isThrown_5 ?_
  refine zz_top (y := re i) (congrArg _ (nI_clamp (by omega))) ?_
  refine zz_top (y := bI (v i)) (hre i hi) ?_
  refine lv_if_eq (tgt := 25) hx hb dX3_isThrown_6 (by decide) (fun c_1 => ?_) (fun c_1 => ?_)
  · skip
    have c_1 := zb_0.mp c_1
    refine lv_iconst (v := 0) hx hb dX3_isThrown_25 (by decide) ?_
    rw [← hQ]
    exact W.zret (v := 0) hx hb hr rfl (fun t ht hW => ⟨⟨0, (), rfl, (by simp [bI, *]), trivial⟩, hS.F ht⟩) hS.2.2 dX3_isThrown_26
  · skip
    have c_1 := zb_1.mp c_1
    refine lv_aload_n hx hb dX3_isThrown_9 rfl (lv_at hl 0 rfl) ?_
    refine va_get (D := (dC, dI)) (ci := 3) (v := .ref (a 4)) (C := RX3) (T := TX3) (N := 15) hx hb hts (by decide +kernel) hown hK hP 0 rfl rfl 1 (by decide) (hts (.fieldLink RX3 19 "HandlerOptimizer" "code" "LHandlerOptimizer$Code;") (by decide +kernel)) (fun _ h9 => h9) rfl dX3_isThrown_10 ?_
    refine lv_iload_n hx hb dX3_isThrown_13 rfl (lv_at hl 1 rfl) ?_
    refine lv_iload_n hx hb dX3_isThrown_14 rfl (lv_at hl 2 rfl) ?_
    have hPc := hP.sub (ws' := wC (a 4) (a 5) (a 6) (a 7) cI nc fo th tg) [4, 5, 6, 7] rfl
    refine va_calli (va_runVN (As := [.int (nI i), .int (nI k)]) (rest := []) ⟨hx, hb, hml, hown, hts⟩ (c_X0_canThrow l dC dI cI cZ cJ (a 4) (a 5) (a 6) (a 7) nc fo th tg i k (by first | assumption | omega) (by first | assumption | omega)) ⟨va_cnB 2 hts gX3_isThrown_X0_canThrow_n256 rfl rfl rfl (hn (.methodLinkNest RX3 256 yX0_canThrow "HandlerOptimizer") (by decide +kernel)) (hts (.initialized RX0) (by decide +kernel)) (by decide +kernel) ⟨Nat.le_of_ble_eq_true rfl, Nat.le_of_ble_eq_true rfl⟩, hts (.instanceMethod yX0_canThrow) (by decide +kernel), hts (.selects RX0 yX0_canThrow yX0_canThrow) (by decide +kernel)⟩ ⟨zPre_blind, va_recv hK hPc (ci := 0) (q0 := 0) rfl rfl, zPre_at hPc hK hn⟩ rfl rfl hl.1 rfl (lv_room (Nat.le_of_ble_eq_true rfl)) dX3_isThrown_15 ⟨Nat.le_of_ble_eq_true rfl, Nat.le_of_ble_eq_true rfl⟩) hS (fun _ _ h => h.elim) (fun _ h => h.elim) (fun r_2 u_9 t H locs ht hvm hw hB hz1 hk1 hS => ?_)
    have hP := zkeep hP hk1
    subst hw
    refine lv_if_eq (tgt := 25) hx hb dX3_isThrown_18 (by decide) (fun c_3 => ?_) (fun c_3 => ?_)
    · skip
      have c_3 := zb_0.mp c_3
      refine lv_iconst (v := 0) hx hb dX3_isThrown_25 (by decide) ?_
      rw [← hQ]
      exact W.zret (v := 0) hx hb hr rfl (fun t ht hW => ⟨⟨0, (), rfl, (by simp [bI, *]), trivial⟩, hS.F ht⟩) hS.2.2 dX3_isThrown_26
    · skip
      have c_3 := zb_1.mp c_3
      refine lv_iconst (v := 1) hx hb dX3_isThrown_21 (by decide) ?_
      refine lv_goto (tgt := 26) hx hb dX3_isThrown_22 (by decide) ?_
      rw [← hQ]
      exact W.zret (v := 1) hx hb hr rfl (fun t ht hW => ⟨⟨1, (), rfl, (by simp [bI, *]), trivial⟩, hS.F ht⟩) hS.2.2 dX3_isThrown_26

set_option maxHeartbeats 4000000 in
set_option maxRecDepth 100000 in
theorem c_X3_reach (l : Launch) (dC : Nat → ClassId) (dI : Nat → Nat → Nat) (cI cZ cJ : ClassId) (a : Nat → Nat) (nk : Nat) (pa : Nat → Int32) (fa : Nat → Int32) (nc : Nat) (fo : Nat → Int32) (th : Nat → Int32) (tg : Nat → Int32) (nt : Nat) (tb : Nat → Int32) (te : Nat → Int32) (tk : Nat → Int32) (tt : Nat → Int32) (nu : Nat) (ub : Nat → Int32) (ue : Nat → Int32) (uk : Nat → Int32) (ut : Nat → Int32) (re : Nat → Int32) (ro : Nat → Int32) (fu : Nat → Int32) (bl : Nat → Int32) (go : Nat → Int32) (ra : Nat → Int32) (rc : Nat) (ex : Int32) (tc : Int32) (es : Int32) (wy : Int64) (x : Int32) (R : Nat → Bool) (v : Nat → Bool) (sz : Nat) (hnc : nc ≤ 48) (hI : inv3 nc R v re ro rc) (hR : ∀ j, j < nc → x = nI j → R j = true) : Met l yX3_reach wsX3_reach ({ frames := 1, cells := 0, slots := 0, locals := 21 } : Room) (va_Pc [.ref (a 0), .int x] (zWr (dC, dI) [(cI, .int), (cZ, .boolean), (cJ, .long)] (w3 a cI cZ nk pa fa nc fo th tg nt tb te tk tt nu ub ue uk ut re ro fu bl go ra rc ex tc es wy) sz)) (va_Qv (fun (u : (Nat → Int32) × (Nat → Int32) × Nat) => match u with | (re9, ro9, rc9) => ∃ v9, st3 nc R v ro rc v9 re9 ro9 rc9 ∧ ∀ j, j < nc → x = nI j → v9 j = true) (fun u t => match u with | (re9, ro9, rc9) => zWo (dC, dI) [(cI, .int), (cZ, .boolean), (cJ, .long)] (w3 a cI cZ nk pa fa nc fo th tg nt tb te tk tt nu ub ue uk ut re9 ro9 fu bl go ra rc9 ex tc es wy) (va_A (w3 a cI cZ nk pa fa nc fo th tg nt tb te tk tt nu ub ue uk ut re ro fu bl go ra rc ex tc es wy) sz) t) (va_A (w3 a cI cZ nk pa fa nc fo th tg nt tb te tk tt nu ub ue uk ut re ro fu bl go ra rc ex tc es wy) sz)) 0 0 (va_A (w3 a cI cZ nk pa fa nc fo th tg nt tb te tk tt nu ub ue uk ut re ro fu bl go ra rc ex tc es wy) sz) := by
  refine Met.ofW (cc := cX3_reach) (maxL := 2) (ret := none) (by decide) rfl ?_
  intro p e s m args below meth c s₁ B hml hv
  obtain ⟨hav, hsz, ⟨hP, hK, hn⟩, hD0⟩ := hv
  have hx := B.exec
  have hb := B.bytes
  have hr := B.returns
  have hts := atoms_spec (ws := wsX3_reach) B.pre
  have hown : s.vm.findClass RX3 = some m.cls := findClass_of_methodNamed B.named
  have hlocks := B.notSynchronized
  subst hsz
  have hD := hD0.self (sz := s.heap.size)
  generalize hAe : (va_A (w3 a cI cZ nk pa fa nc fo th tg nt tb te tk tt nu ub ue uk ut re ro fu bl go ra rc ex tc es wy) s.heap.size) = A at hD ⊢
  have hA : ∀ q : Nat, s.heap.size ≤ q → A q := fun q h => by rw [← hAe]; exact Or.inr h
  have hS : va_S A s.heap s.heap [] := va_S.rf
  generalize hQ : MQ below (va_Qv (fun (u : (Nat → Int32) × (Nat → Int32) × Nat) => match u with | (re9, ro9, rc9) => ∃ v9, st3 nc R v ro rc v9 re9 ro9 rc9 ∧ ∀ j, j < nc → x = nI j → v9 j = true) (fun u t => match u with | (re9, ro9, rc9) => zWo (dC, dI) [(cI, .int), (cZ, .boolean), (cJ, .long)] (w3 a cI cZ nk pa fa nc fo th tg nt tb te tk tt nu ub ue uk ut re9 ro9 fu bl go ra rc9 ex tc es wy) A t) A) args s 0 0 A = Q
  refine W.eq (g2 := entryFrame m ([.ref (a 0), .int x] : List Value).toArray 2) (by rw [hav]) ?_
  have hl := lv_entry ([.ref (a 0), .int x]) (n := 2) (Nat.le_of_ble_eq_true rfl)
  rw [lg_entry_eq]
  generalize (lg_sl ([.ref (a 0), .int x]) ++ List.replicate (2 - (lg_sl ([.ref (a 0), .int x])).length) Slot.unset).toArray = ls at hl ⊢
  have hl : lv_has ls 2 [(0, .ref (a 0)), (1, .int x)] := hl
  obtain ⟨H, hH⟩ : ∃ H, H = s.heap := ⟨_, rfl⟩
  obtain ⟨locs, hlo⟩ : ∃ q : List Loc, q = [] := ⟨_, rfl⟩
  have hP : va_P (dC, dI) vwCl (w3 a cI cZ nk pa fa nc fo th tg nt tb te tk tt nu ub ue uk ut re ro fu bl go ra rc ex tc es wy) H := by rw [hH]; exact hP
  have hS : va_S A s.heap H locs := by rw [hH, hlo]; exact hS
  refine zz_hl hH hlo ?_
  refine lv_aload_n hx hb dX3_reach_0 rfl (lv_at hl 0 rfl) ?_
  refine va_get (D := (dC, dI)) (ci := 3) (v := .ref (a 4)) (C := RX3) (T := TX3) (N := 15) hx hb hts (by decide +kernel) hown hK hP 0 rfl rfl 1 (by decide) (hts (.fieldLink RX3 19 "HandlerOptimizer" "code" "LHandlerOptimizer$Code;") (by decide +kernel)) (fun _ h9 => h9) rfl dX3_reach_1 ?_
  refine lv_iload_n hx hb dX3_reach_4 rfl (lv_at hl 1 rfl) ?_
  have hPc := hP.sub (ws' := wC (a 4) (a 5) (a 6) (a 7) cI nc fo th tg) [4, 5, 6, 7] rfl
  refine va_calli (va_runVN (As := [.int x]) (rest := []) ⟨hx, hb, hml, hown, hts⟩ (c_X0_has l dC dI cI cZ cJ (a 4) (a 5) (a 6) (a 7) nc fo th tg x ) ⟨va_cnB 1 hts gX3_reach_X0_has_n208 rfl rfl rfl (hn (.methodLinkNest RX3 208 yX0_has "HandlerOptimizer") (by decide +kernel)) (hts (.initialized RX0) (by decide +kernel)) (by decide +kernel) ⟨Nat.le_of_ble_eq_true rfl, Nat.le_of_ble_eq_true rfl⟩, hts (.instanceMethod yX0_has) (by decide +kernel), hts (.selects RX0 yX0_has yX0_has) (by decide +kernel)⟩ ⟨zPre_blind, va_recv hK hPc (ci := 0) (q0 := 0) rfl rfl, zPre_at hPc hK hn⟩ rfl rfl hl.1 rfl (lv_room (Nat.le_of_ble_eq_true rfl)) dX3_reach_5 ⟨Nat.le_of_ble_eq_true rfl, Nat.le_of_ble_eq_true rfl⟩) hS (fun _ _ h => h.elim) (fun _ h => h.elim) (fun r_1 u_9 t H locs ht hvm hw hB hz1 hk1 hS => ?_)
  have hP := zkeep hP hk1
  subst hw
  refine lv_if_eq (tgt := 47) hx hb dX3_reach_8 (by decide) (fun c_2 => ?_) (fun c_2 => ?_)
  · skip
    have c9 := zb_0.mp c_2
    rw [← hQ]
    have hP9 := hP
    have hD9 := hD
    exact W.vret hx hb hr (fun t ht hW => ⟨⟨(re, ro, rc), rfl, (by first | exact ⟨v, st3_rf hI, fun j hj q => absurd q (hasI_f (by omega) c9 hj)⟩ | exact ⟨vs v i, st3_mark hI hi c8 (hR i hi rfl), fun j hj q => by have := (nI_eq (by omega) (by omega)).mp q; simp [vs, this]⟩ | exact ⟨v, st3_rf hI, fun j hj q => by have := (nI_eq (by omega) (by omega)).mp q; rw [← this]; exact c8⟩), (by rw [ht]; exact hP9), va_K.moved hW.alike hK, hD9⟩, hS.F ht⟩) hS.2.2 dX3_reach_47
  · skip
    have c9 := zb_1.mp c_2
    obtain ⟨i, hi, rfl⟩ := hasI_at (by omega) c9
    have hrc := inv3_le hI
    refine lv_aload_n hx hb dX3_reach_11 rfl (lv_at hl 0 rfl) ?_
    refine va_get (D := (dC, dI)) (ci := 3) (v := .ref (a 18)) (C := RX3) (T := TX3) (N := 15) hx hb hts (by decide +kernel) hown hK hP 0 rfl rfl 4 (by decide) (hts (.fieldLink RX3 33 "HandlerOptimizer" "reached" "[Z") (by decide +kernel)) (fun _ h9 => h9) rfl dX3_reach_12 ?_
    refine lv_iload_n hx hb dX3_reach_15 rfl (lv_at hl 1 rfl) ?_
    refine va_zald hx hb hK hP 18 1 rfl rfl (vp_in_nI (n := i) (by omega) (by decide)) dX3_reach_16 ?_
    refine zz_top (y := re i) (congrArg _ (nI_clamp (by omega))) ?_
    refine zz_top (y := bI (v i)) (hI.1 i (by omega)) ?_
    refine lv_if_ne (tgt := 47) hx hb dX3_reach_17 (by decide) (fun c_3 => ?_) (fun c_3 => ?_)
    · skip
      have c8 := zb_1.mp c_3
      rw [← hQ]
      have hP9 := hP
      have hD9 := hD
      exact W.vret hx hb hr (fun t ht hW => ⟨⟨(re, ro, rc), rfl, (by first | exact ⟨v, st3_rf hI, fun j hj q => absurd q (hasI_f (by omega) c9 hj)⟩ | exact ⟨vs v i, st3_mark hI hi c8 (hR i hi rfl), fun j hj q => by have := (nI_eq (by omega) (by omega)).mp q; simp [vs, this]⟩ | exact ⟨v, st3_rf hI, fun j hj q => by have := (nI_eq (by omega) (by omega)).mp q; rw [← this]; exact c8⟩), (by rw [ht]; exact hP9), va_K.moved hW.alike hK, hD9⟩, hS.F ht⟩) hS.2.2 dX3_reach_47
    · skip
      have c8 := zb_0.mp c_3
      have hrc9 : rc < nc := by rw [hI.2.2.1]; exact ct_lt hi c8
      refine lv_aload_n hx hb dX3_reach_20 rfl (lv_at hl 0 rfl) ?_
      refine va_get (D := (dC, dI)) (ci := 3) (v := .ref (a 18)) (C := RX3) (T := TX3) (N := 15) hx hb hts (by decide +kernel) hown hK hP 0 rfl rfl 4 (by decide) (hts (.fieldLink RX3 33 "HandlerOptimizer" "reached" "[Z") (by decide +kernel)) (fun _ h9 => h9) rfl dX3_reach_21 ?_
      refine lv_iload_n hx hb dX3_reach_24 rfl (lv_at hl 1 rfl) ?_
      refine lv_iconst (v := 1) hx hb dX3_reach_25 (by decide) ?_
      refine va_zast hx hb hK hP hD hS 18 1 rfl rfl (vp_in_nI (n := i) (by omega) (by decide)) dX3_reach_26 (fun H locs hP hD hS => ?_)
      rw [nI_clamp (n := i) (by omega)] at hP hD
      rw [zz_nz1] at hP hD
      have hP : va_P (dC, dI) vwCl (w3 a cI cZ nk pa fa nc fo th tg nt tb te tk tt nu ub ue uk ut (upd re i 1) ro fu bl go ra rc ex tc es wy) H := hP
      have hD : va_D A (w3 a cI cZ nk pa fa nc fo th tg nt tb te tk tt nu ub ue uk ut (upd re i 1) ro fu bl go ra rc ex tc es wy) := hD
      refine lv_aload_n hx hb dX3_reach_27 rfl (lv_at hl 0 rfl) ?_
      refine va_get (D := (dC, dI)) (ci := 3) (v := .ref (a 19)) (C := RX3) (T := TX3) (N := 15) hx hb hts (by decide +kernel) hown hK hP 0 rfl rfl 5 (by decide) (hts (.fieldLink RX3 37 "HandlerOptimizer" "reachedOrder" "[I") (by decide +kernel)) (fun _ h9 => h9) rfl dX3_reach_28 ?_
      refine lv_aload_n hx hb dX3_reach_31 rfl (lv_at hl 0 rfl) ?_
      refine va_get (D := (dC, dI)) (ci := 3) (v := .int (nI rc)) (C := RX3) (T := TX3) (N := 15) hx hb hts (by decide +kernel) hown hK hP 0 rfl rfl 6 (by decide) (hts (.fieldLink RX3 247 "HandlerOptimizer" "reachedCount" "I") (by decide +kernel)) (fun _ h9 => h9) rfl dX3_reach_32 ?_
      refine lv_iload_n hx hb dX3_reach_35 rfl (lv_at hl 1 rfl) ?_
      refine va_iast hx hb hK hP hD hS 19 0 rfl rfl (vp_in_nI (n := rc) (by omega) (by decide)) dX3_reach_36 (fun H locs hP hD hS => ?_)
      rw [nI_clamp (n := rc) (by omega)] at hP hD
      have hP : va_P (dC, dI) vwCl (w3 a cI cZ nk pa fa nc fo th tg nt tb te tk tt nu ub ue uk ut (upd re i 1) (upd ro rc (nI i)) fu bl go ra rc ex tc es wy) H := hP
      have hD : va_D A (w3 a cI cZ nk pa fa nc fo th tg nt tb te tk tt nu ub ue uk ut (upd re i 1) (upd ro rc (nI i)) fu bl go ra rc ex tc es wy) := hD
      refine lv_aload_n hx hb dX3_reach_37 rfl (lv_at hl 0 rfl) ?_
      refine lv_dup hx hb dX3_reach_38 rfl ?_
      refine va_get (D := (dC, dI)) (ci := 3) (v := .int (nI rc)) (C := RX3) (T := TX3) (N := 15) hx hb hts (by decide +kernel) hown hK hP 0 rfl rfl 6 (by decide) (hts (.fieldLink RX3 247 "HandlerOptimizer" "reachedCount" "I") (by decide +kernel)) (fun _ h9 => h9) rfl dX3_reach_39 ?_
      refine lv_iconst (v := 1) hx hb dX3_reach_42 (by decide) ?_
      refine lv_iadd hx hb dX3_reach_43 ?_
      refine zz_top (y := nI (rc + 1)) (nI_add _ _) ?_
      refine va_put (D := (dC, dI)) (ci := 3) (v := .int (nI (rc + 1))) (ty := .int) (C := RX3) (T := TX3) (N := 15) hx hb hts (by decide +kernel) tyX3 tyX3_ok nmX3 hown hK hP hD hS 0 rfl rfl 6 (by decide) (hts (.fieldLink RX3 247 "HandlerOptimizer" "reachedCount" "I") (by decide +kernel)) (fun _ h9 => h9) rfl (by decide +kernel) rfl rfl (Nat.le_of_ble_eq_true rfl) dX3_reach_44 (fun H locs hP hD hS => ?_)
      have hP : va_P (dC, dI) vwCl (w3 a cI cZ nk pa fa nc fo th tg nt tb te tk tt nu ub ue uk ut (upd re i 1) (upd ro rc (nI i)) fu bl go ra (rc + 1) ex tc es wy) H := hP
      have hD : va_D A (w3 a cI cZ nk pa fa nc fo th tg nt tb te tk tt nu ub ue uk ut (upd re i 1) (upd ro rc (nI i)) fu bl go ra (rc + 1) ex tc es wy) := hD
      rw [← hQ]
      have hP9 := hP
      have hD9 := hD
      exact W.vret hx hb hr (fun t ht hW => ⟨⟨(upd re i 1, upd ro rc (nI i), rc + 1), rfl, (by first | exact ⟨v, st3_rf hI, fun j hj q => absurd q (hasI_f (by omega) c9 hj)⟩ | exact ⟨vs v i, st3_mark hI hi c8 (hR i hi rfl), fun j hj q => by have := (nI_eq (by omega) (by omega)).mp q; simp [vs, this]⟩ | exact ⟨v, st3_rf hI, fun j hj q => by have := (nI_eq (by omega) (by omega)).mp q; rw [← this]; exact c8⟩), (by rw [ht]; exact hP9), va_K.moved hW.alike hK, hD9⟩, hS.F ht⟩) hS.2.2 dX3_reach_47

set_option maxHeartbeats 4000000 in
set_option maxRecDepth 100000 in
theorem c_X3_reachFrom (l : Launch) (dC : Nat → ClassId) (dI : Nat → Nat → Nat) (cI cZ cJ : ClassId) (a : Nat → Nat) (nk : Nat) (pa : Nat → Int32) (fa : Nat → Int32) (nc : Nat) (fo : Nat → Int32) (th : Nat → Int32) (tg : Nat → Int32) (nt : Nat) (tb : Nat → Int32) (te : Nat → Int32) (tk : Nat → Int32) (tt : Nat → Int32) (nu : Nat) (ub : Nat → Int32) (ue : Nat → Int32) (uk : Nat → Int32) (ut : Nat → Int32) (re : Nat → Int32) (ro : Nat → Int32) (fu : Nat → Int32) (bl : Nat → Int32) (go : Nat → Int32) (ra : Nat → Int32) (rc : Nat) (ex : Int32) (tc : Int32) (es : Int32) (wy : Int64) (i : Nat) (T : Nat → Nat → Nat) (up : Nat → Nat → Bool) (v : Nat → Bool) (sz : Nat) (hg : g3 nk fa up nt tb te tk tt T) (hc : okC nk nc fo th tg) (hi : i < nc) (hI : inv3 nc (RB nk nc fo th tg T nt up) v re ro rc) (hri : RB nk nc fo th tg T nt up i = true) : Met l yX3_reachFrom wsX3_reachFrom ({ frames := 2, cells := 0, slots := 0, locals := 49 } : Room) (va_Pc [.ref (a 0), .int (nI i)] (zWr (dC, dI) [(cI, .int), (cZ, .boolean), (cJ, .long)] (w3 a cI cZ nk pa fa nc fo th tg nt tb te tk tt nu ub ue uk ut re ro fu bl go ra rc ex tc es wy) sz)) (va_Qv (fun (u : (Nat → Int32) × (Nat → Int32) × Nat) => match u with | (re9, ro9, rc9) => ∃ v9, st3 nc (RB nk nc fo th tg T nt up) v ro rc v9 re9 ro9 rc9 ∧ ∀ j, j < nc → ed nk fo th tg (gl T nt up) i j → v9 j = true) (fun u t => match u with | (re9, ro9, rc9) => zWo (dC, dI) [(cI, .int), (cZ, .boolean), (cJ, .long)] (w3 a cI cZ nk pa fa nc fo th tg nt tb te tk tt nu ub ue uk ut re9 ro9 fu bl go ra rc9 ex tc es wy) (va_A (w3 a cI cZ nk pa fa nc fo th tg nt tb te tk tt nu ub ue uk ut re ro fu bl go ra rc ex tc es wy) sz) t) (va_A (w3 a cI cZ nk pa fa nc fo th tg nt tb te tk tt nu ub ue uk ut re ro fu bl go ra rc ex tc es wy) sz)) 0 0 (va_A (w3 a cI cZ nk pa fa nc fo th tg nt tb te tk tt nu ub ue uk ut re ro fu bl go ra rc ex tc es wy) sz) := by
  refine Met.ofW (cc := cX3_reachFrom) (maxL := 4) (ret := none) (by decide) rfl ?_
  intro p e s m args below meth c s₁ B hml hv
  obtain ⟨hav, hsz, ⟨hP, hK, hn⟩, hD0⟩ := hv
  have hx := B.exec
  have hb := B.bytes
  have hr := B.returns
  have hts := atoms_spec (ws := wsX3_reachFrom) B.pre
  have hown : s.vm.findClass RX3 = some m.cls := findClass_of_methodNamed B.named
  have hlocks := B.notSynchronized
  subst hsz
  have hD := hD0.self (sz := s.heap.size)
  generalize hAe : (va_A (w3 a cI cZ nk pa fa nc fo th tg nt tb te tk tt nu ub ue uk ut re ro fu bl go ra rc ex tc es wy) s.heap.size) = A at hD ⊢
  have hA : ∀ q : Nat, s.heap.size ≤ q → A q := fun q h => by rw [← hAe]; exact Or.inr h
  have hS : va_S A s.heap s.heap [] := va_S.rf
  generalize hQ : MQ below (va_Qv (fun (u : (Nat → Int32) × (Nat → Int32) × Nat) => match u with | (re9, ro9, rc9) => ∃ v9, st3 nc (RB nk nc fo th tg T nt up) v ro rc v9 re9 ro9 rc9 ∧ ∀ j, j < nc → ed nk fo th tg (gl T nt up) i j → v9 j = true) (fun u t => match u with | (re9, ro9, rc9) => zWo (dC, dI) [(cI, .int), (cZ, .boolean), (cJ, .long)] (w3 a cI cZ nk pa fa nc fo th tg nt tb te tk tt nu ub ue uk ut re9 ro9 fu bl go ra rc9 ex tc es wy) A t) A) args s 0 0 A = Q
  refine W.eq (g2 := entryFrame m ([.ref (a 0), .int (nI i)] : List Value).toArray 4) (by rw [hav]) ?_
  have hl := lv_entry ([.ref (a 0), .int (nI i)]) (n := 4) (Nat.le_of_ble_eq_true rfl)
  rw [lg_entry_eq]
  generalize (lg_sl ([.ref (a 0), .int (nI i)]) ++ List.replicate (4 - (lg_sl ([.ref (a 0), .int (nI i)])).length) Slot.unset).toArray = ls at hl ⊢
  have hl : lv_has ls 4 [(0, .ref (a 0)), (1, .int (nI i))] := hl
  obtain ⟨H, hH⟩ : ∃ H, H = s.heap := ⟨_, rfl⟩
  obtain ⟨locs, hlo⟩ : ∃ q : List Loc, q = [] := ⟨_, rfl⟩
  have hP : va_P (dC, dI) vwCl (w3 a cI cZ nk pa fa nc fo th tg nt tb te tk tt nu ub ue uk ut re ro fu bl go ra rc ex tc es wy) H := by rw [hH]; exact hP
  have hS : va_S A s.heap H locs := by rw [hH, hlo]; exact hS
  refine zz_hl hH hlo ?_
  obtain ⟨hk01, hk8, hnt, hT, hO, hF, hU⟩ := id hg
  obtain ⟨hnc, hC⟩ := id hc
  have hcl : ∀ j, j < nc → ed nk fo th tg (gl T nt up) i j → RB nk nc fo th tg T nt up j = true := fun j hj he => rB_step hi hri he hj
  refine lv_aload_n hx hb dX3_reachFrom_0 rfl (lv_at hl 0 rfl) ?_
  refine va_get (D := (dC, dI)) (ci := 3) (v := .ref (a 4)) (C := RX3) (T := TX3) (N := 15) hx hb hts (by decide +kernel) hown hK hP 0 rfl rfl 1 (by decide) (hts (.fieldLink RX3 19 "HandlerOptimizer" "code" "LHandlerOptimizer$Code;") (by decide +kernel)) (fun _ h9 => h9) rfl dX3_reachFrom_1 ?_
  refine va_getN (D := (dC, dI)) (ci := 0) (v := .ref (a 5)) (C := RX0) (T := TX0) (N := 4) hx hb hts (by decide +kernel) hown hK hP 4 rfl rfl 0 (by decide) (va_Nw.use rfl (hn (.fieldLinkNest RX3 103 "HandlerOptimizer$Code" "forms" "[I" "HandlerOptimizer") (by decide +kernel))) (fun _ h9 => h9) rfl dX3_reachFrom_4 ?_
  refine lv_iload_n hx hb dX3_reachFrom_7 rfl (lv_at hl 1 rfl) ?_
  refine va_iald hx hb hK hP 5 0 rfl rfl (vp_in_nI (n := i) (by omega) (by decide)) dX3_reachFrom_8 ?_
  refine zz_top (y := fo i) (congrArg _ (nI_clamp (by omega))) ?_
  refine lv_istore_n (lv' := [(2, .int (fo i)), (0, .ref (a 0)), (1, .int (nI i))]) hx hb dX3_reachFrom_9 rfl hl (by decide) rfl (fun ls hl => ?_)
  have J_49 : ∀ (gre : Nat → Int32) (gro : Nat → Int32) (grc : Nat) (gv : Nat → Bool) (H : Heap) (locs : List Loc) (ls : Array Slot), (st3 nc (RB nk nc fo th tg T nt up) v ro rc gv gre gro grc) → ((fo i = 0 ∨ fo i = 2) → i + 1 < nc → gv (i + 1) = true) → ((fo i = 1 ∨ fo i = 2) → ∀ j, j < nc → tg i = nI j → gv j = true) → va_P (dC, dI) vwCl (w3 a cI cZ nk pa fa nc fo th tg nt tb te tk tt nu ub ue uk ut gre gro fu bl go ra grc ex tc es wy) H → va_D A (w3 a cI cZ nk pa fa nc fo th tg nt tb te tk tt nu ub ue uk ut gre gro fu bl go ra grc ex tc es wy) → va_S A s.heap H locs → lv_has ls 4 [(0, .ref (a 0)), (1, .int (nI i)), (2, .int (fo i))] → W p l e (headSpec wsX3_reachFrom ({ frames := 2, cells := 0, slots := 0, locals := 49 } : Room)).room s m args below meth c H locs 0 0 Q (F0 m 49 ls []) := by
    intro gre gro grc gv H locs ls hs hf1 hf2 hP hD hS hl
    refine lv_iconst (v := 0) hx hb dX3_reachFrom_49 (by decide) ?_
    refine lv_istore_n (lv' := [(3, .int 0), (0, .ref (a 0)), (1, .int (nI i)), (2, .int (fo i))]) hx hb dX3_reachFrom_50 rfl hl (by decide) rfl (fun ls hl => ?_)
    have J_51 : ∀ (n9 : Nat) (y : Nat) (gre : Nat → Int32) (gro : Nat → Int32) (grc : Nat) (gv : Nat → Bool) (H : Heap) (locs : List Loc) (ls : Array Slot), (y ≤ nk) → (st3 nc (RB nk nc fo th tg T nt up) v ro rc gv gre gro grc) → ((fo i = 0 ∨ fo i = 2) → i + 1 < nc → gv (i + 1) = true) → ((fo i = 1 ∨ fo i = 2) → ∀ j, j < nc → tg i = nI j → gv j = true) → (∀ k, k < y → bt (th i) k = true → ∀ j, j < nc → gl T nt up i k = nI j → gv j = true) → nk - y < n9 → va_P (dC, dI) vwCl (w3 a cI cZ nk pa fa nc fo th tg nt tb te tk tt nu ub ue uk ut gre gro fu bl go ra grc ex tc es wy) H → va_D A (w3 a cI cZ nk pa fa nc fo th tg nt tb te tk tt nu ub ue uk ut gre gro fu bl go ra grc ex tc es wy) → va_S A s.heap H locs → lv_has ls 4 [(0, .ref (a 0)), (1, .int (nI i)), (2, .int (fo i)), (3, .int (nI y))] → W p l e (headSpec wsX3_reachFrom ({ frames := 2, cells := 0, slots := 0, locals := 49 } : Room)).room s m args below meth c H locs 0 0 Q (F0 m 51 ls []) := by
      intro n9
      induction n9 with
      | zero => intro y gre gro grc gv H locs ls hy hs hf1 hf2 hf3 hmu; exact absurd hmu (Nat.not_lt_zero _)
      | succ n9 ih_51 =>
        intro y gre gro grc gv H locs ls hy hs hf1 hf2 hf3 hmu hP hD hS hl
        refine lv_iload_n hx hb dX3_reachFrom_51 rfl (lv_at hl 3 rfl) ?_
        refine lv_aload_n hx hb dX3_reachFrom_52 rfl (lv_at hl 0 rfl) ?_
        refine va_get (D := (dC, dI)) (ci := 3) (v := .ref (a 1)) (C := RX3) (T := TX3) (N := 15) hx hb hts (by decide +kernel) hown hK hP 0 rfl rfl 0 (by decide) (hts (.fieldLink RX3 12 "HandlerOptimizer" "kinds" "LHandlerOptimizer$Kinds;") (by decide +kernel)) (fun _ h9 => h9) rfl dX3_reachFrom_53 ?_
        refine va_getN (D := (dC, dI)) (ci := 1) (v := .int (nI nk)) (C := RX1) (T := TX1) (N := 3) hx hb hts (by decide +kernel) hown hK hP 1 rfl rfl 2 (by decide) (va_Nw.use rfl (hn (.fieldLinkNest RX3 76 "HandlerOptimizer$Kinds" "count" "I" "HandlerOptimizer") (by decide +kernel))) (fun _ h9 => h9) rfl dX3_reachFrom_56 ?_
        refine lv_icmp_ge (tgt := 97) hx hb dX3_reachFrom_59 (by decide) (fun c_1 => ?_) (fun c_1 => ?_)
        · skip
          have c_1 := (zz_get (a := y) (b := nk) (by omega) (by omega)).mp c_1
          rw [← hQ]
          have hP9 := hP
          have hD9 := hD
          exact W.vret hx hb hr (fun t ht hW => ⟨⟨(gre, gro, grc), rfl, (⟨gv, hs, fun j hj q => by
                rcases q with ⟨q1, q2⟩ | ⟨q1, q2⟩ | ⟨k, q1, q2, q3⟩
                · subst q2; exact hf1 q1 hj
                · exact hf2 q1 j hj q2
                · exact hf3 k (by omega) q2 j hj q3⟩), (by rw [ht]; exact hP9), va_K.moved hW.alike hK, hD9⟩, hS.F ht⟩) hS.2.2 dX3_reachFrom_97
        · skip
          have c_1 := (zz_gef (a := y) (b := nk) (by omega) (by omega)).mp c_1
          refine lv_aload_n hx hb dX3_reachFrom_62 rfl (lv_at hl 0 rfl) ?_
          refine va_get (D := (dC, dI)) (ci := 3) (v := .ref (a 4)) (C := RX3) (T := TX3) (N := 15) hx hb hts (by decide +kernel) hown hK hP 0 rfl rfl 1 (by decide) (hts (.fieldLink RX3 19 "HandlerOptimizer" "code" "LHandlerOptimizer$Code;") (by decide +kernel)) (fun _ h9 => h9) rfl dX3_reachFrom_63 ?_
          refine lv_iload_n hx hb dX3_reachFrom_66 rfl (lv_at hl 1 rfl) ?_
          refine lv_iload_n hx hb dX3_reachFrom_67 rfl (lv_at hl 3 rfl) ?_
          have hPc := hP.sub (ws' := wC (a 4) (a 5) (a 6) (a 7) cI nc fo th tg) [4, 5, 6, 7] rfl
          refine va_calli (va_runVN (As := [.int (nI i), .int (nI y)]) (rest := []) ⟨hx, hb, hml, hown, hts⟩ (c_X0_canThrow l dC dI cI cZ cJ (a 4) (a 5) (a 6) (a 7) nc fo th tg i y (by first | assumption | omega) (by first | assumption | omega)) ⟨va_cnB 2 hts gX3_reachFrom_X0_canThrow_n256 rfl rfl rfl (hn (.methodLinkNest RX3 256 yX0_canThrow "HandlerOptimizer") (by decide +kernel)) (hts (.initialized RX0) (by decide +kernel)) (by decide +kernel) ⟨Nat.le_of_ble_eq_true rfl, Nat.le_of_ble_eq_true rfl⟩, hts (.instanceMethod yX0_canThrow) (by decide +kernel), hts (.selects RX0 yX0_canThrow yX0_canThrow) (by decide +kernel)⟩ ⟨zPre_blind, va_recv hK hPc (ci := 0) (q0 := 0) rfl rfl, zPre_at hPc hK hn⟩ rfl rfl hl.1 rfl (lv_room (Nat.le_of_ble_eq_true rfl)) dX3_reachFrom_68 ⟨Nat.le_of_ble_eq_true rfl, Nat.le_of_ble_eq_true rfl⟩) hS (fun _ _ h => h.elim) (fun _ h => h.elim) (fun r_2 u_9 t H locs ht hvm hw hB hz1 hk1 hS => ?_)
          have hP := zkeep hP hk1
          subst hw
          refine lv_if_eq (tgt := 91) hx hb dX3_reachFrom_71 (by decide) (fun c_3 => ?_) (fun c_3 => ?_)
          · skip
            have c9 := zb_0.mp c_3
            obtain ⟨gv9, hs9⟩ : ∃ q, q = gv := ⟨_, rfl⟩
            subst hs9
            have hs9 := hs
            have hf9 := hf1
            have hg9 := hf2
            have hh9 : ∀ k, k < y + 1 → bt (th i) k = true → ∀ j, j < nc → gl T nt up i k = nI j → gv9 j = true := fun k hk q1 j q2 q3 => by
              by_cases d : k = y
              · subst d; rw [c9] at q1; cases q1
              · exact hf3 k (by omega) q1 j q2 q3
            refine lv_iinc (v := nI (y + 1)) (lv' := [(3, .int (nI (y + 1))), (0, .ref (a 0)), (1, .int (nI i)), (2, .int (fo i))]) hx hb dX3_reachFrom_91 hl (k := 3) rfl (zz_inc y 1) (by decide) rfl (fun ls hl => ?_)
            refine lv_goto (tgt := 51) hx hb dX3_reachFrom_94 (by decide) ?_
            exact ih_51 (y + 1) gre gro grc gv9 _ _ _ (by first | assumption | omega) hs9 hf9 hg9 hh9 (by omega) hP hD hS (lv_sub hl [1, 2, 3, 0] rfl)
          · skip
            have c9 := zb_1.mp c_3
            refine lv_aload_n hx hb dX3_reachFrom_74 rfl (lv_at hl 0 rfl) ?_
            refine lv_aload_n hx hb dX3_reachFrom_75 rfl (lv_at hl 0 rfl) ?_
            refine va_get (D := (dC, dI)) (ci := 3) (v := .ref (a 8)) (C := RX3) (T := TX3) (N := 15) hx hb hts (by decide +kernel) hown hK hP 0 rfl rfl 2 (by decide) (hts (.fieldLink RX3 26 "HandlerOptimizer" "table" "LHandlerOptimizer$Table;") (by decide +kernel)) (fun _ h9 => h9) rfl dX3_reachFrom_76 ?_
            refine lv_aload_n hx hb dX3_reachFrom_79 rfl (lv_at hl 0 rfl) ?_
            refine va_get (D := (dC, dI)) (ci := 3) (v := .ref (a 1)) (C := RX3) (T := TX3) (N := 15) hx hb hts (by decide +kernel) hown hK hP 0 rfl rfl 0 (by decide) (hts (.fieldLink RX3 12 "HandlerOptimizer" "kinds" "LHandlerOptimizer$Kinds;") (by decide +kernel)) (fun _ h9 => h9) rfl dX3_reachFrom_80 ?_
            refine lv_iload_n hx hb dX3_reachFrom_83 rfl (lv_at hl 1 rfl) ?_
            refine lv_iload_n hx hb dX3_reachFrom_84 rfl (lv_at hl 3 rfl) ?_
            have hPc := hP.sub (ws' := wT (a 8) (a 9) (a 10) (a 11) (a 12) cI nt tb te tk tt ++ wK (a 1) (a 2) (a 3) cI nk pa fa) [8, 9, 10, 11, 12, 1, 2, 3] rfl
            refine va_calli (va_runVN (As := [.ref (a 1), .int (nI i), .int (nI y)]) (rest := [.ref (a 0)]) ⟨hx, hb, hml, hown, hts⟩ (c_X2_goal l dC dI cI cZ cJ (a 8) (a 9) (a 10) (a 11) (a 12) nt tb te tk tt (a 1) (a 2) (a 3) nk pa fa i y T up (by first | assumption | omega) (by first | assumption | omega) (by first | assumption | omega) (by first | assumption | omega) (by first | assumption | omega) (by first | assumption | omega) (by first | assumption | omega)) ⟨va_cnB 3 hts gX3_reachFrom_X2_goal_n259 rfl rfl rfl (hn (.methodLinkNest RX3 259 yX2_goal "HandlerOptimizer") (by decide +kernel)) (hts (.initialized RX2) (by decide +kernel)) (by decide +kernel) ⟨Nat.le_of_ble_eq_true rfl, Nat.le_of_ble_eq_true rfl⟩, hts (.instanceMethod yX2_goal) (by decide +kernel), hts (.selects RX2 yX2_goal yX2_goal) (by decide +kernel)⟩ ⟨zPre_blind, va_recv hK hPc (ci := 2) (q0 := 0) rfl rfl, zPre_at hPc hK hn⟩ rfl rfl hl.1 rfl (lv_room (Nat.le_of_ble_eq_true rfl)) dX3_reachFrom_85 ⟨Nat.le_of_ble_eq_true rfl, Nat.le_of_ble_eq_true rfl⟩) hS (fun _ _ h => h.elim) (fun _ h => h.elim) (fun r_4 u_9 t H locs ht hvm hw hB hz1 hk1 hS => ?_)
            have hP := zkeep hP hk1
            subst hw
            have hDc := hD
            have hFc := va_free (wc := w3 a cI cZ nk pa fa nc fo th tg nt tb te tk tt nu ub ue uk ut gre gro fu bl go ra grc ex tc es wy) hD hS hA [0, 1, 2, 3, 4, 5, 6, 7, 8, 9, 10, 11, 12, 13, 14, 15, 16, 17, 18, 19, 20, 21, 22, 23] rfl
            refine va_callv (va_runV (As := [.int (gl T nt up i y)]) (rest := []) ⟨hx, hb, hml, hown, hts⟩ (c_X3_reach l dC dI cI cZ cJ a nk pa fa nc fo th tg nt tb te tk tt nu ub ue uk ut gre gro fu bl go ra grc ex tc es wy (gl T nt up i y) (RB nk nc fo th tg T nt up) gv H.size (by first | assumption | omega) (hs.1) (fun j hj q => hcl j hj (Or.inr (Or.inr ⟨y, by omega, c9, q⟩)))) (cwV 1 hts gX3_reachFrom_X3_reach rfl rfl rfl (by decide +kernel) ⟨Nat.le_of_ble_eq_true rfl, Nat.le_of_ble_eq_true rfl⟩) ⟨zWr_blind, va_recv hK hP (ci := 3) (q0 := 0) rfl rfl, zWr_at hP hK hn (hDc.weaken (fun _ _ _ _ => trivial))⟩ rfl rfl hl.1 rfl (lv_room (Nat.le_of_ble_eq_true rfl)) dX3_reachFrom_88 ⟨Nat.le_of_ble_eq_true rfl, Nat.le_of_ble_eq_true rfl⟩) hS (fun q _ h => hFc q h) hFc (fun u_9 t H1 locs ht hvm hw hB hz1 hk1 hS => ?_)
            obtain ⟨re_n, ro_n, rc_n⟩ := u_9
            dsimp only at hw hB
            obtain ⟨hP1, -, hD1⟩ := hB
            rw [ht] at hP1
            obtain ⟨hP, hD⟩ := va_join (wr := []) (w1 := w3 a cI cZ nk pa fa nc fo th tg nt tb te tk tt nu ub ue uk ut re_n ro_n fu bl go ra rc_n ex tc es wy) hP hD [0, 1, 2, 3, 4, 5, 6, 7, 8, 9, 10, 11, 12, 13, 14, 15, 16, 17, 18, 19, 20, 21, 22, 23] [] rfl rfl (by decide) (by decide) hk1 hFc hP1 hD1
            generalize H1 = H at hP hS ⊢
            have hP : va_P (dC, dI) vwCl (w3 a cI cZ nk pa fa nc fo th tg nt tb te tk tt nu ub ue uk ut re_n ro_n fu bl go ra rc_n ex tc es wy) H := hP
            have hD : va_D A (w3 a cI cZ nk pa fa nc fo th tg nt tb te tk tt nu ub ue uk ut re_n ro_n fu bl go ra rc_n ex tc es wy) := hD
            obtain ⟨gv9, hs8, hv9⟩ := hw
            have hs9 := st3_tr hs hs8
            have hf9 : (fo i = 0 ∨ fo i = 2) → i + 1 < nc → gv9 (i + 1) = true := fun q1 q2 => hs8.2.1 _ (hf1 q1 q2)
            have hg9 : (fo i = 1 ∨ fo i = 2) → ∀ j, j < nc → tg i = nI j → gv9 j = true := fun q1 j q2 q3 => hs8.2.1 _ (hf2 q1 j q2 q3)
            have hh9 : ∀ k, k < y + 1 → bt (th i) k = true → ∀ j, j < nc → gl T nt up i k = nI j → gv9 j = true := fun k hk q1 j q2 q3 => by
              by_cases d : k = y
              · subst d; exact hv9 j q2 q3
              · exact hs8.2.1 _ (hf3 k (by omega) q1 j q2 q3)
            refine lv_iinc (v := nI (y + 1)) (lv' := [(3, .int (nI (y + 1))), (0, .ref (a 0)), (1, .int (nI i)), (2, .int (fo i))]) hx hb dX3_reachFrom_91 hl (k := 3) rfl (zz_inc y 1) (by decide) rfl (fun ls hl => ?_)
            refine lv_goto (tgt := 51) hx hb dX3_reachFrom_94 (by decide) ?_
            exact ih_51 (y + 1) re_n ro_n rc_n gv9 _ _ _ (by first | assumption | omega) hs9 hf9 hg9 hh9 (by omega) hP hD hS (lv_sub hl [1, 2, 3, 0] rfl)
    exact J_51 _ 0 gre gro grc gv _ _ _ (by first | assumption | omega) (by first | assumption | omega) (by first | assumption | omega) (by first | assumption | omega) (fun k hk => absurd hk (Nat.not_lt_zero k)) (Nat.lt_succ_self _) hP hD hS (lv_sub hl [1, 2, 3, 0] rfl)
  have J_26 : ∀ (gre : Nat → Int32) (gro : Nat → Int32) (grc : Nat) (gv : Nat → Bool) (H : Heap) (locs : List Loc) (ls : Array Slot), (st3 nc (RB nk nc fo th tg T nt up) v ro rc gv gre gro grc) → ((fo i = 0 ∨ fo i = 2) → i + 1 < nc → gv (i + 1) = true) → va_P (dC, dI) vwCl (w3 a cI cZ nk pa fa nc fo th tg nt tb te tk tt nu ub ue uk ut gre gro fu bl go ra grc ex tc es wy) H → va_D A (w3 a cI cZ nk pa fa nc fo th tg nt tb te tk tt nu ub ue uk ut gre gro fu bl go ra grc ex tc es wy) → va_S A s.heap H locs → lv_has ls 4 [(0, .ref (a 0)), (1, .int (nI i)), (2, .int (fo i))] → W p l e (headSpec wsX3_reachFrom ({ frames := 2, cells := 0, slots := 0, locals := 49 } : Room)).room s m args below meth c H locs 0 0 Q (F0 m 26 ls []) := by
    intro gre gro grc gv H locs ls hs hf1 hP hD hS hl
    refine lv_iload_n hx hb dX3_reachFrom_26 rfl (lv_at hl 2 rfl) ?_
    refine lv_iconst (v := 1) hx hb dX3_reachFrom_27 (by decide) ?_
    refine lv_icmp_eq (tgt := 36) hx hb dX3_reachFrom_28 (by decide) (fun c_9 => ?_) (fun c_9 => ?_)
    · skip
      skip
      refine lv_aload_n hx hb dX3_reachFrom_36 rfl (lv_at hl 0 rfl) ?_
      refine lv_aload_n hx hb dX3_reachFrom_37 rfl (lv_at hl 0 rfl) ?_
      refine va_get (D := (dC, dI)) (ci := 3) (v := .ref (a 4)) (C := RX3) (T := TX3) (N := 15) hx hb hts (by decide +kernel) hown hK hP 0 rfl rfl 1 (by decide) (hts (.fieldLink RX3 19 "HandlerOptimizer" "code" "LHandlerOptimizer$Code;") (by decide +kernel)) (fun _ h9 => h9) rfl dX3_reachFrom_38 ?_
      refine va_getN (D := (dC, dI)) (ci := 0) (v := .ref (a 7)) (C := RX0) (T := TX0) (N := 4) hx hb hts (by decide +kernel) hown hK hP 4 rfl rfl 2 (by decide) (va_Nw.use rfl (hn (.fieldLinkNest RX3 109 "HandlerOptimizer$Code" "targets" "[I" "HandlerOptimizer") (by decide +kernel))) (fun _ h9 => h9) rfl dX3_reachFrom_41 ?_
      refine lv_iload_n hx hb dX3_reachFrom_44 rfl (lv_at hl 1 rfl) ?_
      refine va_iald hx hb hK hP 7 0 rfl rfl (vp_in_nI (n := i) (by omega) (by decide)) dX3_reachFrom_45 ?_
      refine zz_top (y := tg i) (congrArg _ (nI_clamp (by omega))) ?_
      have hDc := hD
      have hFc := va_free (wc := w3 a cI cZ nk pa fa nc fo th tg nt tb te tk tt nu ub ue uk ut gre gro fu bl go ra grc ex tc es wy) hD hS hA [0, 1, 2, 3, 4, 5, 6, 7, 8, 9, 10, 11, 12, 13, 14, 15, 16, 17, 18, 19, 20, 21, 22, 23] rfl
      refine va_callv (va_runV (As := [.int (tg i)]) (rest := []) ⟨hx, hb, hml, hown, hts⟩ (c_X3_reach l dC dI cI cZ cJ a nk pa fa nc fo th tg nt tb te tk tt nu ub ue uk ut gre gro fu bl go ra grc ex tc es wy (tg i) (RB nk nc fo th tg T nt up) gv H.size (by first | assumption | omega) (hs.1) (fun j hj q => hcl j hj (Or.inr (Or.inl ⟨by first | exact Or.inl (by assumption) | exact Or.inr (by assumption), q⟩)))) (cwV 1 hts gX3_reachFrom_X3_reach rfl rfl rfl (by decide +kernel) ⟨Nat.le_of_ble_eq_true rfl, Nat.le_of_ble_eq_true rfl⟩) ⟨zWr_blind, va_recv hK hP (ci := 3) (q0 := 0) rfl rfl, zWr_at hP hK hn (hDc.weaken (fun _ _ _ _ => trivial))⟩ rfl rfl hl.1 rfl (lv_room (Nat.le_of_ble_eq_true rfl)) dX3_reachFrom_46 ⟨Nat.le_of_ble_eq_true rfl, Nat.le_of_ble_eq_true rfl⟩) hS (fun q _ h => hFc q h) hFc (fun u_9 t H1 locs ht hvm hw hB hz1 hk1 hS => ?_)
      obtain ⟨re_n, ro_n, rc_n⟩ := u_9
      dsimp only at hw hB
      obtain ⟨hP1, -, hD1⟩ := hB
      rw [ht] at hP1
      obtain ⟨hP, hD⟩ := va_join (wr := []) (w1 := w3 a cI cZ nk pa fa nc fo th tg nt tb te tk tt nu ub ue uk ut re_n ro_n fu bl go ra rc_n ex tc es wy) hP hD [0, 1, 2, 3, 4, 5, 6, 7, 8, 9, 10, 11, 12, 13, 14, 15, 16, 17, 18, 19, 20, 21, 22, 23] [] rfl rfl (by decide) (by decide) hk1 hFc hP1 hD1
      generalize H1 = H at hP hS ⊢
      have hP : va_P (dC, dI) vwCl (w3 a cI cZ nk pa fa nc fo th tg nt tb te tk tt nu ub ue uk ut re_n ro_n fu bl go ra rc_n ex tc es wy) H := hP
      have hD : va_D A (w3 a cI cZ nk pa fa nc fo th tg nt tb te tk tt nu ub ue uk ut re_n ro_n fu bl go ra rc_n ex tc es wy) := hD
      obtain ⟨gv9, hs8, hv9⟩ := hw
      have hs9 := st3_tr hs hs8
      have hf9 : (fo i = 0 ∨ fo i = 2) → i + 1 < nc → gv9 (i + 1) = true := fun q1 q2 => hs8.2.1 _ (hf1 q1 q2)
      have hg9 : (fo i = 1 ∨ fo i = 2) → ∀ j, j < nc → tg i = nI j → gv9 j = true := fun _ => hv9
      exact J_49 re_n ro_n rc_n gv9 _ _ _ hs9 hf9 hg9 hP hD hS (lv_sub hl [0, 1, 2] rfl)
    · skip
      skip
      refine lv_iload_n hx hb dX3_reachFrom_31 rfl (lv_at hl 2 rfl) ?_
      refine lv_iconst (v := 2) hx hb dX3_reachFrom_32 (by decide) ?_
      refine lv_icmp_ne (tgt := 49) hx hb dX3_reachFrom_33 (by decide) (fun c_14 => ?_) (fun c_14 => ?_)
      · skip
        obtain ⟨gv9, hs9⟩ : ∃ q, q = gv := ⟨_, rfl⟩
        subst hs9
        have hs9 := hs
        have hf9 := hf1
        have hg9 : (fo i = 1 ∨ fo i = 2) → ∀ j, j < nc → tg i = nI j → gv9 j = true := fun q => absurd q (by simp [*])
        exact J_49 gre gro grc gv9 _ _ _ hs9 hf9 hg9 hP hD hS (lv_sub hl [0, 1, 2] rfl)
      · skip
        skip
        refine lv_aload_n hx hb dX3_reachFrom_36 rfl (lv_at hl 0 rfl) ?_
        refine lv_aload_n hx hb dX3_reachFrom_37 rfl (lv_at hl 0 rfl) ?_
        refine va_get (D := (dC, dI)) (ci := 3) (v := .ref (a 4)) (C := RX3) (T := TX3) (N := 15) hx hb hts (by decide +kernel) hown hK hP 0 rfl rfl 1 (by decide) (hts (.fieldLink RX3 19 "HandlerOptimizer" "code" "LHandlerOptimizer$Code;") (by decide +kernel)) (fun _ h9 => h9) rfl dX3_reachFrom_38 ?_
        refine va_getN (D := (dC, dI)) (ci := 0) (v := .ref (a 7)) (C := RX0) (T := TX0) (N := 4) hx hb hts (by decide +kernel) hown hK hP 4 rfl rfl 2 (by decide) (va_Nw.use rfl (hn (.fieldLinkNest RX3 109 "HandlerOptimizer$Code" "targets" "[I" "HandlerOptimizer") (by decide +kernel))) (fun _ h9 => h9) rfl dX3_reachFrom_41 ?_
        refine lv_iload_n hx hb dX3_reachFrom_44 rfl (lv_at hl 1 rfl) ?_
        refine va_iald hx hb hK hP 7 0 rfl rfl (vp_in_nI (n := i) (by omega) (by decide)) dX3_reachFrom_45 ?_
        refine zz_top (y := tg i) (congrArg _ (nI_clamp (by omega))) ?_
        have hDc := hD
        have hFc := va_free (wc := w3 a cI cZ nk pa fa nc fo th tg nt tb te tk tt nu ub ue uk ut gre gro fu bl go ra grc ex tc es wy) hD hS hA [0, 1, 2, 3, 4, 5, 6, 7, 8, 9, 10, 11, 12, 13, 14, 15, 16, 17, 18, 19, 20, 21, 22, 23] rfl
        refine va_callv (va_runV (As := [.int (tg i)]) (rest := []) ⟨hx, hb, hml, hown, hts⟩ (c_X3_reach l dC dI cI cZ cJ a nk pa fa nc fo th tg nt tb te tk tt nu ub ue uk ut gre gro fu bl go ra grc ex tc es wy (tg i) (RB nk nc fo th tg T nt up) gv H.size (by first | assumption | omega) (hs.1) (fun j hj q => hcl j hj (Or.inr (Or.inl ⟨by first | exact Or.inl (by assumption) | exact Or.inr (by assumption), q⟩)))) (cwV 1 hts gX3_reachFrom_X3_reach rfl rfl rfl (by decide +kernel) ⟨Nat.le_of_ble_eq_true rfl, Nat.le_of_ble_eq_true rfl⟩) ⟨zWr_blind, va_recv hK hP (ci := 3) (q0 := 0) rfl rfl, zWr_at hP hK hn (hDc.weaken (fun _ _ _ _ => trivial))⟩ rfl rfl hl.1 rfl (lv_room (Nat.le_of_ble_eq_true rfl)) dX3_reachFrom_46 ⟨Nat.le_of_ble_eq_true rfl, Nat.le_of_ble_eq_true rfl⟩) hS (fun q _ h => hFc q h) hFc (fun u_9 t H1 locs ht hvm hw hB hz1 hk1 hS => ?_)
        obtain ⟨re_n, ro_n, rc_n⟩ := u_9
        dsimp only at hw hB
        obtain ⟨hP1, -, hD1⟩ := hB
        rw [ht] at hP1
        obtain ⟨hP, hD⟩ := va_join (wr := []) (w1 := w3 a cI cZ nk pa fa nc fo th tg nt tb te tk tt nu ub ue uk ut re_n ro_n fu bl go ra rc_n ex tc es wy) hP hD [0, 1, 2, 3, 4, 5, 6, 7, 8, 9, 10, 11, 12, 13, 14, 15, 16, 17, 18, 19, 20, 21, 22, 23] [] rfl rfl (by decide) (by decide) hk1 hFc hP1 hD1
        generalize H1 = H at hP hS ⊢
        have hP : va_P (dC, dI) vwCl (w3 a cI cZ nk pa fa nc fo th tg nt tb te tk tt nu ub ue uk ut re_n ro_n fu bl go ra rc_n ex tc es wy) H := hP
        have hD : va_D A (w3 a cI cZ nk pa fa nc fo th tg nt tb te tk tt nu ub ue uk ut re_n ro_n fu bl go ra rc_n ex tc es wy) := hD
        obtain ⟨gv9, hs8, hv9⟩ := hw
        have hs9 := st3_tr hs hs8
        have hf9 : (fo i = 0 ∨ fo i = 2) → i + 1 < nc → gv9 (i + 1) = true := fun q1 q2 => hs8.2.1 _ (hf1 q1 q2)
        have hg9 : (fo i = 1 ∨ fo i = 2) → ∀ j, j < nc → tg i = nI j → gv9 j = true := fun _ => hv9
        exact J_49 re_n ro_n rc_n gv9 _ _ _ hs9 hf9 hg9 hP hD hS (lv_sub hl [0, 1, 2] rfl)
  refine lv_iload_n hx hb dX3_reachFrom_10 rfl (lv_at hl 0 rfl) ?_
  refine lv_if_eq (tgt := 19) hx hb dX3_reachFrom_11 (by decide) (fun c_19 => ?_) (fun c_19 => ?_)
  · skip
    skip
    refine lv_aload_n hx hb dX3_reachFrom_19 rfl (lv_at hl 1 rfl) ?_
    refine lv_iload_n hx hb dX3_reachFrom_20 rfl (lv_at hl 2 rfl) ?_
    refine lv_iconst (v := 1) hx hb dX3_reachFrom_21 (by decide) ?_
    refine lv_iadd hx hb dX3_reachFrom_22 ?_
    refine zz_top (y := nI (i + 1)) (nI_add _ _) ?_
    have hDc := hD
    have hFc := va_free (wc := w3 a cI cZ nk pa fa nc fo th tg nt tb te tk tt nu ub ue uk ut re ro fu bl go ra rc ex tc es wy) hD hS hA [0, 1, 2, 3, 4, 5, 6, 7, 8, 9, 10, 11, 12, 13, 14, 15, 16, 17, 18, 19, 20, 21, 22, 23] rfl
    refine va_callv (va_runV (As := [.int (nI (i + 1))]) (rest := []) ⟨hx, hb, hml, hown, hts⟩ (c_X3_reach l dC dI cI cZ cJ a nk pa fa nc fo th tg nt tb te tk tt nu ub ue uk ut re ro fu bl go ra rc ex tc es wy (nI (i + 1)) (RB nk nc fo th tg T nt up) v H.size (by first | assumption | omega) (hI) (fun j hj q => hcl j hj (Or.inl ⟨by first | exact Or.inl (by assumption) | exact Or.inr (by assumption), ((nI_eq (by omega) (by omega)).mp q).symm⟩))) (cwV 1 hts gX3_reachFrom_X3_reach rfl rfl rfl (by decide +kernel) ⟨Nat.le_of_ble_eq_true rfl, Nat.le_of_ble_eq_true rfl⟩) ⟨zWr_blind, va_recv hK hP (ci := 3) (q0 := 0) rfl rfl, zWr_at hP hK hn (hDc.weaken (fun _ _ _ _ => trivial))⟩ rfl rfl hl.1 rfl (lv_room (Nat.le_of_ble_eq_true rfl)) dX3_reachFrom_23 ⟨Nat.le_of_ble_eq_true rfl, Nat.le_of_ble_eq_true rfl⟩) hS (fun q _ h => hFc q h) hFc (fun u_9 t H1 locs ht hvm hw hB hz1 hk1 hS => ?_)
    obtain ⟨re_n, ro_n, rc_n⟩ := u_9
    dsimp only at hw hB
    obtain ⟨hP1, -, hD1⟩ := hB
    rw [ht] at hP1
    obtain ⟨hP, hD⟩ := va_join (wr := []) (w1 := w3 a cI cZ nk pa fa nc fo th tg nt tb te tk tt nu ub ue uk ut re_n ro_n fu bl go ra rc_n ex tc es wy) hP hD [0, 1, 2, 3, 4, 5, 6, 7, 8, 9, 10, 11, 12, 13, 14, 15, 16, 17, 18, 19, 20, 21, 22, 23] [] rfl rfl (by decide) (by decide) hk1 hFc hP1 hD1
    generalize H1 = H at hP hS ⊢
    have hP : va_P (dC, dI) vwCl (w3 a cI cZ nk pa fa nc fo th tg nt tb te tk tt nu ub ue uk ut re_n ro_n fu bl go ra rc_n ex tc es wy) H := hP
    have hD : va_D A (w3 a cI cZ nk pa fa nc fo th tg nt tb te tk tt nu ub ue uk ut re_n ro_n fu bl go ra rc_n ex tc es wy) := hD
    obtain ⟨gv9, hs8, hv9⟩ := hw
    have hs9 := hs8
    have hf9 : (fo i = 0 ∨ fo i = 2) → i + 1 < nc → gv9 (i + 1) = true := fun _ q => hv9 _ q rfl
    exact J_26 re_n ro_n rc_n gv9 _ _ _ hs9 hf9 hP hD hS (lv_sub hl [1, 2, 0] rfl)
  · skip
    skip
    refine lv_iload_n hx hb dX3_reachFrom_14 rfl (lv_at hl 0 rfl) ?_
    refine lv_iconst (v := 2) hx hb dX3_reachFrom_15 (by decide) ?_
    refine lv_icmp_ne (tgt := 26) hx hb dX3_reachFrom_16 (by decide) (fun c_24 => ?_) (fun c_24 => ?_)
    · skip
      skip
      obtain ⟨gv9, hs9⟩ : ∃ q, q = v := ⟨_, rfl⟩
      subst hs9
      have hs9 := st3_rf hI
      have hf9 : (fo i = 0 ∨ fo i = 2) → i + 1 < nc → gv9 (i + 1) = true := fun q => absurd q (by simp [*])
      exact J_26 re ro rc gv9 _ _ _ hs9 hf9 hP hD hS (lv_sub hl [1, 2, 0] rfl)
    · skip
      skip
      refine lv_aload_n hx hb dX3_reachFrom_19 rfl (lv_at hl 1 rfl) ?_
      refine lv_iload_n hx hb dX3_reachFrom_20 rfl (lv_at hl 2 rfl) ?_
      refine lv_iconst (v := 1) hx hb dX3_reachFrom_21 (by decide) ?_
      refine lv_iadd hx hb dX3_reachFrom_22 ?_
      refine zz_top (y := nI (i + 1)) (nI_add _ _) ?_
      have hDc := hD
      have hFc := va_free (wc := w3 a cI cZ nk pa fa nc fo th tg nt tb te tk tt nu ub ue uk ut re ro fu bl go ra rc ex tc es wy) hD hS hA [0, 1, 2, 3, 4, 5, 6, 7, 8, 9, 10, 11, 12, 13, 14, 15, 16, 17, 18, 19, 20, 21, 22, 23] rfl
      refine va_callv (va_runV (As := [.int (nI (i + 1))]) (rest := []) ⟨hx, hb, hml, hown, hts⟩ (c_X3_reach l dC dI cI cZ cJ a nk pa fa nc fo th tg nt tb te tk tt nu ub ue uk ut re ro fu bl go ra rc ex tc es wy (nI (i + 1)) (RB nk nc fo th tg T nt up) v H.size (by first | assumption | omega) (hI) (fun j hj q => hcl j hj (Or.inl ⟨by first | exact Or.inl (by assumption) | exact Or.inr (by assumption), ((nI_eq (by omega) (by omega)).mp q).symm⟩))) (cwV 1 hts gX3_reachFrom_X3_reach rfl rfl rfl (by decide +kernel) ⟨Nat.le_of_ble_eq_true rfl, Nat.le_of_ble_eq_true rfl⟩) ⟨zWr_blind, va_recv hK hP (ci := 3) (q0 := 0) rfl rfl, zWr_at hP hK hn (hDc.weaken (fun _ _ _ _ => trivial))⟩ rfl rfl hl.1 rfl (lv_room (Nat.le_of_ble_eq_true rfl)) dX3_reachFrom_23 ⟨Nat.le_of_ble_eq_true rfl, Nat.le_of_ble_eq_true rfl⟩) hS (fun q _ h => hFc q h) hFc (fun u_9 t H1 locs ht hvm hw hB hz1 hk1 hS => ?_)
      obtain ⟨re_n, ro_n, rc_n⟩ := u_9
      dsimp only at hw hB
      obtain ⟨hP1, -, hD1⟩ := hB
      rw [ht] at hP1
      obtain ⟨hP, hD⟩ := va_join (wr := []) (w1 := w3 a cI cZ nk pa fa nc fo th tg nt tb te tk tt nu ub ue uk ut re_n ro_n fu bl go ra rc_n ex tc es wy) hP hD [0, 1, 2, 3, 4, 5, 6, 7, 8, 9, 10, 11, 12, 13, 14, 15, 16, 17, 18, 19, 20, 21, 22, 23] [] rfl rfl (by decide) (by decide) hk1 hFc hP1 hD1
      generalize H1 = H at hP hS ⊢
      have hP : va_P (dC, dI) vwCl (w3 a cI cZ nk pa fa nc fo th tg nt tb te tk tt nu ub ue uk ut re_n ro_n fu bl go ra rc_n ex tc es wy) H := hP
      have hD : va_D A (w3 a cI cZ nk pa fa nc fo th tg nt tb te tk tt nu ub ue uk ut re_n ro_n fu bl go ra rc_n ex tc es wy) := hD
      obtain ⟨gv9, hs8, hv9⟩ := hw
      have hs9 := hs8
      have hf9 : (fo i = 0 ∨ fo i = 2) → i + 1 < nc → gv9 (i + 1) = true := fun _ q => hv9 _ q rfl
      exact J_26 re_n ro_n rc_n gv9 _ _ _ hs9 hf9 hP hD hS (lv_sub hl [1, 2, 0] rfl)

set_option maxHeartbeats 4000000 in
set_option maxRecDepth 100000 in
theorem c_X3_findReached (l : Launch) (dC : Nat → ClassId) (dI : Nat → Nat → Nat) (cI cZ cJ : ClassId) (a : Nat → Nat) (nk : Nat) (pa : Nat → Int32) (fa : Nat → Int32) (nc : Nat) (fo : Nat → Int32) (th : Nat → Int32) (tg : Nat → Int32) (nt : Nat) (tb : Nat → Int32) (te : Nat → Int32) (tk : Nat → Int32) (tt : Nat → Int32) (nu : Nat) (ub : Nat → Int32) (ue : Nat → Int32) (uk : Nat → Int32) (ut : Nat → Int32) (re : Nat → Int32) (ro : Nat → Int32) (fu : Nat → Int32) (bl : Nat → Int32) (go : Nat → Int32) (ra : Nat → Int32) (rc : Nat) (ex : Int32) (tc : Int32) (es : Int32) (wy : Int64) (T : Nat → Nat → Nat) (up : Nat → Nat → Bool) (sz : Nat) (hg : g3 nk fa up nt tb te tk tt T) (hc : okC nk nc fo th tg) : Met l yX3_findReached wsX3_findReached ({ frames := 3, cells := 0, slots := 0, locals := 72 } : Room) (va_Pc [.ref (a 0)] (zWr (dC, dI) [(cI, .int), (cZ, .boolean), (cJ, .long)] (w3 a cI cZ nk pa fa nc fo th tg nt tb te tk tt nu ub ue uk ut re ro fu bl go ra rc ex tc es wy) sz)) (va_Qv (fun (u : (Nat → Int32) × (Nat → Int32) × Nat) => match u with | (re9, ro9, rc9) => ∀ j, j < 48 → re9 j = bI (RB nk nc fo th tg T nt up j)) (fun u t => match u with | (re9, ro9, rc9) => zWo (dC, dI) [(cI, .int), (cZ, .boolean), (cJ, .long)] (w3 a cI cZ nk pa fa nc fo th tg nt tb te tk tt nu ub ue uk ut re9 ro9 fu bl go ra rc9 ex tc es wy) (va_A (w3 a cI cZ nk pa fa nc fo th tg nt tb te tk tt nu ub ue uk ut re ro fu bl go ra rc ex tc es wy) sz) t) (va_A (w3 a cI cZ nk pa fa nc fo th tg nt tb te tk tt nu ub ue uk ut re ro fu bl go ra rc ex tc es wy) sz)) 0 0 (va_A (w3 a cI cZ nk pa fa nc fo th tg nt tb te tk tt nu ub ue uk ut re ro fu bl go ra rc ex tc es wy) sz) := by
  refine Met.ofW (cc := cX3_findReached) (maxL := 2) (ret := none) (by decide) rfl ?_
  intro p e s m args below meth c s₁ B hml hv
  obtain ⟨hav, hsz, ⟨hP, hK, hn⟩, hD0⟩ := hv
  have hx := B.exec
  have hb := B.bytes
  have hr := B.returns
  have hts := atoms_spec (ws := wsX3_findReached) B.pre
  have hown : s.vm.findClass RX3 = some m.cls := findClass_of_methodNamed B.named
  have hlocks := B.notSynchronized
  subst hsz
  have hD := hD0.self (sz := s.heap.size)
  generalize hAe : (va_A (w3 a cI cZ nk pa fa nc fo th tg nt tb te tk tt nu ub ue uk ut re ro fu bl go ra rc ex tc es wy) s.heap.size) = A at hD ⊢
  have hA : ∀ q : Nat, s.heap.size ≤ q → A q := fun q h => by rw [← hAe]; exact Or.inr h
  have hS : va_S A s.heap s.heap [] := va_S.rf
  generalize hQ : MQ below (va_Qv (fun (u : (Nat → Int32) × (Nat → Int32) × Nat) => match u with | (re9, ro9, rc9) => ∀ j, j < 48 → re9 j = bI (RB nk nc fo th tg T nt up j)) (fun u t => match u with | (re9, ro9, rc9) => zWo (dC, dI) [(cI, .int), (cZ, .boolean), (cJ, .long)] (w3 a cI cZ nk pa fa nc fo th tg nt tb te tk tt nu ub ue uk ut re9 ro9 fu bl go ra rc9 ex tc es wy) A t) A) args s 0 0 A = Q
  refine W.eq (g2 := entryFrame m ([.ref (a 0)] : List Value).toArray 2) (by rw [hav]) ?_
  have hl := lv_entry ([.ref (a 0)]) (n := 2) (Nat.le_of_ble_eq_true rfl)
  rw [lg_entry_eq]
  generalize (lg_sl ([.ref (a 0)]) ++ List.replicate (2 - (lg_sl ([.ref (a 0)])).length) Slot.unset).toArray = ls at hl ⊢
  have hl : lv_has ls 2 [(0, .ref (a 0))] := hl
  obtain ⟨H, hH⟩ : ∃ H, H = s.heap := ⟨_, rfl⟩
  obtain ⟨locs, hlo⟩ : ∃ q : List Loc, q = [] := ⟨_, rfl⟩
  have hP : va_P (dC, dI) vwCl (w3 a cI cZ nk pa fa nc fo th tg nt tb te tk tt nu ub ue uk ut re ro fu bl go ra rc ex tc es wy) H := by rw [hH]; exact hP
  have hS : va_S A s.heap H locs := by rw [hH, hlo]; exact hS
  refine zz_hl hH hlo ?_
  obtain ⟨hk01, hk8, hnt, hT, hO, hF, hU⟩ := id hg
  obtain ⟨hnc, hC⟩ := id hc
  refine lv_iconst (v := 0) hx hb dX3_findReached_0 (by decide) ?_
  refine lv_istore_n (lv' := [(1, .int 0), (0, .ref (a 0))]) hx hb dX3_findReached_1 rfl hl (by decide) rfl (fun ls hl => ?_)
  have J_2 : ∀ (n9 : Nat) (y : Nat) (gre : Nat → Int32) (H : Heap) (locs : List Loc) (ls : Array Slot), (y ≤ 48) → (∀ j, j < y → gre j = 0) → 48 - y < n9 → va_P (dC, dI) vwCl (w3 a cI cZ nk pa fa nc fo th tg nt tb te tk tt nu ub ue uk ut gre ro fu bl go ra rc ex tc es wy) H → va_D A (w3 a cI cZ nk pa fa nc fo th tg nt tb te tk tt nu ub ue uk ut gre ro fu bl go ra rc ex tc es wy) → va_S A s.heap H locs → lv_has ls 2 [(0, .ref (a 0)), (1, .int (nI y))] → W p l e (headSpec wsX3_findReached ({ frames := 3, cells := 0, slots := 0, locals := 72 } : Room)).room s m args below meth c H locs 0 0 Q (F0 m 2 ls []) := by
    intro n9
    induction n9 with
    | zero => intro y gre H locs ls hy hz hmu; exact absurd hmu (Nat.not_lt_zero _)
    | succ n9 ih_2 =>
      intro y gre H locs ls hy hz hmu hP hD hS hl
      refine lv_iload_n hx hb dX3_findReached_2 rfl (lv_at hl 1 rfl) ?_
      refine lv_bipush (v := 48) hx hb dX3_findReached_3 (by decide) ?_
      refine lv_icmp_ge (tgt := 21) hx hb dX3_findReached_5 (by decide) (fun c_1 => ?_) (fun c_1 => ?_)
      · skip
        have c_1 := (zz_get (a := y) (b := 48) (by omega) (by omega)).mp c_1
        refine lv_aload_n hx hb dX3_findReached_21 rfl (lv_at hl 0 rfl) ?_
        refine lv_iconst (v := 0) hx hb dX3_findReached_22 (by decide) ?_
        refine va_put (D := (dC, dI)) (ci := 3) (v := .int 0) (ty := .int) (C := RX3) (T := TX3) (N := 15) hx hb hts (by decide +kernel) tyX3 tyX3_ok nmX3 hown hK hP hD hS 0 rfl rfl 6 (by decide) (hts (.fieldLink RX3 247 "HandlerOptimizer" "reachedCount" "I") (by decide +kernel)) (fun _ h9 => h9) rfl (by decide +kernel) rfl rfl (Nat.le_of_ble_eq_true rfl) dX3_findReached_23 (fun H locs hP hD hS => ?_)
        have hP : va_P (dC, dI) vwCl (w3 a cI cZ nk pa fa nc fo th tg nt tb te tk tt nu ub ue uk ut gre ro fu bl go ra 0 ex tc es wy) H := hP
        have hD : va_D A (w3 a cI cZ nk pa fa nc fo th tg nt tb te tk tt nu ub ue uk ut gre ro fu bl go ra 0 ex tc es wy) := hD
        have hI0 : inv3 nc (RB nk nc fo th tg T nt up) (fun _ => false) gre ro 0 := inv3_0 (fun j hj => hz j (by omega))
        refine lv_aload_n hx hb dX3_findReached_26 rfl (lv_at hl 0 rfl) ?_
        refine lv_iconst (v := 0) hx hb dX3_findReached_27 (by decide) ?_
        have hDc := hD
        have hFc := va_free (wc := w3 a cI cZ nk pa fa nc fo th tg nt tb te tk tt nu ub ue uk ut gre ro fu bl go ra 0 ex tc es wy) hD hS hA [0, 1, 2, 3, 4, 5, 6, 7, 8, 9, 10, 11, 12, 13, 14, 15, 16, 17, 18, 19, 20, 21, 22, 23] rfl
        refine va_callv (va_runV (As := [.int 0]) (rest := []) ⟨hx, hb, hml, hown, hts⟩ (c_X3_reach l dC dI cI cZ cJ a nk pa fa nc fo th tg nt tb te tk tt nu ub ue uk ut gre ro fu bl go ra 0 ex tc es wy 0 (RB nk nc fo th tg T nt up) (fun _ => false) H.size (by first | assumption | omega) (hI0) (fun j hj q => by have := (nI_eq (a := 0) (by omega) (by omega)).mp q; subst this; exact rB_0 hj)) (cwV 1 hts gX3_findReached_X3_reach rfl rfl rfl (by decide +kernel) ⟨Nat.le_of_ble_eq_true rfl, Nat.le_of_ble_eq_true rfl⟩) ⟨zWr_blind, va_recv hK hP (ci := 3) (q0 := 0) rfl rfl, zWr_at hP hK hn (hDc.weaken (fun _ _ _ _ => trivial))⟩ rfl rfl hl.1 rfl (lv_room (Nat.le_of_ble_eq_true rfl)) dX3_findReached_28 ⟨Nat.le_of_ble_eq_true rfl, Nat.le_of_ble_eq_true rfl⟩) hS (fun q _ h => hFc q h) hFc (fun u_9 t H1 locs ht hvm hw hB hz1 hk1 hS => ?_)
        obtain ⟨re_n, ro_n, rc_n⟩ := u_9
        dsimp only at hw hB
        obtain ⟨hP1, -, hD1⟩ := hB
        rw [ht] at hP1
        obtain ⟨hP, hD⟩ := va_join (wr := []) (w1 := w3 a cI cZ nk pa fa nc fo th tg nt tb te tk tt nu ub ue uk ut re_n ro_n fu bl go ra rc_n ex tc es wy) hP hD [0, 1, 2, 3, 4, 5, 6, 7, 8, 9, 10, 11, 12, 13, 14, 15, 16, 17, 18, 19, 20, 21, 22, 23] [] rfl rfl (by decide) (by decide) hk1 hFc hP1 hD1
        generalize H1 = H at hP hS ⊢
        have hP : va_P (dC, dI) vwCl (w3 a cI cZ nk pa fa nc fo th tg nt tb te tk tt nu ub ue uk ut re_n ro_n fu bl go ra rc_n ex tc es wy) H := hP
        have hD : va_D A (w3 a cI cZ nk pa fa nc fo th tg nt tb te tk tt nu ub ue uk ut re_n ro_n fu bl go ra rc_n ex tc es wy) := hD
        obtain ⟨gv9, hs8, hv9⟩ := hw
        
        refine lv_iconst (v := 0) hx hb dX3_findReached_31 (by decide) ?_
        refine lv_istore_n (lv' := [(1, .int 0), (0, .ref (a 0))]) hx hb dX3_findReached_32 rfl hl (by decide) rfl (fun ls hl => ?_)
        have J_33 : ∀ (n9 : Nat) (y : Nat) (gre : Nat → Int32) (gro : Nat → Int32) (grc : Nat) (gv : Nat → Bool) (H : Heap) (locs : List Loc) (ls : Array Slot), (y ≤ grc) → (inv3 nc (RB nk nc fo th tg T nt up) gv gre gro grc) → (0 < nc → gv 0 = true) → (∀ j, j < y → ∀ i, i < nc → gro j = nI i → ∀ b, b < nc → ed nk fo th tg (gl T nt up) i b → gv b = true) → 48 - y < n9 → va_P (dC, dI) vwCl (w3 a cI cZ nk pa fa nc fo th tg nt tb te tk tt nu ub ue uk ut gre gro fu bl go ra grc ex tc es wy) H → va_D A (w3 a cI cZ nk pa fa nc fo th tg nt tb te tk tt nu ub ue uk ut gre gro fu bl go ra grc ex tc es wy) → va_S A s.heap H locs → lv_has ls 2 [(0, .ref (a 0)), (1, .int (nI y))] → W p l e (headSpec wsX3_findReached ({ frames := 3, cells := 0, slots := 0, locals := 72 } : Room)).room s m args below meth c H locs 0 0 Q (F0 m 33 ls []) := by
          intro n9
          induction n9 with
          | zero => intro y gre gro grc gv H locs ls hy hI h0 hd hmu; exact absurd hmu (Nat.not_lt_zero _)
          | succ n9 ih_33 =>
            intro y gre gro grc gv H locs ls hy hI h0 hd hmu hP hD hS hl
            refine lv_iload_n hx hb dX3_findReached_33 rfl (lv_at hl 1 rfl) ?_
            refine lv_aload_n hx hb dX3_findReached_34 rfl (lv_at hl 0 rfl) ?_
            refine va_get (D := (dC, dI)) (ci := 3) (v := .int (nI grc)) (C := RX3) (T := TX3) (N := 15) hx hb hts (by decide +kernel) hown hK hP 0 rfl rfl 6 (by decide) (hts (.fieldLink RX3 247 "HandlerOptimizer" "reachedCount" "I") (by decide +kernel)) (fun _ h9 => h9) rfl dX3_findReached_35 ?_
            refine lv_icmp_ge (tgt := 63) hx hb dX3_findReached_38 (by decide) (fun c_6 => ?_) (fun c_6 => ?_)
            · skip
              have c1 := (zz_get (a := y) (b := grc) (by have := inv3_le hI; omega) (by have := inv3_le hI; omega)).mp c_6
              have hend : grc ≤ y := c1
              rw [← hQ]
              have hP9 := hP
              have hD9 := hD
              exact W.vret hx hb hr (fun t ht hW => ⟨⟨(gre, gro, grc), rfl, (fun j hj => by
                    rw [hI.1 j hj]
                    congr 1
                    have hle : ∀ i, RB nk nc fo th tg T nt up i = true → gv i = true := fun i q => rB_least h0 (fun x y2 hx q1 he hy2 => by
                      obtain ⟨j2, h1, h2⟩ := hI.2.2.2.2 x q1
                      exact hd j2 (by omega) x hx h2 y2 hy2 he) q
                    cases e1 : gv j
                    · cases e2 : RB nk nc fo th tg T nt up j
                      · rfl
                      · rw [hle j e2] at e1; cases e1
                    · exact ((hI.2.1 j e1).2).symm), (by rw [ht]; exact hP9), va_K.moved hW.alike hK, hD9⟩, hS.F ht⟩) hS.2.2 dX3_findReached_63
            · skip
              have c1 := (zz_gef (a := y) (b := grc) (by have := inv3_le hI; omega) (by have := inv3_le hI; omega)).mp c_6
              refine lv_iload_n hx hb dX3_findReached_41 rfl (lv_at hl 1 rfl) ?_
              refine lv_bipush (v := 48) hx hb dX3_findReached_42 (by decide) ?_
              refine lv_icmp_ge (tgt := 63) hx hb dX3_findReached_44 (by decide) (fun c_7 => ?_) (fun c_7 => ?_)
              · skip
                have c1 := (zz_get (a := y) (b := 48) (by have := inv3_le hI; omega) (by omega)).mp c_7
                have hend : grc ≤ y := by have := inv3_le hI; omega
                rw [← hQ]
                have hP9 := hP
                have hD9 := hD
                exact W.vret hx hb hr (fun t ht hW => ⟨⟨(gre, gro, grc), rfl, (fun j hj => by
                      rw [hI.1 j hj]
                      congr 1
                      have hle : ∀ i, RB nk nc fo th tg T nt up i = true → gv i = true := fun i q => rB_least h0 (fun x y2 hx q1 he hy2 => by
                        obtain ⟨j2, h1, h2⟩ := hI.2.2.2.2 x q1
                        exact hd j2 (by omega) x hx h2 y2 hy2 he) q
                      cases e1 : gv j
                      · cases e2 : RB nk nc fo th tg T nt up j
                        · rfl
                        · rw [hle j e2] at e1; cases e1
                      · exact ((hI.2.1 j e1).2).symm), (by rw [ht]; exact hP9), va_K.moved hW.alike hK, hD9⟩, hS.F ht⟩) hS.2.2 dX3_findReached_63
              · skip
                have c2 := (zz_gef (a := y) (b := 48) (by have := inv3_le hI; omega) (by omega)).mp c_7
                obtain ⟨i0, hi1, hi2, hi3⟩ := hI.2.2.2.1 y (by omega)
                have hrc := inv3_le hI
                refine lv_aload_n hx hb dX3_findReached_47 rfl (lv_at hl 0 rfl) ?_
                refine lv_aload_n hx hb dX3_findReached_48 rfl (lv_at hl 0 rfl) ?_
                refine va_get (D := (dC, dI)) (ci := 3) (v := .ref (a 19)) (C := RX3) (T := TX3) (N := 15) hx hb hts (by decide +kernel) hown hK hP 0 rfl rfl 5 (by decide) (hts (.fieldLink RX3 37 "HandlerOptimizer" "reachedOrder" "[I") (by decide +kernel)) (fun _ h9 => h9) rfl dX3_findReached_49 ?_
                refine lv_iload_n hx hb dX3_findReached_52 rfl (lv_at hl 1 rfl) ?_
                refine va_iald hx hb hK hP 19 0 rfl rfl (vp_in_nI (n := y) (by omega) (by decide)) dX3_findReached_53 ?_
                refine zz_top (y := gro y) (congrArg _ (nI_clamp (by omega))) ?_
                refine zz_top (y := nI i0) (hi2) ?_
                have hDc := hD
                have hFc := va_free (wc := w3 a cI cZ nk pa fa nc fo th tg nt tb te tk tt nu ub ue uk ut gre gro fu bl go ra grc ex tc es wy) hD hS hA [0, 1, 2, 3, 4, 5, 6, 7, 8, 9, 10, 11, 12, 13, 14, 15, 16, 17, 18, 19, 20, 21, 22, 23] rfl
                refine va_callv (va_runV (As := [.int (nI i0)]) (rest := []) ⟨hx, hb, hml, hown, hts⟩ (c_X3_reachFrom l dC dI cI cZ cJ a nk pa fa nc fo th tg nt tb te tk tt nu ub ue uk ut gre gro fu bl go ra grc ex tc es wy i0 T up gv H.size (by first | assumption | omega) (by first | assumption | omega) (by first | assumption | omega) (hI) ((hI.2.1 _ hi3).2)) (cwV 1 hts gX3_findReached_X3_reachFrom rfl rfl rfl (by decide +kernel) ⟨Nat.le_of_ble_eq_true rfl, Nat.le_of_ble_eq_true rfl⟩) ⟨zWr_blind, va_recv hK hP (ci := 3) (q0 := 0) rfl rfl, zWr_at hP hK hn (hDc.weaken (fun _ _ _ _ => trivial))⟩ rfl rfl hl.1 rfl (lv_room (Nat.le_of_ble_eq_true rfl)) dX3_findReached_54 ⟨Nat.le_of_ble_eq_true rfl, Nat.le_of_ble_eq_true rfl⟩) hS (fun q _ h => hFc q h) hFc (fun u_9 t H1 locs ht hvm hw hB hz1 hk1 hS => ?_)
                obtain ⟨re_n, ro_n, rc_n⟩ := u_9
                dsimp only at hw hB
                obtain ⟨hP1, -, hD1⟩ := hB
                rw [ht] at hP1
                obtain ⟨hP, hD⟩ := va_join (wr := []) (w1 := w3 a cI cZ nk pa fa nc fo th tg nt tb te tk tt nu ub ue uk ut re_n ro_n fu bl go ra rc_n ex tc es wy) hP hD [0, 1, 2, 3, 4, 5, 6, 7, 8, 9, 10, 11, 12, 13, 14, 15, 16, 17, 18, 19, 20, 21, 22, 23] [] rfl rfl (by decide) (by decide) hk1 hFc hP1 hD1
                generalize H1 = H at hP hS ⊢
                have hP : va_P (dC, dI) vwCl (w3 a cI cZ nk pa fa nc fo th tg nt tb te tk tt nu ub ue uk ut re_n ro_n fu bl go ra rc_n ex tc es wy) H := hP
                have hD : va_D A (w3 a cI cZ nk pa fa nc fo th tg nt tb te tk tt nu ub ue uk ut re_n ro_n fu bl go ra rc_n ex tc es wy) := hD
                obtain ⟨gv9, hs8, hv9⟩ := hw
                
                refine lv_iinc (v := nI (y + 1)) (lv' := [(1, .int (nI (y + 1))), (0, .ref (a 0))]) hx hb dX3_findReached_57 hl (k := 1) rfl (zz_inc y 1) (by decide) rfl (fun ls hl => ?_)
                refine lv_goto (tgt := 33) hx hb dX3_findReached_60 (by decide) ?_
                exact ih_33 (y + 1) re_n ro_n rc_n gv9 _ _ _ (by have := hs8.2.2.2; omega) hs8.1 (fun q => hs8.2.1 _ (h0 q)) (fun j hj i hi q b hb he => by
                    have q9 : gro j = nI i := (hs8.2.2.1 j (by omega)).symm.trans q
                    by_cases d : j = y
                    · subst d
                      have := (nI_eq (by omega) (by omega)).mp (q9.symm.trans hi2)
                      subst this; exact hv9 b hb he
                    · exact hs8.2.1 _ (hd j (by omega) i hi q9 b hb he)) (by omega) hP hD hS (lv_sub hl [1, 0] rfl)
        exact J_33 _ 0 re_n ro_n rc_n gv9 _ _ _ (by first | assumption | omega) hs8.1 (fun q => hv9 0 q rfl) (fun j hj => absurd hj (Nat.not_lt_zero j)) (Nat.lt_succ_self _) hP hD hS (lv_sub hl [1, 0] rfl)
      · skip
        have c_1 := (zz_gef (a := y) (b := 48) (by omega) (by omega)).mp c_1
        refine lv_aload_n hx hb dX3_findReached_8 rfl (lv_at hl 0 rfl) ?_
        refine va_get (D := (dC, dI)) (ci := 3) (v := .ref (a 18)) (C := RX3) (T := TX3) (N := 15) hx hb hts (by decide +kernel) hown hK hP 0 rfl rfl 4 (by decide) (hts (.fieldLink RX3 33 "HandlerOptimizer" "reached" "[Z") (by decide +kernel)) (fun _ h9 => h9) rfl dX3_findReached_9 ?_
        refine lv_iload_n hx hb dX3_findReached_12 rfl (lv_at hl 1 rfl) ?_
        refine lv_iconst (v := 0) hx hb dX3_findReached_13 (by decide) ?_
        refine va_zast hx hb hK hP hD hS 18 1 rfl rfl (vp_in_nI (n := y) (by omega) (by decide)) dX3_findReached_14 (fun H locs hP hD hS => ?_)
        rw [nI_clamp (n := y) (by omega)] at hP hD
        rw [zz_nz0] at hP hD
        have hP : va_P (dC, dI) vwCl (w3 a cI cZ nk pa fa nc fo th tg nt tb te tk tt nu ub ue uk ut (upd gre y 0) ro fu bl go ra rc ex tc es wy) H := hP
        have hD : va_D A (w3 a cI cZ nk pa fa nc fo th tg nt tb te tk tt nu ub ue uk ut (upd gre y 0) ro fu bl go ra rc ex tc es wy) := hD
        refine lv_iinc (v := nI (y + 1)) (lv' := [(1, .int (nI (y + 1))), (0, .ref (a 0))]) hx hb dX3_findReached_15 hl (k := 1) rfl (zz_inc y 1) (by decide) rfl (fun ls hl => ?_)
        refine lv_goto (tgt := 2) hx hb dX3_findReached_18 (by decide) ?_
        exact ih_2 (y + 1) (upd gre y 0) _ _ _ (by first | assumption | omega) (fun j hj => by
            by_cases d : j = y
            · subst d; simp [upd]
            · simp only [upd, if_neg d]; exact hz j (by omega)) (by omega) hP hD hS (lv_sub hl [1, 0] rfl)
  exact J_2 _ 0 re _ _ _ (by first | assumption | omega) lt_0 (Nat.lt_succ_self _) hP hD hS (lv_sub hl [1, 0] rfl)

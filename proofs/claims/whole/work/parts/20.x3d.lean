set_option maxHeartbeats 4000000 in
set_option maxRecDepth 100000 in
theorem c_J6_bitCount_0f7a4 (l : Launch) (dC : Nat → ClassId) (dI : Nat → Nat → Nat) (cI cZ cJ : ClassId) (x : Int32) (hx9 : ∃ n, n < 256 ∧ x = nI n) : Met l yJ6_bitCount_0f7a4 wsJ6_bitCount_0f7a4 ({ frames := 0, cells := 0, slots := 0, locals := 0 } : Room) (va_Pc [.int x] (zPre (dC, dI) [(cI, .int), (cZ, .boolean), (cJ, .long)] ([] : va_W))) (va_Qi (fun (r : Int32) (_ : Unit) => r = nI (bc x)) (fun _ _ => True) (fun _ => False)) 0 0 (fun _ => False) := by
  refine Met.ofW (cc := cJ6_bitCount_0f7a4) (maxL := 1) (ret := (some .int)) (by decide) rfl ?_
  intro p e s m args below meth c s₁ B hml hv
  obtain ⟨hav, hP, hK, hn⟩ := hv
  have hx := B.exec
  have hb := B.bytes
  have hr := B.returns
  have hts := atoms_spec (ws := wsJ6_bitCount_0f7a4) B.pre
  have hown : s.vm.findClass RJ6 = some m.cls := findClass_of_methodNamed B.named
  have hlocks := B.notSynchronized
  have hS : va_S (fun _ => False) s.heap s.heap [] := va_S.rf
  generalize hQ : MQ below (va_Qi (fun (r : Int32) (_ : Unit) => r = nI (bc x)) (fun _ _ => True) (fun _ => False)) args s 0 0 (fun _ => False) = Q
  refine W.eq (g2 := entryFrame m ([.int x] : List Value).toArray 1) (by rw [hav]) ?_
  have hl := lv_entry ([.int x]) (n := 1) (Nat.le_of_ble_eq_true rfl)
  rw [lg_entry_eq]
  generalize (lg_sl ([.int x]) ++ List.replicate (1 - (lg_sl ([.int x])).length) Slot.unset).toArray = ls at hl ⊢
  have hl : lv_has ls 1 [(0, .int x)] := hl
  obtain ⟨H, hH⟩ : ∃ H, H = s.heap := ⟨_, rfl⟩
  obtain ⟨locs, hlo⟩ : ∃ q : List Loc, q = [] := ⟨_, rfl⟩
  have hP : va_P (dC, dI) vwCl ([] : va_W) H := by rw [hH]; exact hP
  have hS : va_S (fun _ => False) s.heap H locs := by rw [hH, hlo]; exact hS
  refine zz_hl hH hlo ?_
  refine lv_iload_n hx hb dJ6_bitCount_0f7a4_0 rfl (lv_at hl 0 rfl) ?_
  refine lv_iload_n hx hb dJ6_bitCount_0f7a4_1 rfl (lv_at hl 0 rfl) ?_
  refine lv_iconst (v := 1) hx hb dJ6_bitCount_0f7a4_2 (by decide) ?_
  refine lv_iushr (v := (x.toUInt32 >>> ((1 : Int32).toUInt32 &&& Int32.toUInt32 31)).toInt32) hx hb dJ6_bitCount_0f7a4_3 rfl ?_
  refine lv_ldcw (own := RJ6) (v := 1431655765) hx hb hown (hts (.constant RJ6 265 (1431655765)) (by decide +kernel)) dJ6_bitCount_0f7a4_4 ?_
  refine lv_iand hx hb dJ6_bitCount_0f7a4_7 ?_
  refine lv_isub hx hb dJ6_bitCount_0f7a4_8 ?_
  refine lv_topi (fun x1 ex1 => ?_)
  refine lv_istore_n (lv' := [(0, .int x1)]) hx hb dJ6_bitCount_0f7a4_9 rfl hl (by decide) rfl (fun ls hl => ?_)
  refine lv_iload_n hx hb dJ6_bitCount_0f7a4_10 rfl (lv_at hl 0 rfl) ?_
  refine lv_ldcw (own := RJ6) (v := 858993459) hx hb hown (hts (.constant RJ6 266 (858993459)) (by decide +kernel)) dJ6_bitCount_0f7a4_11 ?_
  refine lv_iand hx hb dJ6_bitCount_0f7a4_14 ?_
  refine lv_iload_n hx hb dJ6_bitCount_0f7a4_15 rfl (lv_at hl 0 rfl) ?_
  refine lv_iconst (v := 2) hx hb dJ6_bitCount_0f7a4_16 (by decide) ?_
  refine lv_iushr (v := (x1.toUInt32 >>> ((2 : Int32).toUInt32 &&& Int32.toUInt32 31)).toInt32) hx hb dJ6_bitCount_0f7a4_17 rfl ?_
  refine lv_ldcw (own := RJ6) (v := 858993459) hx hb hown (hts (.constant RJ6 266 (858993459)) (by decide +kernel)) dJ6_bitCount_0f7a4_18 ?_
  refine lv_iand hx hb dJ6_bitCount_0f7a4_21 ?_
  refine lv_iadd hx hb dJ6_bitCount_0f7a4_22 ?_
  refine lv_topi (fun x2 ex2 => ?_)
  refine lv_istore_n (lv' := [(0, .int x2)]) hx hb dJ6_bitCount_0f7a4_23 rfl hl (by decide) rfl (fun ls hl => ?_)
  refine lv_iload_n hx hb dJ6_bitCount_0f7a4_24 rfl (lv_at hl 0 rfl) ?_
  refine lv_iload_n hx hb dJ6_bitCount_0f7a4_25 rfl (lv_at hl 0 rfl) ?_
  refine lv_iconst (v := 4) hx hb dJ6_bitCount_0f7a4_26 (by decide) ?_
  refine lv_iushr (v := (x2.toUInt32 >>> ((4 : Int32).toUInt32 &&& Int32.toUInt32 31)).toInt32) hx hb dJ6_bitCount_0f7a4_27 rfl ?_
  refine lv_iadd hx hb dJ6_bitCount_0f7a4_28 ?_
  refine lv_ldcw (own := RJ6) (v := 252645135) hx hb hown (hts (.constant RJ6 267 (252645135)) (by decide +kernel)) dJ6_bitCount_0f7a4_29 ?_
  refine lv_iand hx hb dJ6_bitCount_0f7a4_32 ?_
  refine lv_topi (fun x3 ex3 => ?_)
  refine lv_istore_n (lv' := [(0, .int x3)]) hx hb dJ6_bitCount_0f7a4_33 rfl hl (by decide) rfl (fun ls hl => ?_)
  refine lv_iload_n hx hb dJ6_bitCount_0f7a4_34 rfl (lv_at hl 0 rfl) ?_
  refine lv_iload_n hx hb dJ6_bitCount_0f7a4_35 rfl (lv_at hl 0 rfl) ?_
  refine lv_bipush (v := 8) hx hb dJ6_bitCount_0f7a4_36 (by decide) ?_
  refine lv_iushr (v := (x3.toUInt32 >>> ((8 : Int32).toUInt32 &&& Int32.toUInt32 31)).toInt32) hx hb dJ6_bitCount_0f7a4_38 rfl ?_
  refine lv_iadd hx hb dJ6_bitCount_0f7a4_39 ?_
  refine lv_topi (fun x4 ex4 => ?_)
  refine lv_istore_n (lv' := [(0, .int x4)]) hx hb dJ6_bitCount_0f7a4_40 rfl hl (by decide) rfl (fun ls hl => ?_)
  refine lv_iload_n hx hb dJ6_bitCount_0f7a4_41 rfl (lv_at hl 0 rfl) ?_
  refine lv_iload_n hx hb dJ6_bitCount_0f7a4_42 rfl (lv_at hl 0 rfl) ?_
  refine lv_bipush (v := 16) hx hb dJ6_bitCount_0f7a4_43 (by decide) ?_
  refine lv_iushr (v := (x4.toUInt32 >>> ((16 : Int32).toUInt32 &&& Int32.toUInt32 31)).toInt32) hx hb dJ6_bitCount_0f7a4_45 rfl ?_
  refine lv_iadd hx hb dJ6_bitCount_0f7a4_46 ?_
  refine lv_topi (fun x5 ex5 => ?_)
  refine lv_istore_n (lv' := [(0, .int x5)]) hx hb dJ6_bitCount_0f7a4_47 rfl hl (by decide) rfl (fun ls hl => ?_)
  refine lv_iload_n hx hb dJ6_bitCount_0f7a4_48 rfl (lv_at hl 0 rfl) ?_
  refine lv_bipush (v := 63) hx hb dJ6_bitCount_0f7a4_49 (by decide) ?_
  refine lv_iand hx hb dJ6_bitCount_0f7a4_51 ?_
  rw [← hQ]
  exact W.iret (v := x5 &&& 63) hx hb hr (fun t ht hW => ⟨⟨x5 &&& 63, (), rfl, (by
          obtain ⟨n, hn2, rfl⟩ := hx9
          rw [← bc_ok n hn2]
          subst ex1; subst ex2; subst ex3; subst ex4; subst ex5; rfl), trivial⟩, hS.F ht⟩) hS.2.2 dJ6_bitCount_0f7a4_52

set_option maxHeartbeats 4000000 in
set_option maxRecDepth 100000 in
theorem c_X3_countRemovedAhead (l : Launch) (dC : Nat → ClassId) (dI : Nat → Nat → Nat) (cI cZ cJ : ClassId) (a : Nat → Nat) (nk : Nat) (pa : Nat → Int32) (fa : Nat → Int32) (nc : Nat) (fo : Nat → Int32) (th : Nat → Int32) (tg : Nat → Int32) (nt : Nat) (tb : Nat → Int32) (te : Nat → Int32) (tk : Nat → Int32) (tt : Nat → Int32) (nu : Nat) (ub : Nat → Int32) (ue : Nat → Int32) (uk : Nat → Int32) (ut : Nat → Int32) (re : Nat → Int32) (ro : Nat → Int32) (fu : Nat → Int32) (bl : Nat → Int32) (go : Nat → Int32) (ra : Nat → Int32) (rc : Nat) (ex : Int32) (tc : Int32) (es : Int32) (wy : Int64) (v : Nat → Bool) (sz : Nat) (hnc : nc ≤ 48) (hre : ∀ j, j < 48 → re j = bI (v j)) : Met l yX3_countRemovedAhead wsX3_countRemovedAhead ({ frames := 1, cells := 0, slots := 0, locals := 21 } : Room) (va_Pc [.ref (a 0)] (zWr (dC, dI) [(cI, .int), (cZ, .boolean), (cJ, .long)] (w3 a cI cZ nk pa fa nc fo th tg nt tb te tk tt nu ub ue uk ut re ro fu bl go ra rc ex tc es wy) sz)) (va_Qv (fun (ra9 : Nat → Int32) => ∀ n, n ≤ 48 → ra9 n = nI (rmN v nc n)) (fun ra9 t => zWo (dC, dI) [(cI, .int), (cZ, .boolean), (cJ, .long)] (w3 a cI cZ nk pa fa nc fo th tg nt tb te tk tt nu ub ue uk ut re ro fu bl go ra9 rc ex tc es wy) (va_A (w3 a cI cZ nk pa fa nc fo th tg nt tb te tk tt nu ub ue uk ut re ro fu bl go ra rc ex tc es wy) sz) t) (va_A (w3 a cI cZ nk pa fa nc fo th tg nt tb te tk tt nu ub ue uk ut re ro fu bl go ra rc ex tc es wy) sz)) 0 0 (va_A (w3 a cI cZ nk pa fa nc fo th tg nt tb te tk tt nu ub ue uk ut re ro fu bl go ra rc ex tc es wy) sz) := by
  refine Met.ofW (cc := cX3_countRemovedAhead) (maxL := 3) (ret := none) (by decide) rfl ?_
  intro p e s m args below meth c s₁ B hml hv
  obtain ⟨hav, hsz, ⟨hP, hK, hn⟩, hD0⟩ := hv
  have hx := B.exec
  have hb := B.bytes
  have hr := B.returns
  have hts := atoms_spec (ws := wsX3_countRemovedAhead) B.pre
  have hown : s.vm.findClass RX3 = some m.cls := findClass_of_methodNamed B.named
  have hlocks := B.notSynchronized
  subst hsz
  have hD := hD0.self (sz := s.heap.size)
  generalize hAe : (va_A (w3 a cI cZ nk pa fa nc fo th tg nt tb te tk tt nu ub ue uk ut re ro fu bl go ra rc ex tc es wy) s.heap.size) = A at hD ⊢
  have hA : ∀ q : Nat, s.heap.size ≤ q → A q := fun q h => by rw [← hAe]; exact Or.inr h
  have hS : va_S A s.heap s.heap [] := va_S.rf
  generalize hQ : MQ below (va_Qv (fun (ra9 : Nat → Int32) => ∀ n, n ≤ 48 → ra9 n = nI (rmN v nc n)) (fun ra9 t => zWo (dC, dI) [(cI, .int), (cZ, .boolean), (cJ, .long)] (w3 a cI cZ nk pa fa nc fo th tg nt tb te tk tt nu ub ue uk ut re ro fu bl go ra9 rc ex tc es wy) A t) A) args s 0 0 A = Q
  refine W.eq (g2 := entryFrame m ([.ref (a 0)] : List Value).toArray 3) (by rw [hav]) ?_
  have hl := lv_entry ([.ref (a 0)]) (n := 3) (Nat.le_of_ble_eq_true rfl)
  rw [lg_entry_eq]
  generalize (lg_sl ([.ref (a 0)]) ++ List.replicate (3 - (lg_sl ([.ref (a 0)])).length) Slot.unset).toArray = ls at hl ⊢
  have hl : lv_has ls 3 [(0, .ref (a 0))] := hl
  obtain ⟨H, hH⟩ : ∃ H, H = s.heap := ⟨_, rfl⟩
  obtain ⟨locs, hlo⟩ : ∃ q : List Loc, q = [] := ⟨_, rfl⟩
  have hP : va_P (dC, dI) vwCl (w3 a cI cZ nk pa fa nc fo th tg nt tb te tk tt nu ub ue uk ut re ro fu bl go ra rc ex tc es wy) H := by rw [hH]; exact hP
  have hS : va_S A s.heap H locs := by rw [hH, hlo]; exact hS
  refine zz_hl hH hlo ?_
  refine lv_iconst (v := 0) hx hb dX3_countRemovedAhead_0 (by decide) ?_
  refine lv_istore_n (lv' := [(1, .int 0), (0, .ref (a 0))]) hx hb dX3_countRemovedAhead_1 rfl hl (by decide) rfl (fun ls hl => ?_)
  refine lv_iconst (v := 0) hx hb dX3_countRemovedAhead_2 (by decide) ?_
  refine lv_istore_n (lv' := [(2, .int 0), (1, .int 0), (0, .ref (a 0))]) hx hb dX3_countRemovedAhead_3 rfl hl (by decide) rfl (fun ls hl => ?_)
  have J_4 : ∀ (n9 : Nat) (y : Nat) (gr : Nat → Int32) (H : Heap) (locs : List Loc) (ls : Array Slot), (y ≤ 49) → (∀ n, n < y → gr n = nI (rmN v nc n)) → 49 - y < n9 → va_P (dC, dI) vwCl (w3 a cI cZ nk pa fa nc fo th tg nt tb te tk tt nu ub ue uk ut re ro fu bl go gr rc ex tc es wy) H → va_D A (w3 a cI cZ nk pa fa nc fo th tg nt tb te tk tt nu ub ue uk ut re ro fu bl go gr rc ex tc es wy) → va_S A s.heap H locs → lv_has ls 3 [(0, .ref (a 0)), (1, .int (nI (rmN v nc y))), (2, .int (nI y))] → W p l e (headSpec wsX3_countRemovedAhead ({ frames := 1, cells := 0, slots := 0, locals := 21 } : Room)).room s m args below meth c H locs 0 0 Q (F0 m 4 ls []) := by
    intro n9
    induction n9 with
    | zero => intro y gr H locs ls hy hq hmu; exact absurd hmu (Nat.not_lt_zero _)
    | succ n9 ih_4 =>
      intro y gr H locs ls hy hq hmu hP hD hS hl
      refine lv_iload_n hx hb dX3_countRemovedAhead_4 rfl (lv_at hl 2 rfl) ?_
      refine lv_bipush (v := 48) hx hb dX3_countRemovedAhead_5 (by decide) ?_
      refine lv_icmp_gt (tgt := 46) hx hb dX3_countRemovedAhead_7 (by decide) (fun c_1 => ?_) (fun c_1 => ?_)
      · skip
        have c_1 := (zz_gtt (a := y) (b := 48) (by omega) (by omega)).mp c_1
        rw [← hQ]
        have hP9 := hP
        have hD9 := hD
        exact W.vret hx hb hr (fun t ht hW => ⟨⟨gr, rfl, (fun n hn2 => hq n (by omega)), (by rw [ht]; exact hP9), va_K.moved hW.alike hK, hD9⟩, hS.F ht⟩) hS.2.2 dX3_countRemovedAhead_46
      · skip
        have c_1 := (zz_gtf (a := y) (b := 48) (by omega) (by omega)).mp c_1
        refine lv_aload_n hx hb dX3_countRemovedAhead_10 rfl (lv_at hl 0 rfl) ?_
        refine va_get (D := (dC, dI)) (ci := 3) (v := .ref (a 23)) (C := RX3) (T := TX3) (N := 15) hx hb hts (by decide +kernel) hown hK hP 0 rfl rfl 10 (by decide) (hts (.fieldLink RX3 50 "HandlerOptimizer" "removedAhead" "[I") (by decide +kernel)) (fun _ h9 => h9) rfl dX3_countRemovedAhead_11 ?_
        refine lv_iload_n hx hb dX3_countRemovedAhead_14 rfl (lv_at hl 2 rfl) ?_
        refine lv_iload_n hx hb dX3_countRemovedAhead_15 rfl (lv_at hl 1 rfl) ?_
        refine va_iast hx hb hK hP hD hS 23 0 rfl rfl (vp_in_nI (n := y) (by omega) (by decide)) dX3_countRemovedAhead_16 (fun H locs hP hD hS => ?_)
        rw [nI_clamp (n := y) (by omega)] at hP hD
        have hP : va_P (dC, dI) vwCl (w3 a cI cZ nk pa fa nc fo th tg nt tb te tk tt nu ub ue uk ut re ro fu bl go (upd gr y (nI (rmN v nc y))) rc ex tc es wy) H := hP
        have hD : va_D A (w3 a cI cZ nk pa fa nc fo th tg nt tb te tk tt nu ub ue uk ut re ro fu bl go (upd gr y (nI (rmN v nc y))) rc ex tc es wy) := hD
        refine lv_aload_n hx hb dX3_countRemovedAhead_17 rfl (lv_at hl 0 rfl) ?_
        refine va_get (D := (dC, dI)) (ci := 3) (v := .ref (a 4)) (C := RX3) (T := TX3) (N := 15) hx hb hts (by decide +kernel) hown hK hP 0 rfl rfl 1 (by decide) (hts (.fieldLink RX3 19 "HandlerOptimizer" "code" "LHandlerOptimizer$Code;") (by decide +kernel)) (fun _ h9 => h9) rfl dX3_countRemovedAhead_18 ?_
        refine lv_iload_n hx hb dX3_countRemovedAhead_21 rfl (lv_at hl 2 rfl) ?_
        have hPc := hP.sub (ws' := wC (a 4) (a 5) (a 6) (a 7) cI nc fo th tg) [4, 5, 6, 7] rfl
        refine va_calli (va_runVN (As := [.int (nI y)]) (rest := []) ⟨hx, hb, hml, hown, hts⟩ (c_X0_has l dC dI cI cZ cJ (a 4) (a 5) (a 6) (a 7) nc fo th tg (nI y) ) ⟨va_cnB 1 hts gX3_countRemovedAhead_X0_has_n208 rfl rfl rfl (hn (.methodLinkNest RX3 208 yX0_has "HandlerOptimizer") (by decide +kernel)) (hts (.initialized RX0) (by decide +kernel)) (by decide +kernel) ⟨Nat.le_of_ble_eq_true rfl, Nat.le_of_ble_eq_true rfl⟩, hts (.instanceMethod yX0_has) (by decide +kernel), hts (.selects RX0 yX0_has yX0_has) (by decide +kernel)⟩ ⟨zPre_blind, va_recv hK hPc (ci := 0) (q0 := 0) rfl rfl, zPre_at hPc hK hn⟩ rfl rfl hl.1 rfl (lv_room (Nat.le_of_ble_eq_true rfl)) dX3_countRemovedAhead_22 ⟨Nat.le_of_ble_eq_true rfl, Nat.le_of_ble_eq_true rfl⟩) hS (fun _ _ h => h.elim) (fun _ h => h.elim) (fun r_2 u_9 t H locs ht hvm hw hB hz1 hk1 hS => ?_)
        have hP := zkeep hP hk1
        subst hw
        refine lv_if_eq (tgt := 40) hx hb dX3_countRemovedAhead_25 (by decide) (fun c_3 => ?_) (fun c_3 => ?_)
        · skip
          have c9 := zb_0.mp c_3
          rw [hasI_nI (by omega) (by omega)] at c9
          have c8 := of_decide_eq_false c9
          have e9 : rmN v nc (y + 1) = rmN v nc y := by simp only [rmN, ct]; simp [*]
          rw [← e9] at hl
          refine lv_iinc (v := nI (y + 1)) (lv' := [(2, .int (nI (y + 1))), (0, .ref (a 0)), (1, .int (nI (rmN v nc (y + 1))))]) hx hb dX3_countRemovedAhead_40 hl (k := 2) rfl (zz_inc y 1) (by decide) rfl (fun ls hl => ?_)
          refine lv_goto (tgt := 4) hx hb dX3_countRemovedAhead_43 (by decide) ?_
          exact ih_4 (y + 1) (upd gr y (nI (rmN v nc y))) _ _ _ (by first | assumption | omega) (fun n hn2 => by
              by_cases d : n = y
              · subst d; simp [upd]
              · simp only [upd, if_neg d]; exact hq n (by omega)) (by omega) hP hD hS (lv_sub hl [1, 2, 0] rfl)
        · skip
          have c9 := zb_1.mp c_3
          rw [hasI_nI (by omega) (by omega)] at c9
          have c8 := of_decide_eq_true c9
          refine lv_aload_n hx hb dX3_countRemovedAhead_28 rfl (lv_at hl 0 rfl) ?_
          refine va_get (D := (dC, dI)) (ci := 3) (v := .ref (a 18)) (C := RX3) (T := TX3) (N := 15) hx hb hts (by decide +kernel) hown hK hP 0 rfl rfl 4 (by decide) (hts (.fieldLink RX3 33 "HandlerOptimizer" "reached" "[Z") (by decide +kernel)) (fun _ h9 => h9) rfl dX3_countRemovedAhead_29 ?_
          refine lv_iload_n hx hb dX3_countRemovedAhead_32 rfl (lv_at hl 2 rfl) ?_
          refine va_zald hx hb hK hP 18 1 rfl rfl (vp_in_nI (n := y) (by omega) (by decide)) dX3_countRemovedAhead_33 ?_
          refine zz_top (y := re y) (congrArg _ (nI_clamp (by omega))) ?_
          refine zz_top (y := bI (v y)) (hre y (by omega)) ?_
          refine lv_if_ne (tgt := 40) hx hb dX3_countRemovedAhead_34 (by decide) (fun c_4 => ?_) (fun c_4 => ?_)
          · skip
            have c7 := zb_1.mp c_4
            have e9 : rmN v nc (y + 1) = rmN v nc y := by simp only [rmN, ct]; simp [*]
            rw [← e9] at hl
            refine lv_iinc (v := nI (y + 1)) (lv' := [(2, .int (nI (y + 1))), (0, .ref (a 0)), (1, .int (nI (rmN v nc (y + 1))))]) hx hb dX3_countRemovedAhead_40 hl (k := 2) rfl (zz_inc y 1) (by decide) rfl (fun ls hl => ?_)
            refine lv_goto (tgt := 4) hx hb dX3_countRemovedAhead_43 (by decide) ?_
            exact ih_4 (y + 1) (upd gr y (nI (rmN v nc y))) _ _ _ (by first | assumption | omega) (fun n hn2 => by
                by_cases d : n = y
                · subst d; simp [upd]
                · simp only [upd, if_neg d]; exact hq n (by omega)) (by omega) hP hD hS (lv_sub hl [1, 2, 0] rfl)
          · skip
            have c7 := zb_0.mp c_4
            have e9 : rmN v nc (y + 1) = rmN v nc y + 1 := by simp only [rmN, ct]; simp [*]
            refine lv_iinc (v := nI (rmN v nc (y + 1))) (lv' := [(1, .int (nI (rmN v nc (y + 1)))), (0, .ref (a 0)), (2, .int (nI y))]) hx hb dX3_countRemovedAhead_37 hl (k := 1) rfl (by rw [e9]; exact zz_inc _ 1) (by decide) rfl (fun ls hl => ?_)
            refine lv_iinc (v := nI (y + 1)) (lv' := [(2, .int (nI (y + 1))), (1, .int (nI (rmN v nc (y + 1)))), (0, .ref (a 0))]) hx hb dX3_countRemovedAhead_40 hl (k := 2) rfl (zz_inc y 1) (by decide) rfl (fun ls hl => ?_)
            refine lv_goto (tgt := 4) hx hb dX3_countRemovedAhead_43 (by decide) ?_
            exact ih_4 (y + 1) (upd gr y (nI (rmN v nc y))) _ _ _ (by first | assumption | omega) (fun n hn2 => by
                by_cases d : n = y
                · subst d; simp [upd]
                · simp only [upd, if_neg d]; exact hq n (by omega)) (by omega) hP hD hS (lv_sub hl [2, 1, 0] rfl)
  exact J_4 _ 0 ra _ _ _ (by first | assumption | omega) lt_0 (Nat.lt_succ_self _) hP hD hS (lv_sub hl [2, 1, 0] rfl)

set_option maxHeartbeats 4000000 in
set_option maxRecDepth 100000 in
theorem c_X3_renumbered (l : Launch) (dC : Nat → ClassId) (dI : Nat → Nat → Nat) (cI cZ cJ : ClassId) (a : Nat → Nat) (nk : Nat) (pa : Nat → Int32) (fa : Nat → Int32) (nc : Nat) (fo : Nat → Int32) (th : Nat → Int32) (tg : Nat → Int32) (nt : Nat) (tb : Nat → Int32) (te : Nat → Int32) (tk : Nat → Int32) (tt : Nat → Int32) (nu : Nat) (ub : Nat → Int32) (ue : Nat → Int32) (uk : Nat → Int32) (ut : Nat → Int32) (re : Nat → Int32) (ro : Nat → Int32) (fu : Nat → Int32) (bl : Nat → Int32) (go : Nat → Int32) (ra : Nat → Int32) (rc : Nat) (ex : Int32) (tc : Int32) (es : Int32) (wy : Int64) (n : Nat) (w : Nat → Nat) (hn9 : n ≤ 48) (hra : ∀ n, n ≤ 48 → ra n = nI (w n)) (hww : ∀ n, w n ≤ n) : Met l yX3_renumbered wsX3_renumbered ({ frames := 0, cells := 0, slots := 0, locals := 0 } : Room) (va_Pc [.ref (a 0), .int (nI n)] (zPre (dC, dI) [(cI, .int), (cZ, .boolean), (cJ, .long)] (w3 a cI cZ nk pa fa nc fo th tg nt tb te tk tt nu ub ue uk ut re ro fu bl go ra rc ex tc es wy))) (va_Qi (fun (r : Int32) (_ : Unit) => r = nI (n - w n)) (fun _ _ => True) (fun _ => False)) 0 0 (fun _ => False) := by
  refine Met.ofW (cc := cX3_renumbered) (maxL := 2) (ret := (some .int)) (by decide) rfl ?_
  intro p e s m args below meth c s₁ B hml hv
  obtain ⟨hav, hP, hK, hn⟩ := hv
  have hx := B.exec
  have hb := B.bytes
  have hr := B.returns
  have hts := atoms_spec (ws := wsX3_renumbered) B.pre
  have hown : s.vm.findClass RX3 = some m.cls := findClass_of_methodNamed B.named
  have hlocks := B.notSynchronized
  have hS : va_S (fun _ => False) s.heap s.heap [] := va_S.rf
  generalize hQ : MQ below (va_Qi (fun (r : Int32) (_ : Unit) => r = nI (n - w n)) (fun _ _ => True) (fun _ => False)) args s 0 0 (fun _ => False) = Q
  refine W.eq (g2 := entryFrame m ([.ref (a 0), .int (nI n)] : List Value).toArray 2) (by rw [hav]) ?_
  have hl := lv_entry ([.ref (a 0), .int (nI n)]) (n := 2) (Nat.le_of_ble_eq_true rfl)
  rw [lg_entry_eq]
  generalize (lg_sl ([.ref (a 0), .int (nI n)]) ++ List.replicate (2 - (lg_sl ([.ref (a 0), .int (nI n)])).length) Slot.unset).toArray = ls at hl ⊢
  have hl : lv_has ls 2 [(0, .ref (a 0)), (1, .int (nI n))] := hl
  obtain ⟨H, hH⟩ : ∃ H, H = s.heap := ⟨_, rfl⟩
  obtain ⟨locs, hlo⟩ : ∃ q : List Loc, q = [] := ⟨_, rfl⟩
  have hP : va_P (dC, dI) vwCl (w3 a cI cZ nk pa fa nc fo th tg nt tb te tk tt nu ub ue uk ut re ro fu bl go ra rc ex tc es wy) H := by rw [hH]; exact hP
  have hS : va_S (fun _ => False) s.heap H locs := by rw [hH, hlo]; exact hS
  refine zz_hl hH hlo ?_
  refine lv_iload_n hx hb dX3_renumbered_0 rfl (lv_at hl 1 rfl) ?_
  refine lv_aload_n hx hb dX3_renumbered_1 rfl (lv_at hl 0 rfl) ?_
  refine va_get (D := (dC, dI)) (ci := 3) (v := .ref (a 23)) (C := RX3) (T := TX3) (N := 15) hx hb hts (by decide +kernel) hown hK hP 0 rfl rfl 10 (by decide) (hts (.fieldLink RX3 50 "HandlerOptimizer" "removedAhead" "[I") (by decide +kernel)) (fun _ h9 => h9) rfl dX3_renumbered_2 ?_
  refine lv_iload_n hx hb dX3_renumbered_5 rfl (lv_at hl 1 rfl) ?_
  refine va_iald hx hb hK hP 23 0 rfl rfl (vp_in_nI (n := n) (by omega) (by decide)) dX3_renumbered_6 ?_
  refine zz_top (y := ra n) (congrArg _ (nI_clamp (by omega))) ?_
  refine zz_top (y := nI (w n)) (hra n hn9) ?_
  refine lv_isub hx hb dX3_renumbered_7 ?_
  refine zz_top (y := nI (n - w n)) (zz_subn (hww n)) ?_
  rw [← hQ]
  exact W.iret (v := nI (n - w n)) hx hb hr (fun t ht hW => ⟨⟨nI (n - w n), (), rfl, rfl, trivial⟩, hS.F ht⟩) hS.2.2 dX3_renumbered_8

set_option maxHeartbeats 4000000 in
set_option maxRecDepth 100000 in
theorem c_X3_sweepTable (l : Launch) (dC : Nat → ClassId) (dI : Nat → Nat → Nat) (cI cZ cJ : ClassId) (a : Nat → Nat) (nk : Nat) (pa : Nat → Int32) (fa : Nat → Int32) (nc : Nat) (fo : Nat → Int32) (th : Nat → Int32) (tg : Nat → Int32) (nt : Nat) (tb : Nat → Int32) (te : Nat → Int32) (tk : Nat → Int32) (tt : Nat → Int32) (nu : Nat) (ub : Nat → Int32) (ue : Nat → Int32) (uk : Nat → Int32) (ut : Nat → Int32) (re : Nat → Int32) (ro : Nat → Int32) (fu : Nat → Int32) (bl : Nat → Int32) (go : Nat → Int32) (ra : Nat → Int32) (rc : Nat) (ex : Int32) (tc : Int32) (es : Int32) (wy : Int64) (T : Nat → Nat → Nat) (up : Nat → Nat → Bool) (w : Nat → Nat) (sz : Nat) (hg : g3 nk fa up nt tb te tk tt T) (hc : okC nk nc fo th tg) (hra : ∀ n, n ≤ 48 → ra n = nI (w n)) (hww : ∀ n, w n ≤ n) : Met l yX3_sweepTable wsX3_sweepTable ({ frames := 2, cells := 0, slots := 0, locals := 45 } : Room) (va_Pc [.ref (a 0)] (zWr (dC, dI) [(cI, .int), (cZ, .boolean), (cJ, .long)] (w3 a cI cZ nk pa fa nc fo th tg nt tb te tk tt nu ub ue uk ut re ro fu bl go ra rc ex tc es wy) sz)) (va_Qv (fun (u : Nat × (Nat → Int32) × (Nat → Int32) × (Nat → Int32) × (Nat → Int32)) => match u with | (nt9, tb9, te9, tk9, tt9) => nt9 = (swT w T nt).2 ∧ g3 nk fa up nt9 tb9 te9 tk9 tt9 (swT w T nt).1) (fun u t => match u with | (nt9, tb9, te9, tk9, tt9) => zWo (dC, dI) [(cI, .int), (cZ, .boolean), (cJ, .long)] (w3 a cI cZ nk pa fa nc fo th tg nt9 tb9 te9 tk9 tt9 nu ub ue uk ut re ro fu bl go ra rc ex tc es wy) (va_A (w3 a cI cZ nk pa fa nc fo th tg nt tb te tk tt nu ub ue uk ut re ro fu bl go ra rc ex tc es wy) sz) t) (va_A (w3 a cI cZ nk pa fa nc fo th tg nt tb te tk tt nu ub ue uk ut re ro fu bl go ra rc ex tc es wy) sz)) 0 0 (va_A (w3 a cI cZ nk pa fa nc fo th tg nt tb te tk tt nu ub ue uk ut re ro fu bl go ra rc ex tc es wy) sz) := by
  refine Met.ofW (cc := cX3_sweepTable) (maxL := 2) (ret := none) (by decide) rfl ?_
  intro p e s m args below meth c s₁ B hml hv
  obtain ⟨hav, hsz, ⟨hP, hK, hn⟩, hD0⟩ := hv
  have hx := B.exec
  have hb := B.bytes
  have hr := B.returns
  have hts := atoms_spec (ws := wsX3_sweepTable) B.pre
  have hown : s.vm.findClass RX3 = some m.cls := findClass_of_methodNamed B.named
  have hlocks := B.notSynchronized
  subst hsz
  have hD := hD0.self (sz := s.heap.size)
  generalize hAe : (va_A (w3 a cI cZ nk pa fa nc fo th tg nt tb te tk tt nu ub ue uk ut re ro fu bl go ra rc ex tc es wy) s.heap.size) = A at hD ⊢
  have hA : ∀ q : Nat, s.heap.size ≤ q → A q := fun q h => by rw [← hAe]; exact Or.inr h
  have hS : va_S A s.heap s.heap [] := va_S.rf
  generalize hQ : MQ below (va_Qv (fun (u : Nat × (Nat → Int32) × (Nat → Int32) × (Nat → Int32) × (Nat → Int32)) => match u with | (nt9, tb9, te9, tk9, tt9) => nt9 = (swT w T nt).2 ∧ g3 nk fa up nt9 tb9 te9 tk9 tt9 (swT w T nt).1) (fun u t => match u with | (nt9, tb9, te9, tk9, tt9) => zWo (dC, dI) [(cI, .int), (cZ, .boolean), (cJ, .long)] (w3 a cI cZ nk pa fa nc fo th tg nt9 tb9 te9 tk9 tt9 nu ub ue uk ut re ro fu bl go ra rc ex tc es wy) A t) A) args s 0 0 A = Q
  refine W.eq (g2 := entryFrame m ([.ref (a 0)] : List Value).toArray 2) (by rw [hav]) ?_
  have hl := lv_entry ([.ref (a 0)]) (n := 2) (Nat.le_of_ble_eq_true rfl)
  rw [lg_entry_eq]
  generalize (lg_sl ([.ref (a 0)]) ++ List.replicate (2 - (lg_sl ([.ref (a 0)])).length) Slot.unset).toArray = ls at hl ⊢
  have hl : lv_has ls 2 [(0, .ref (a 0))] := hl
  obtain ⟨H, hH⟩ : ∃ H, H = s.heap := ⟨_, rfl⟩
  obtain ⟨locs, hlo⟩ : ∃ q : List Loc, q = [] := ⟨_, rfl⟩
  have hP : va_P (dC, dI) vwCl (w3 a cI cZ nk pa fa nc fo th tg nt tb te tk tt nu ub ue uk ut re ro fu bl go ra rc ex tc es wy) H := by rw [hH]; exact hP
  have hS : va_S A s.heap H locs := by rw [hH, hlo]; exact hS
  refine zz_hl hH hlo ?_
  obtain ⟨hk01, hk8, hnt, hT, hO, hF, hU⟩ := id hg
  obtain ⟨hnc, hC⟩ := id hc
  refine lv_aload_n hx hb dX3_sweepTable_0 rfl (lv_at hl 0 rfl) ?_
  refine va_get (D := (dC, dI)) (ci := 3) (v := .ref (a 8)) (C := RX3) (T := TX3) (N := 15) hx hb hts (by decide +kernel) hown hK hP 0 rfl rfl 2 (by decide) (hts (.fieldLink RX3 26 "HandlerOptimizer" "table" "LHandlerOptimizer$Table;") (by decide +kernel)) (fun _ h9 => h9) rfl dX3_sweepTable_1 ?_
  refine va_getN (D := (dC, dI)) (ci := 2) (v := .int (nI nt)) (C := RX2) (T := TX2) (N := 5) hx hb hts (by decide +kernel) hown hK hP 8 rfl rfl 4 (by decide) (va_Nw.use rfl (hn (.fieldLinkNest RX3 134 "HandlerOptimizer$Table" "count" "I" "HandlerOptimizer") (by decide +kernel))) (fun _ h9 => h9) rfl dX3_sweepTable_4 ?_
  refine lv_iconst (v := 1) hx hb dX3_sweepTable_7 (by decide) ?_
  refine lv_isub hx hb dX3_sweepTable_8 ?_
  refine lv_istore_n (lv' := [(1, .int ((nI nt) - 1)), (0, .ref (a 0))]) hx hb dX3_sweepTable_9 rfl hl (by decide) rfl (fun ls hl => ?_)
  have J_10 : ∀ (n9 : Nat) (y : Nat) (n : Nat) (gb : Nat → Int32) (ge : Nat → Int32) (gk : Nat → Int32) (gt : Nat → Int32) (D : Nat → Nat → Nat) (H : Heap) (locs : List Loc) (ls : Array Slot), (y ≤ n) → (n ≤ nt) → (rT n gb ge gk gt (mS T D y)) → (okT nk n D) → (∀ e, e < y → ∀ f, D f e = rnT w T f e) → (swT w T nt = dlp (fun e => decide (rnT w T 0 e < rnT w T 1 e)) y (D, n)) → y < n9 → va_P (dC, dI) vwCl (w3 a cI cZ nk pa fa nc fo th tg n gb ge gk gt nu ub ue uk ut re ro fu bl go ra rc ex tc es wy) H → va_D A (w3 a cI cZ nk pa fa nc fo th tg n gb ge gk gt nu ub ue uk ut re ro fu bl go ra rc ex tc es wy) → va_S A s.heap H locs → lv_has ls 2 [(0, .ref (a 0)), (1, .int (nI y - 1))] → W p l e (headSpec wsX3_sweepTable ({ frames := 2, cells := 0, slots := 0, locals := 45 } : Room)).room s m args below meth c H locs 0 0 Q (F0 m 10 ls []) := by
    intro n9
    induction n9 with
    | zero => intro y n gb ge gk gt D H locs ls hy hn9 hrt ho hd hq hmu; exact absurd hmu (Nat.not_lt_zero _)
    | succ n9 ih_10 =>
      intro y n gb ge gk gt D H locs ls hy hn9 hrt ho hd hq hmu hP hD hS hl
      refine lv_iload_n hx hb dX3_sweepTable_10 rfl (lv_at hl 1 rfl) ?_
      refine lv_if_lt (tgt := 115) hx hb dX3_sweepTable_11 (by decide) (fun c_1 => ?_) (fun c_1 => ?_)
      · skip
        have c1 := zz_cdt (by omega) c_1
        subst c1
        have hq7 : swT w T nt = (D, n) := hq
        have hr7 : rT n gb ge gk gt D := fun e he => by have := hrt e he; simpa [mS] using this
        rw [← hQ]
        have hP9 := hP
        have hD9 := hD
        exact W.vret hx hb hr (fun t ht hW => ⟨⟨(n, gb, ge, gk, gt), rfl, (by rw [hq7]; exact ⟨rfl, hk01, hk8, by omega, hr7, ho, hF, hU⟩), (by rw [ht]; exact hP9), va_K.moved hW.alike hK, hD9⟩, hS.F ht⟩) hS.2.2 dX3_sweepTable_115
      · skip
        have c1 := zz_cdf c_1
        obtain ⟨z, rfl⟩ : ∃ z, y = z + 1 := ⟨y - 1, by omega⟩
        rw [nI_pred] at hl
        have hz9 := hrt z (by omega)
        simp only [mS, show z < z + 1 by omega, if_true] at hz9
        obtain ⟨o0, o1, o2, o3⟩ := hO z (by omega)
        have hrn := rT_mS (w := w) hrt (hd z (by omega))
        have w0 := hww (T 0 z)
        have w1 := hww (T 1 z)
        refine lv_aload_n hx hb dX3_sweepTable_14 rfl (lv_at hl 0 rfl) ?_
        refine va_get (D := (dC, dI)) (ci := 3) (v := .ref (a 8)) (C := RX3) (T := TX3) (N := 15) hx hb hts (by decide +kernel) hown hK hP 0 rfl rfl 2 (by decide) (hts (.fieldLink RX3 26 "HandlerOptimizer" "table" "LHandlerOptimizer$Table;") (by decide +kernel)) (fun _ h9 => h9) rfl dX3_sweepTable_15 ?_
        refine va_getN (D := (dC, dI)) (ci := 2) (v := .ref (a 9)) (C := RX2) (T := TX2) (N := 5) hx hb hts (by decide +kernel) hown hK hP 8 rfl rfl 0 (by decide) (va_Nw.use rfl (hn (.fieldLinkNest RX3 135 "HandlerOptimizer$Table" "begins" "[I" "HandlerOptimizer") (by decide +kernel))) (fun _ h9 => h9) rfl dX3_sweepTable_18 ?_
        refine lv_iload_n hx hb dX3_sweepTable_21 rfl (lv_at hl 1 rfl) ?_
        refine lv_aload_n hx hb dX3_sweepTable_22 rfl (lv_at hl 0 rfl) ?_
        refine lv_aload_n hx hb dX3_sweepTable_23 rfl (lv_at hl 0 rfl) ?_
        refine va_get (D := (dC, dI)) (ci := 3) (v := .ref (a 8)) (C := RX3) (T := TX3) (N := 15) hx hb hts (by decide +kernel) hown hK hP 0 rfl rfl 2 (by decide) (hts (.fieldLink RX3 26 "HandlerOptimizer" "table" "LHandlerOptimizer$Table;") (by decide +kernel)) (fun _ h9 => h9) rfl dX3_sweepTable_24 ?_
        refine va_getN (D := (dC, dI)) (ci := 2) (v := .ref (a 9)) (C := RX2) (T := TX2) (N := 5) hx hb hts (by decide +kernel) hown hK hP 8 rfl rfl 0 (by decide) (va_Nw.use rfl (hn (.fieldLinkNest RX3 135 "HandlerOptimizer$Table" "begins" "[I" "HandlerOptimizer") (by decide +kernel))) (fun _ h9 => h9) rfl dX3_sweepTable_27 ?_
        refine lv_iload_n hx hb dX3_sweepTable_30 rfl (lv_at hl 1 rfl) ?_
        refine va_iald hx hb hK hP 9 0 rfl rfl (vp_in_nI (n := z) (by omega) (by decide)) dX3_sweepTable_31 ?_
        refine zz_top (y := gb z) (congrArg _ (nI_clamp (by omega))) ?_
        refine zz_top (y := nI (T 0 z)) (hz9.1) ?_
        refine va_calli (va_runV (As := [.int (nI (T 0 z))]) (rest := [.int (nI z), .ref (a 9)]) ⟨hx, hb, hml, hown, hts⟩ (c_X3_renumbered l dC dI cI cZ cJ a nk pa fa nc fo th tg n gb ge gk gt nu ub ue uk ut re ro fu bl go ra rc ex tc es wy (T 0 z) w (by omega) (by first | assumption | omega) (by first | assumption | omega)) (cwV 1 hts gX3_sweepTable_X3_renumbered rfl rfl rfl (by decide +kernel) ⟨Nat.le_of_ble_eq_true rfl, Nat.le_of_ble_eq_true rfl⟩) ⟨zPre_blind, va_recv hK hP (ci := 3) (q0 := 0) rfl rfl, zPre_at hP hK hn⟩ rfl rfl hl.1 rfl (lv_room (Nat.le_of_ble_eq_true rfl)) dX3_sweepTable_32 ⟨Nat.le_of_ble_eq_true rfl, Nat.le_of_ble_eq_true rfl⟩) hS (fun _ _ h => h.elim) (fun _ h => h.elim) (fun r_2 u_9 t H locs ht hvm hw hB hz1 hk1 hS => ?_)
        have hP := zkeep hP hk1
        subst hw
        refine va_iast hx hb hK hP hD hS 9 0 rfl rfl (vp_in_nI (n := z) (by omega) (by decide)) dX3_sweepTable_35 (fun H locs hP hD hS => ?_)
        rw [nI_clamp (n := z) (by omega)] at hP hD
        have hP : va_P (dC, dI) vwCl (w3 a cI cZ nk pa fa nc fo th tg n (upd gb z (nI ((T 0 z) - w (T 0 z)))) ge gk gt nu ub ue uk ut re ro fu bl go ra rc ex tc es wy) H := hP
        have hD : va_D A (w3 a cI cZ nk pa fa nc fo th tg n (upd gb z (nI ((T 0 z) - w (T 0 z)))) ge gk gt nu ub ue uk ut re ro fu bl go ra rc ex tc es wy) := hD
        refine lv_aload_n hx hb dX3_sweepTable_36 rfl (lv_at hl 0 rfl) ?_
        refine va_get (D := (dC, dI)) (ci := 3) (v := .ref (a 8)) (C := RX3) (T := TX3) (N := 15) hx hb hts (by decide +kernel) hown hK hP 0 rfl rfl 2 (by decide) (hts (.fieldLink RX3 26 "HandlerOptimizer" "table" "LHandlerOptimizer$Table;") (by decide +kernel)) (fun _ h9 => h9) rfl dX3_sweepTable_37 ?_
        refine va_getN (D := (dC, dI)) (ci := 2) (v := .ref (a 10)) (C := RX2) (T := TX2) (N := 5) hx hb hts (by decide +kernel) hown hK hP 8 rfl rfl 1 (by decide) (va_Nw.use rfl (hn (.fieldLinkNest RX3 138 "HandlerOptimizer$Table" "ends" "[I" "HandlerOptimizer") (by decide +kernel))) (fun _ h9 => h9) rfl dX3_sweepTable_40 ?_
        refine lv_iload_n hx hb dX3_sweepTable_43 rfl (lv_at hl 1 rfl) ?_
        refine lv_aload_n hx hb dX3_sweepTable_44 rfl (lv_at hl 0 rfl) ?_
        refine lv_aload_n hx hb dX3_sweepTable_45 rfl (lv_at hl 0 rfl) ?_
        refine va_get (D := (dC, dI)) (ci := 3) (v := .ref (a 8)) (C := RX3) (T := TX3) (N := 15) hx hb hts (by decide +kernel) hown hK hP 0 rfl rfl 2 (by decide) (hts (.fieldLink RX3 26 "HandlerOptimizer" "table" "LHandlerOptimizer$Table;") (by decide +kernel)) (fun _ h9 => h9) rfl dX3_sweepTable_46 ?_
        refine va_getN (D := (dC, dI)) (ci := 2) (v := .ref (a 10)) (C := RX2) (T := TX2) (N := 5) hx hb hts (by decide +kernel) hown hK hP 8 rfl rfl 1 (by decide) (va_Nw.use rfl (hn (.fieldLinkNest RX3 138 "HandlerOptimizer$Table" "ends" "[I" "HandlerOptimizer") (by decide +kernel))) (fun _ h9 => h9) rfl dX3_sweepTable_49 ?_
        refine lv_iload_n hx hb dX3_sweepTable_52 rfl (lv_at hl 1 rfl) ?_
        refine va_iald hx hb hK hP 10 0 rfl rfl (vp_in_nI (n := z) (by omega) (by decide)) dX3_sweepTable_53 ?_
        refine zz_top (y := ge z) (congrArg _ (nI_clamp (by omega))) ?_
        refine zz_top (y := nI (T 1 z)) (hz9.2.1) ?_
        refine va_calli (va_runV (As := [.int (nI (T 1 z))]) (rest := [.int (nI z), .ref (a 10)]) ⟨hx, hb, hml, hown, hts⟩ (c_X3_renumbered l dC dI cI cZ cJ a nk pa fa nc fo th tg n (upd gb z (nI ((T 0 z) - w (T 0 z)))) ge gk gt nu ub ue uk ut re ro fu bl go ra rc ex tc es wy (T 1 z) w (by omega) (by first | assumption | omega) (by first | assumption | omega)) (cwV 1 hts gX3_sweepTable_X3_renumbered rfl rfl rfl (by decide +kernel) ⟨Nat.le_of_ble_eq_true rfl, Nat.le_of_ble_eq_true rfl⟩) ⟨zPre_blind, va_recv hK hP (ci := 3) (q0 := 0) rfl rfl, zPre_at hP hK hn⟩ rfl rfl hl.1 rfl (lv_room (Nat.le_of_ble_eq_true rfl)) dX3_sweepTable_54 ⟨Nat.le_of_ble_eq_true rfl, Nat.le_of_ble_eq_true rfl⟩) hS (fun _ _ h => h.elim) (fun _ h => h.elim) (fun r_3 u_9 t H locs ht hvm hw hB hz1 hk1 hS => ?_)
        have hP := zkeep hP hk1
        subst hw
        refine va_iast hx hb hK hP hD hS 10 0 rfl rfl (vp_in_nI (n := z) (by omega) (by decide)) dX3_sweepTable_57 (fun H locs hP hD hS => ?_)
        rw [nI_clamp (n := z) (by omega)] at hP hD
        have hP : va_P (dC, dI) vwCl (w3 a cI cZ nk pa fa nc fo th tg n (upd gb z (nI ((T 0 z) - w (T 0 z)))) (upd ge z (nI ((T 1 z) - w (T 1 z)))) gk gt nu ub ue uk ut re ro fu bl go ra rc ex tc es wy) H := hP
        have hD : va_D A (w3 a cI cZ nk pa fa nc fo th tg n (upd gb z (nI ((T 0 z) - w (T 0 z)))) (upd ge z (nI ((T 1 z) - w (T 1 z)))) gk gt nu ub ue uk ut re ro fu bl go ra rc ex tc es wy) := hD
        refine lv_aload_n hx hb dX3_sweepTable_58 rfl (lv_at hl 0 rfl) ?_
        refine va_get (D := (dC, dI)) (ci := 3) (v := .ref (a 8)) (C := RX3) (T := TX3) (N := 15) hx hb hts (by decide +kernel) hown hK hP 0 rfl rfl 2 (by decide) (hts (.fieldLink RX3 26 "HandlerOptimizer" "table" "LHandlerOptimizer$Table;") (by decide +kernel)) (fun _ h9 => h9) rfl dX3_sweepTable_59 ?_
        refine va_getN (D := (dC, dI)) (ci := 2) (v := .ref (a 12)) (C := RX2) (T := TX2) (N := 5) hx hb hts (by decide +kernel) hown hK hP 8 rfl rfl 3 (by decide) (va_Nw.use rfl (hn (.fieldLinkNest RX3 143 "HandlerOptimizer$Table" "targets" "[I" "HandlerOptimizer") (by decide +kernel))) (fun _ h9 => h9) rfl dX3_sweepTable_62 ?_
        refine lv_iload_n hx hb dX3_sweepTable_65 rfl (lv_at hl 1 rfl) ?_
        refine lv_aload_n hx hb dX3_sweepTable_66 rfl (lv_at hl 0 rfl) ?_
        refine lv_aload_n hx hb dX3_sweepTable_67 rfl (lv_at hl 0 rfl) ?_
        refine va_get (D := (dC, dI)) (ci := 3) (v := .ref (a 8)) (C := RX3) (T := TX3) (N := 15) hx hb hts (by decide +kernel) hown hK hP 0 rfl rfl 2 (by decide) (hts (.fieldLink RX3 26 "HandlerOptimizer" "table" "LHandlerOptimizer$Table;") (by decide +kernel)) (fun _ h9 => h9) rfl dX3_sweepTable_68 ?_
        refine va_getN (D := (dC, dI)) (ci := 2) (v := .ref (a 12)) (C := RX2) (T := TX2) (N := 5) hx hb hts (by decide +kernel) hown hK hP 8 rfl rfl 3 (by decide) (va_Nw.use rfl (hn (.fieldLinkNest RX3 143 "HandlerOptimizer$Table" "targets" "[I" "HandlerOptimizer") (by decide +kernel))) (fun _ h9 => h9) rfl dX3_sweepTable_71 ?_
        refine lv_iload_n hx hb dX3_sweepTable_74 rfl (lv_at hl 1 rfl) ?_
        refine va_iald hx hb hK hP 12 0 rfl rfl (vp_in_nI (n := z) (by omega) (by decide)) dX3_sweepTable_75 ?_
        refine zz_top (y := gt z) (congrArg _ (nI_clamp (by omega))) ?_
        refine zz_top (y := nI (T 3 z)) (hz9.2.2.2) ?_
        refine va_calli (va_runV (As := [.int (nI (T 3 z))]) (rest := [.int (nI z), .ref (a 12)]) ⟨hx, hb, hml, hown, hts⟩ (c_X3_renumbered l dC dI cI cZ cJ a nk pa fa nc fo th tg n (upd gb z (nI ((T 0 z) - w (T 0 z)))) (upd ge z (nI ((T 1 z) - w (T 1 z)))) gk gt nu ub ue uk ut re ro fu bl go ra rc ex tc es wy (T 3 z) w (by omega) (by first | assumption | omega) (by first | assumption | omega)) (cwV 1 hts gX3_sweepTable_X3_renumbered rfl rfl rfl (by decide +kernel) ⟨Nat.le_of_ble_eq_true rfl, Nat.le_of_ble_eq_true rfl⟩) ⟨zPre_blind, va_recv hK hP (ci := 3) (q0 := 0) rfl rfl, zPre_at hP hK hn⟩ rfl rfl hl.1 rfl (lv_room (Nat.le_of_ble_eq_true rfl)) dX3_sweepTable_76 ⟨Nat.le_of_ble_eq_true rfl, Nat.le_of_ble_eq_true rfl⟩) hS (fun _ _ h => h.elim) (fun _ h => h.elim) (fun r_4 u_9 t H locs ht hvm hw hB hz1 hk1 hS => ?_)
        have hP := zkeep hP hk1
        subst hw
        refine va_iast hx hb hK hP hD hS 12 0 rfl rfl (vp_in_nI (n := z) (by omega) (by decide)) dX3_sweepTable_79 (fun H locs hP hD hS => ?_)
        rw [nI_clamp (n := z) (by omega)] at hP hD
        have hP : va_P (dC, dI) vwCl (w3 a cI cZ nk pa fa nc fo th tg n (upd gb z (nI ((T 0 z) - w (T 0 z)))) (upd ge z (nI ((T 1 z) - w (T 1 z)))) gk (upd gt z (nI ((T 3 z) - w (T 3 z)))) nu ub ue uk ut re ro fu bl go ra rc ex tc es wy) H := hP
        have hD : va_D A (w3 a cI cZ nk pa fa nc fo th tg n (upd gb z (nI ((T 0 z) - w (T 0 z)))) (upd ge z (nI ((T 1 z) - w (T 1 z)))) gk (upd gt z (nI ((T 3 z) - w (T 3 z)))) nu ub ue uk ut re ro fu bl go ra rc ex tc es wy) := hD
        refine lv_aload_n hx hb dX3_sweepTable_80 rfl (lv_at hl 0 rfl) ?_
        refine va_get (D := (dC, dI)) (ci := 3) (v := .ref (a 8)) (C := RX3) (T := TX3) (N := 15) hx hb hts (by decide +kernel) hown hK hP 0 rfl rfl 2 (by decide) (hts (.fieldLink RX3 26 "HandlerOptimizer" "table" "LHandlerOptimizer$Table;") (by decide +kernel)) (fun _ h9 => h9) rfl dX3_sweepTable_81 ?_
        refine va_getN (D := (dC, dI)) (ci := 2) (v := .ref (a 9)) (C := RX2) (T := TX2) (N := 5) hx hb hts (by decide +kernel) hown hK hP 8 rfl rfl 0 (by decide) (va_Nw.use rfl (hn (.fieldLinkNest RX3 135 "HandlerOptimizer$Table" "begins" "[I" "HandlerOptimizer") (by decide +kernel))) (fun _ h9 => h9) rfl dX3_sweepTable_84 ?_
        refine lv_iload_n hx hb dX3_sweepTable_87 rfl (lv_at hl 1 rfl) ?_
        refine va_iald hx hb hK hP 9 0 rfl rfl (vp_in_nI (n := z) (by omega) (by decide)) dX3_sweepTable_88 ?_
        refine zz_top (y := (upd gb z (nI ((T 0 z) - w (T 0 z)))) z) (congrArg _ (nI_clamp (by omega))) ?_
        refine zz_top (y := nI (T 0 z - w (T 0 z))) (by simp [upd]) ?_
        refine lv_aload_n hx hb dX3_sweepTable_89 rfl (lv_at hl 0 rfl) ?_
        refine va_get (D := (dC, dI)) (ci := 3) (v := .ref (a 8)) (C := RX3) (T := TX3) (N := 15) hx hb hts (by decide +kernel) hown hK hP 0 rfl rfl 2 (by decide) (hts (.fieldLink RX3 26 "HandlerOptimizer" "table" "LHandlerOptimizer$Table;") (by decide +kernel)) (fun _ h9 => h9) rfl dX3_sweepTable_90 ?_
        refine va_getN (D := (dC, dI)) (ci := 2) (v := .ref (a 10)) (C := RX2) (T := TX2) (N := 5) hx hb hts (by decide +kernel) hown hK hP 8 rfl rfl 1 (by decide) (va_Nw.use rfl (hn (.fieldLinkNest RX3 138 "HandlerOptimizer$Table" "ends" "[I" "HandlerOptimizer") (by decide +kernel))) (fun _ h9 => h9) rfl dX3_sweepTable_93 ?_
        refine lv_iload_n hx hb dX3_sweepTable_96 rfl (lv_at hl 1 rfl) ?_
        refine va_iald hx hb hK hP 10 0 rfl rfl (vp_in_nI (n := z) (by omega) (by decide)) dX3_sweepTable_97 ?_
        refine zz_top (y := (upd ge z (nI ((T 1 z) - w (T 1 z)))) z) (congrArg _ (nI_clamp (by omega))) ?_
        refine zz_top (y := nI (T 1 z - w (T 1 z))) (by simp [upd]) ?_
        refine lv_icmp_lt (tgt := 109) hx hb dX3_sweepTable_98 (by decide) (fun c_5 => ?_) (fun c_5 => ?_)
        · skip
          have c9 := (zz_ltt (a := T 0 z - w (T 0 z)) (b := T 1 z - w (T 1 z)) (by omega) (by omega)).mp c_5
          obtain ⟨D9, hD9e⟩ : ∃ q, q = D := ⟨_, rfl⟩
          have hr8 := hrn
          rw [← hD9e] at hr8
          have ho8 : okT nk n D9 := by rw [hD9e]; exact ho
          have hd8 : ∀ e, e < z → ∀ f, D9 f e = rnT w T f e := by rw [hD9e]; exact fun e he => hd e (by omega)
          have hq8 : swT w T nt = dlp (fun e => decide (rnT w T 0 e < rnT w T 1 e)) z (D9, n) := by rw [hq, hD9e]; simp only [dlp]; rw [if_pos (decide_eq_true (by simpa [rnT] using c9))]
          refine lv_iinc (v := nI z - 1) (lv' := [(1, .int (nI z - 1)), (0, .ref (a 0))]) hx hb dX3_sweepTable_109 hl (k := 1) rfl (zz_decm z) (by decide) rfl (fun ls hl => ?_)
          refine lv_goto (tgt := 10) hx hb dX3_sweepTable_112 (by decide) ?_
          exact ih_10 z n (upd gb z (nI ((T 0 z) - w (T 0 z)))) (upd ge z (nI ((T 1 z) - w (T 1 z)))) gk (upd gt z (nI ((T 3 z) - w (T 3 z)))) D9 _ _ _ (by omega) (by omega) hr8 ho8 hd8 hq8 (by omega) hP hD hS (lv_sub hl [1, 0] rfl)
        · skip
          have c9 := (zz_ltf (a := T 0 z - w (T 0 z)) (b := T 1 z - w (T 1 z)) (by omega) (by omega)).mp c_5
          refine lv_aload_n hx hb dX3_sweepTable_101 rfl (lv_at hl 0 rfl) ?_
          refine va_get (D := (dC, dI)) (ci := 3) (v := .ref (a 8)) (C := RX3) (T := TX3) (N := 15) hx hb hts (by decide +kernel) hown hK hP 0 rfl rfl 2 (by decide) (hts (.fieldLink RX3 26 "HandlerOptimizer" "table" "LHandlerOptimizer$Table;") (by decide +kernel)) (fun _ h9 => h9) rfl dX3_sweepTable_102 ?_
          refine lv_iload_n hx hb dX3_sweepTable_105 rfl (lv_at hl 1 rfl) ?_
          have hPc := hP.sub (ws' := wT (a 8) (a 9) (a 10) (a 11) (a 12) cI n (upd gb z (nI ((T 0 z) - w (T 0 z)))) (upd ge z (nI ((T 1 z) - w (T 1 z)))) gk (upd gt z (nI ((T 3 z) - w (T 3 z))))) [8, 9, 10, 11, 12] rfl
          have hDc := hD.sub (ws' := wT (a 8) (a 9) (a 10) (a 11) (a 12) cI n (upd gb z (nI ((T 0 z) - w (T 0 z)))) (upd ge z (nI ((T 1 z) - w (T 1 z)))) gk (upd gt z (nI ((T 3 z) - w (T 3 z))))) [8, 9, 10, 11, 12] (by decide) rfl
          have hFc := va_free (wc := wT (a 8) (a 9) (a 10) (a 11) (a 12) cI n (upd gb z (nI ((T 0 z) - w (T 0 z)))) (upd ge z (nI ((T 1 z) - w (T 1 z)))) gk (upd gt z (nI ((T 3 z) - w (T 3 z))))) hD hS hA [8, 9, 10, 11, 12] rfl
          refine va_callv (va_runVN (As := [.int (nI z)]) (rest := []) ⟨hx, hb, hml, hown, hts⟩ (c_X2_delete l dC dI cI cZ cJ (a 8) (a 9) (a 10) (a 11) (a 12) n (upd gb z (nI ((T 0 z) - w (T 0 z)))) (upd ge z (nI ((T 1 z) - w (T 1 z)))) gk (upd gt z (nI ((T 3 z) - w (T 3 z)))) z (mS T D z) H.size (by omega) (by omega) (hrn)) ⟨va_cnB 1 hts gX3_sweepTable_X2_delete_n131 rfl rfl rfl (hn (.methodLinkNest RX3 131 yX2_delete "HandlerOptimizer") (by decide +kernel)) (hts (.initialized RX2) (by decide +kernel)) (by decide +kernel) ⟨Nat.le_of_ble_eq_true rfl, Nat.le_of_ble_eq_true rfl⟩, hts (.instanceMethod yX2_delete) (by decide +kernel), hts (.selects RX2 yX2_delete yX2_delete) (by decide +kernel)⟩ ⟨zWr_blind, va_recv hK hPc (ci := 2) (q0 := 0) rfl rfl, zWr_at hPc hK hn (hDc.weaken (fun _ _ _ _ => trivial))⟩ rfl rfl hl.1 rfl (lv_room (Nat.le_of_ble_eq_true rfl)) dX3_sweepTable_106 ⟨Nat.le_of_ble_eq_true rfl, Nat.le_of_ble_eq_true rfl⟩) hS (fun q _ h => hFc q h) hFc (fun u_9 t H1 locs ht hvm hw hB hz1 hk1 hS => ?_)
          obtain ⟨tb_n, te_n, tk_n, tt_n⟩ := u_9
          dsimp only at hw hB
          obtain ⟨hP1, -, hD1⟩ := hB
          rw [ht] at hP1
          obtain ⟨hP, hD⟩ := va_join (wr := [(a 0, .inr (3, [.ref (a 1), .ref (a 4), .ref (a 8), .ref (a 13), .ref (a 18), .ref (a 19), .int (nI rc), .ref (a 20), .ref (a 21), .ref (a 22), .ref (a 23), .int ex, .int tc, .int es, .long wy]))] ++ wK (a 1) (a 2) (a 3) cI nk pa fa ++ wC (a 4) (a 5) (a 6) (a 7) cI nc fo th tg ++ wT (a 13) (a 14) (a 15) (a 16) (a 17) cI nu ub ue uk ut ++ [(a 18, .inl (cZ, 48, .inl re)), (a 19, .inl (cI, 48, .inl ro)), (a 20, .inl (cI, 24, .inl fu)), (a 21, .inl (cI, 24, .inl bl)), (a 22, .inl (cI, 384, .inl go)), (a 23, .inl (cI, 49, .inl ra))]) (w1 := wT (a 8) (a 9) (a 10) (a 11) (a 12) cI (n - 1) tb_n te_n tk_n tt_n) hP hD [8, 9, 10, 11, 12] [0, 1, 2, 3, 4, 5, 6, 7, 13, 14, 15, 16, 17, 18, 19, 20, 21, 22, 23] rfl rfl (by decide) (by decide) hk1 hFc hP1 hD1
          generalize H1 = H at hP hS ⊢
          have hP := hP.sub (ws' := w3 a cI cZ nk pa fa nc fo th tg (n - 1) tb_n te_n tk_n tt_n nu ub ue uk ut re ro fu bl go ra rc ex tc es wy) [0, 1, 2, 3, 4, 5, 6, 7, 19, 20, 21, 22, 23, 8, 9, 10, 11, 12, 13, 14, 15, 16, 17, 18] rfl
          have hD := hD.sub (ws' := w3 a cI cZ nk pa fa nc fo th tg (n - 1) tb_n te_n tk_n tt_n nu ub ue uk ut re ro fu bl go ra rc ex tc es wy) [0, 1, 2, 3, 4, 5, 6, 7, 19, 20, 21, 22, 23, 8, 9, 10, 11, 12, 13, 14, 15, 16, 17, 18] (by decide) rfl
          have hP : va_P (dC, dI) vwCl (w3 a cI cZ nk pa fa nc fo th tg (n - 1) tb_n te_n tk_n tt_n nu ub ue uk ut re ro fu bl go ra rc ex tc es wy) H := hP
          have hD : va_D A (w3 a cI cZ nk pa fa nc fo th tg (n - 1) tb_n te_n tk_n tt_n nu ub ue uk ut re ro fu bl go ra rc ex tc es wy) := hD
          rw [mS_del] at hw
          obtain ⟨D9, hD9e⟩ : ∃ q, q = dT D z := ⟨_, rfl⟩
          have hr8 : rT (n - 1) tb_n te_n tk_n tt_n (mS T D9 z) := by rw [hD9e]; exact hw
          have ho8 : okT nk (n - 1) D9 := by rw [hD9e]; exact okT_del ho
          have hd8 : ∀ e, e < z → ∀ f, D9 f e = rnT w T f e := by rw [hD9e]; exact fun e he f => by simp only [dT, he, if_true]; exact hd e (by omega) f
          have hq8 : swT w T nt = dlp (fun e => decide (rnT w T 0 e < rnT w T 1 e)) z (D9, n - 1) := by rw [hq, hD9e]; simp only [dlp]; rw [if_neg (by simp [rnT]; omega)]
          refine lv_iinc (v := nI z - 1) (lv' := [(1, .int (nI z - 1)), (0, .ref (a 0))]) hx hb dX3_sweepTable_109 hl (k := 1) rfl (zz_decm z) (by decide) rfl (fun ls hl => ?_)
          refine lv_goto (tgt := 10) hx hb dX3_sweepTable_112 (by decide) ?_
          exact ih_10 z (n - 1) tb_n te_n tk_n tt_n D9 _ _ _ (by omega) (by omega) hr8 ho8 hd8 hq8 (by omega) hP hD hS (lv_sub hl [1, 0] rfl)
  exact J_10 _ nt nt tb te tk tt (rnT w T) _ _ _ (by first | assumption | omega) (by first | assumption | omega) (fun e he => by simp only [mS, he, if_true]; exact hT e he) (okT_rn hO) (fun e _ f => rfl) rfl (Nat.lt_succ_self _) hP hD hS (lv_sub hl [1, 0] rfl)

set_option maxHeartbeats 4000000 in
set_option maxRecDepth 100000 in
theorem c_X3_sweepCode (l : Launch) (dC : Nat → ClassId) (dI : Nat → Nat → Nat) (cI cZ cJ : ClassId) (a : Nat → Nat) (nk : Nat) (pa : Nat → Int32) (fa : Nat → Int32) (nc : Nat) (fo : Nat → Int32) (th : Nat → Int32) (tg : Nat → Int32) (nt : Nat) (tb : Nat → Int32) (te : Nat → Int32) (tk : Nat → Int32) (tt : Nat → Int32) (nu : Nat) (ub : Nat → Int32) (ue : Nat → Int32) (uk : Nat → Int32) (ut : Nat → Int32) (re : Nat → Int32) (ro : Nat → Int32) (fu : Nat → Int32) (bl : Nat → Int32) (go : Nat → Int32) (ra : Nat → Int32) (rc : Nat) (ex : Int32) (tc : Int32) (es : Int32) (wy : Int64) (w : Nat → Nat) (v : Nat → Bool) (sz : Nat) (hc : okC nk nc fo th tg) (hre : ∀ j, j < 48 → re j = bI (v j)) (hra : ∀ n, n ≤ 48 → ra n = nI (w n)) (hww : ∀ n, w n ≤ n) : Met l yX3_sweepCode wsX3_sweepCode ({ frames := 1, cells := 0, slots := 0, locals := 24 } : Room) (va_Pc [.ref (a 0)] (zWr (dC, dI) [(cI, .int), (cZ, .boolean), (cJ, .long)] (w3 a cI cZ nk pa fa nc fo th tg nt tb te tk tt nu ub ue uk ut re ro fu bl go ra rc ex tc es wy) sz)) (va_Qv (fun (u : Nat × (Nat → Int32) × (Nat → Int32) × (Nat → Int32)) => match u with | (nc9, fo9, th9, tg9) => (fo9, th9, tg9, nc9) = swC v w nc fo th tg ∧ okC nk nc9 fo9 th9 tg9 ∧ nc9 ≤ nc) (fun u t => match u with | (nc9, fo9, th9, tg9) => zWo (dC, dI) [(cI, .int), (cZ, .boolean), (cJ, .long)] (w3 a cI cZ nk pa fa nc9 fo9 th9 tg9 nt tb te tk tt nu ub ue uk ut re ro fu bl go ra rc ex tc es wy) (va_A (w3 a cI cZ nk pa fa nc fo th tg nt tb te tk tt nu ub ue uk ut re ro fu bl go ra rc ex tc es wy) sz) t) (va_A (w3 a cI cZ nk pa fa nc fo th tg nt tb te tk tt nu ub ue uk ut re ro fu bl go ra rc ex tc es wy) sz)) 0 0 (va_A (w3 a cI cZ nk pa fa nc fo th tg nt tb te tk tt nu ub ue uk ut re ro fu bl go ra rc ex tc es wy) sz) := by
  refine Met.ofW (cc := cX3_sweepCode) (maxL := 4) (ret := none) (by decide) rfl ?_
  intro p e s m args below meth c s₁ B hml hv
  obtain ⟨hav, hsz, ⟨hP, hK, hn⟩, hD0⟩ := hv
  have hx := B.exec
  have hb := B.bytes
  have hr := B.returns
  have hts := atoms_spec (ws := wsX3_sweepCode) B.pre
  have hown : s.vm.findClass RX3 = some m.cls := findClass_of_methodNamed B.named
  have hlocks := B.notSynchronized
  subst hsz
  have hD := hD0.self (sz := s.heap.size)
  generalize hAe : (va_A (w3 a cI cZ nk pa fa nc fo th tg nt tb te tk tt nu ub ue uk ut re ro fu bl go ra rc ex tc es wy) s.heap.size) = A at hD ⊢
  have hA : ∀ q : Nat, s.heap.size ≤ q → A q := fun q h => by rw [← hAe]; exact Or.inr h
  have hS : va_S A s.heap s.heap [] := va_S.rf
  generalize hQ : MQ below (va_Qv (fun (u : Nat × (Nat → Int32) × (Nat → Int32) × (Nat → Int32)) => match u with | (nc9, fo9, th9, tg9) => (fo9, th9, tg9, nc9) = swC v w nc fo th tg ∧ okC nk nc9 fo9 th9 tg9 ∧ nc9 ≤ nc) (fun u t => match u with | (nc9, fo9, th9, tg9) => zWo (dC, dI) [(cI, .int), (cZ, .boolean), (cJ, .long)] (w3 a cI cZ nk pa fa nc9 fo9 th9 tg9 nt tb te tk tt nu ub ue uk ut re ro fu bl go ra rc ex tc es wy) A t) A) args s 0 0 A = Q
  refine W.eq (g2 := entryFrame m ([.ref (a 0)] : List Value).toArray 4) (by rw [hav]) ?_
  have hl := lv_entry ([.ref (a 0)]) (n := 4) (Nat.le_of_ble_eq_true rfl)
  rw [lg_entry_eq]
  generalize (lg_sl ([.ref (a 0)]) ++ List.replicate (4 - (lg_sl ([.ref (a 0)])).length) Slot.unset).toArray = ls at hl ⊢
  have hl : lv_has ls 4 [(0, .ref (a 0))] := hl
  obtain ⟨H, hH⟩ : ∃ H, H = s.heap := ⟨_, rfl⟩
  obtain ⟨locs, hlo⟩ : ∃ q : List Loc, q = [] := ⟨_, rfl⟩
  have hP : va_P (dC, dI) vwCl (w3 a cI cZ nk pa fa nc fo th tg nt tb te tk tt nu ub ue uk ut re ro fu bl go ra rc ex tc es wy) H := by rw [hH]; exact hP
  have hS : va_S A s.heap H locs := by rw [hH, hlo]; exact hS
  refine zz_hl hH hlo ?_
  obtain ⟨hnc, hC⟩ := id hc
  refine lv_aload_n hx hb dX3_sweepCode_0 rfl (lv_at hl 0 rfl) ?_
  refine va_get (D := (dC, dI)) (ci := 3) (v := .ref (a 4)) (C := RX3) (T := TX3) (N := 15) hx hb hts (by decide +kernel) hown hK hP 0 rfl rfl 1 (by decide) (hts (.fieldLink RX3 19 "HandlerOptimizer" "code" "LHandlerOptimizer$Code;") (by decide +kernel)) (fun _ h9 => h9) rfl dX3_sweepCode_1 ?_
  refine va_getN (D := (dC, dI)) (ci := 0) (v := .int (nI nc)) (C := RX0) (T := TX0) (N := 4) hx hb hts (by decide +kernel) hown hK hP 4 rfl rfl 3 (by decide) (va_Nw.use rfl (hn (.fieldLinkNest RX3 99 "HandlerOptimizer$Code" "count" "I" "HandlerOptimizer") (by decide +kernel))) (fun _ h9 => h9) rfl dX3_sweepCode_4 ?_
  refine lv_istore_n (lv' := [(1, .int (nI nc)), (0, .ref (a 0))]) hx hb dX3_sweepCode_7 rfl hl (by decide) rfl (fun ls hl => ?_)
  refine lv_aload_n hx hb dX3_sweepCode_8 rfl (lv_at hl 1 rfl) ?_
  refine va_get (D := (dC, dI)) (ci := 3) (v := .ref (a 4)) (C := RX3) (T := TX3) (N := 15) hx hb hts (by decide +kernel) hown hK hP 0 rfl rfl 1 (by decide) (hts (.fieldLink RX3 19 "HandlerOptimizer" "code" "LHandlerOptimizer$Code;") (by decide +kernel)) (fun _ h9 => h9) rfl dX3_sweepCode_9 ?_
  refine lv_iconst (v := 0) hx hb dX3_sweepCode_12 (by decide) ?_
  refine va_putN (D := (dC, dI)) (ci := 0) (v := .int 0) (ty := .int) (C := RX0) (T := TX0) (N := 4) hx hb hts (by decide +kernel) tyX0 tyX0_ok nmX0 hown hK hP hD hS 4 rfl rfl 3 (by decide) (va_Nw.use rfl (hn (.fieldLinkNest RX3 99 "HandlerOptimizer$Code" "count" "I" "HandlerOptimizer") (by decide +kernel))) (fun _ h9 => h9) rfl (by decide +kernel) rfl rfl (Nat.le_of_ble_eq_true rfl) dX3_sweepCode_13 (fun H locs hP hD hS => ?_)
  have hP : va_P (dC, dI) vwCl (w3 a cI cZ nk pa fa 0 fo th tg nt tb te tk tt nu ub ue uk ut re ro fu bl go ra rc ex tc es wy) H := hP
  have hD : va_D A (w3 a cI cZ nk pa fa 0 fo th tg nt tb te tk tt nu ub ue uk ut re ro fu bl go ra rc ex tc es wy) := hD
  refine lv_iconst (v := 0) hx hb dX3_sweepCode_16 (by decide) ?_
  refine lv_istore_n (lv' := [(2, .int 0), (1, .int (nI nc)), (0, .ref (a 0))]) hx hb dX3_sweepCode_17 rfl hl (by decide) rfl (fun ls hl => ?_)
  have J_18 : ∀ (n9 : Nat) (y : Nat) (n : Nat) (gf : Nat → Int32) (gth : Nat → Int32) (gg : Nat → Int32) (H : Heap) (locs : List Loc) (ls : Array Slot), (y ≤ nc) → (swI v w nc y fo th tg gf gth gg n) → ((gf, gth, gg, n) = it (swG v w) y (fo, th, tg, 0)) → nc - y < n9 → va_P (dC, dI) vwCl (w3 a cI cZ nk pa fa n gf gth gg nt tb te tk tt nu ub ue uk ut re ro fu bl go ra rc ex tc es wy) H → va_D A (w3 a cI cZ nk pa fa n gf gth gg nt tb te tk tt nu ub ue uk ut re ro fu bl go ra rc ex tc es wy) → va_S A s.heap H locs → lv_has ls 4 [(0, .ref (a 0)), (1, .int (nI nc)), (2, .int (nI y))] → W p l e (headSpec wsX3_sweepCode ({ frames := 1, cells := 0, slots := 0, locals := 24 } : Room)).room s m args below meth c H locs 0 0 Q (F0 m 18 ls []) := by
    intro n9
    induction n9 with
    | zero => intro y n gf gth gg H locs ls hy hs hq hmu; exact absurd hmu (Nat.not_lt_zero _)
    | succ n9 ih_18 =>
      intro y n gf gth gg H locs ls hy hs hq hmu hP hD hS hl
      refine lv_iload_n hx hb dX3_sweepCode_18 rfl (lv_at hl 2 rfl) ?_
      refine lv_iload_n hx hb dX3_sweepCode_19 rfl (lv_at hl 1 rfl) ?_
      refine lv_icmp_ge (tgt := 88) hx hb dX3_sweepCode_20 (by decide) (fun c_1 => ?_) (fun c_1 => ?_)
      · skip
        have c_1 := (zz_get (a := y) (b := nc) (by omega) (by omega)).mp c_1
        rw [← hQ]
        have hP9 := hP
        have hD9 := hD
        exact W.vret hx hb hr (fun t ht hW => ⟨⟨(n, gf, gth, gg), rfl, (by
                have e9 : y = nc := by omega
                subst e9; exact ⟨hq, okC_sw hc hs, hs.1⟩), (by rw [ht]; exact hP9), va_K.moved hW.alike hK, hD9⟩, hS.F ht⟩) hS.2.2 dX3_sweepCode_88
      · skip
        have c_1 := (zz_gef (a := y) (b := nc) (by omega) (by omega)).mp c_1
        refine lv_aload_n hx hb dX3_sweepCode_23 rfl (lv_at hl 0 rfl) ?_
        refine va_get (D := (dC, dI)) (ci := 3) (v := .ref (a 18)) (C := RX3) (T := TX3) (N := 15) hx hb hts (by decide +kernel) hown hK hP 0 rfl rfl 4 (by decide) (hts (.fieldLink RX3 33 "HandlerOptimizer" "reached" "[Z") (by decide +kernel)) (fun _ h9 => h9) rfl dX3_sweepCode_24 ?_
        refine lv_iload_n hx hb dX3_sweepCode_27 rfl (lv_at hl 2 rfl) ?_
        refine va_zald hx hb hK hP 18 1 rfl rfl (vp_in_nI (n := y) (by omega) (by decide)) dX3_sweepCode_28 ?_
        refine zz_top (y := re y) (congrArg _ (nI_clamp (by omega))) ?_
        refine zz_top (y := bI (v y)) (hre y (by omega)) ?_
        refine lv_if_eq (tgt := 82) hx hb dX3_sweepCode_29 (by decide) (fun c_2 => ?_) (fun c_2 => ?_)
        · skip
          have c9 := zb_0.mp c_2
          refine lv_iinc (v := nI (y + 1)) (lv' := [(2, .int (nI (y + 1))), (0, .ref (a 0)), (1, .int (nI nc))]) hx hb dX3_sweepCode_82 hl (k := 2) rfl (zz_inc y 1) (by decide) rfl (fun ls hl => ?_)
          refine lv_goto (tgt := 18) hx hb dX3_sweepCode_85 (by decide) ?_
          exact ih_18 (y + 1) n gf gth gg _ _ _ (by first | assumption | omega) (by first | exact swI_0 hs | (rw [ht9]; exact swI_s hs (by omega))) (by simp only [it]; rw [← hq]; simp [swG, *]) (by omega) hP hD hS (lv_sub hl [1, 2, 0] rfl)
        · skip
          have c9 := zb_1.mp c_2
          have hn8 := hs.1
          have hgy := (hs.2.1 y (Nat.le_refl _)).2.2
          refine lv_aload_n hx hb dX3_sweepCode_32 rfl (lv_at hl 0 rfl) ?_
          refine va_get (D := (dC, dI)) (ci := 3) (v := .ref (a 4)) (C := RX3) (T := TX3) (N := 15) hx hb hts (by decide +kernel) hown hK hP 0 rfl rfl 1 (by decide) (hts (.fieldLink RX3 19 "HandlerOptimizer" "code" "LHandlerOptimizer$Code;") (by decide +kernel)) (fun _ h9 => h9) rfl dX3_sweepCode_33 ?_
          refine va_getN (D := (dC, dI)) (ci := 0) (v := .ref (a 7)) (C := RX0) (T := TX0) (N := 4) hx hb hts (by decide +kernel) hown hK hP 4 rfl rfl 2 (by decide) (va_Nw.use rfl (hn (.fieldLinkNest RX3 109 "HandlerOptimizer$Code" "targets" "[I" "HandlerOptimizer") (by decide +kernel))) (fun _ h9 => h9) rfl dX3_sweepCode_36 ?_
          refine lv_iload_n hx hb dX3_sweepCode_39 rfl (lv_at hl 2 rfl) ?_
          refine va_iald hx hb hK hP 7 0 rfl rfl (vp_in_nI (n := y) (by omega) (by decide)) dX3_sweepCode_40 ?_
          refine zz_top (y := gg y) (congrArg _ (nI_clamp (by omega))) ?_
          refine lv_istore_n (lv' := [(3, .int (gg y)), (0, .ref (a 0)), (1, .int (nI nc)), (2, .int (nI y))]) hx hb dX3_sweepCode_41 rfl hl (by decide) rfl (fun ls hl => ?_)
          refine lv_aload_n hx hb dX3_sweepCode_42 rfl (lv_at hl 1 rfl) ?_
          refine va_get (D := (dC, dI)) (ci := 3) (v := .ref (a 4)) (C := RX3) (T := TX3) (N := 15) hx hb hts (by decide +kernel) hown hK hP 0 rfl rfl 1 (by decide) (hts (.fieldLink RX3 19 "HandlerOptimizer" "code" "LHandlerOptimizer$Code;") (by decide +kernel)) (fun _ h9 => h9) rfl dX3_sweepCode_43 ?_
          refine lv_aload_n hx hb dX3_sweepCode_46 rfl (lv_at hl 1 rfl) ?_
          refine va_get (D := (dC, dI)) (ci := 3) (v := .ref (a 4)) (C := RX3) (T := TX3) (N := 15) hx hb hts (by decide +kernel) hown hK hP 0 rfl rfl 1 (by decide) (hts (.fieldLink RX3 19 "HandlerOptimizer" "code" "LHandlerOptimizer$Code;") (by decide +kernel)) (fun _ h9 => h9) rfl dX3_sweepCode_47 ?_
          refine va_getN (D := (dC, dI)) (ci := 0) (v := .ref (a 5)) (C := RX0) (T := TX0) (N := 4) hx hb hts (by decide +kernel) hown hK hP 4 rfl rfl 0 (by decide) (va_Nw.use rfl (hn (.fieldLinkNest RX3 103 "HandlerOptimizer$Code" "forms" "[I" "HandlerOptimizer") (by decide +kernel))) (fun _ h9 => h9) rfl dX3_sweepCode_50 ?_
          refine lv_iload_n hx hb dX3_sweepCode_53 rfl (lv_at hl 3 rfl) ?_
          refine va_iald hx hb hK hP 5 0 rfl rfl (vp_in_nI (n := y) (by omega) (by decide)) dX3_sweepCode_54 ?_
          refine zz_top (y := gf y) (congrArg _ (nI_clamp (by omega))) ?_
          refine lv_aload_n hx hb dX3_sweepCode_55 rfl (lv_at hl 1 rfl) ?_
          refine va_get (D := (dC, dI)) (ci := 3) (v := .ref (a 4)) (C := RX3) (T := TX3) (N := 15) hx hb hts (by decide +kernel) hown hK hP 0 rfl rfl 1 (by decide) (hts (.fieldLink RX3 19 "HandlerOptimizer" "code" "LHandlerOptimizer$Code;") (by decide +kernel)) (fun _ h9 => h9) rfl dX3_sweepCode_56 ?_
          refine va_getN (D := (dC, dI)) (ci := 0) (v := .ref (a 6)) (C := RX0) (T := TX0) (N := 4) hx hb hts (by decide +kernel) hown hK hP 4 rfl rfl 1 (by decide) (va_Nw.use rfl (hn (.fieldLinkNest RX3 106 "HandlerOptimizer$Code" "thrown" "[I" "HandlerOptimizer") (by decide +kernel))) (fun _ h9 => h9) rfl dX3_sweepCode_59 ?_
          refine lv_iload_n hx hb dX3_sweepCode_62 rfl (lv_at hl 3 rfl) ?_
          refine va_iald hx hb hK hP 6 0 rfl rfl (vp_in_nI (n := y) (by omega) (by decide)) dX3_sweepCode_63 ?_
          refine zz_top (y := gth y) (congrArg _ (nI_clamp (by omega))) ?_
          refine lv_iload_n hx hb dX3_sweepCode_64 rfl (lv_at hl 0 rfl) ?_
          refine lv_iconst (v := -1) hx hb dX3_sweepCode_65 (by decide) ?_
          refine lv_icmp_ne (tgt := 73) hx hb dX3_sweepCode_66 (by decide) (fun c_3 => ?_) (fun c_3 => ?_)
          · skip
            obtain ⟨t9, ht8, ht7⟩ : ∃ t9, t9 < 48 ∧ gg y = nI t9 := by
              rcases (hC y (by omega)).1 with ⟨-, q⟩ | ⟨-, t9, q1, q2⟩
              · exact absurd (hgy.trans q) c_3
              · exact ⟨t9, q1, hgy.trans q2⟩
            have ht9 : nI (t9 - w t9) = tgr w (gg y) := by rw [ht7]; exact tgr_at (by omega)
            refine lv_aload_n hx hb dX3_sweepCode_73 rfl (lv_at hl 1 rfl) ?_
            refine lv_iload_n hx hb dX3_sweepCode_74 rfl (lv_at hl 0 rfl) ?_
            refine zz_top (y := nI t9) (ht7) ?_
            refine va_calli (va_runV (As := [.int (nI t9)]) (rest := [.int (gth y), .int (gf y), .ref (a 4)]) ⟨hx, hb, hml, hown, hts⟩ (c_X3_renumbered l dC dI cI cZ cJ a nk pa fa n gf gth gg nt tb te tk tt nu ub ue uk ut re ro fu bl go ra rc ex tc es wy t9 w (by omega) (by first | assumption | omega) (by first | assumption | omega)) (cwV 1 hts gX3_sweepCode_X3_renumbered rfl rfl rfl (by decide +kernel) ⟨Nat.le_of_ble_eq_true rfl, Nat.le_of_ble_eq_true rfl⟩) ⟨zPre_blind, va_recv hK hP (ci := 3) (q0 := 0) rfl rfl, zPre_at hP hK hn⟩ rfl rfl hl.1 rfl (lv_room (Nat.le_of_ble_eq_true rfl)) dX3_sweepCode_75 ⟨Nat.le_of_ble_eq_true rfl, Nat.le_of_ble_eq_true rfl⟩) hS (fun _ _ h => h.elim) (fun _ h => h.elim) (fun r_4 u_9 t H locs ht hvm hw hB hz1 hk1 hS => ?_)
            have hP := zkeep hP hk1
            subst hw
            have hPc := hP.sub (ws' := wC (a 4) (a 5) (a 6) (a 7) cI n gf gth gg) [4, 5, 6, 7] rfl
            have hDc := hD.sub (ws' := wC (a 4) (a 5) (a 6) (a 7) cI n gf gth gg) [4, 5, 6, 7] (by decide) rfl
            have hFc := va_free (wc := wC (a 4) (a 5) (a 6) (a 7) cI n gf gth gg) hD hS hA [4, 5, 6, 7] rfl
            refine va_calli (va_runVN (As := [.int (gf y), .int (gth y), .int (nI (t9 - w t9))]) (rest := []) ⟨hx, hb, hml, hown, hts⟩ (c_X0_append l dC dI cI cZ cJ (a 4) (a 5) (a 6) (a 7) n gf gth gg (gf y) (gth y) (nI (t9 - w t9)) H.size (by omega)) ⟨va_cnB 3 hts gX3_sweepCode_X0_append_n93 rfl rfl rfl (hn (.methodLinkNest RX3 93 yX0_append "HandlerOptimizer") (by decide +kernel)) (hts (.initialized RX0) (by decide +kernel)) (by decide +kernel) ⟨Nat.le_of_ble_eq_true rfl, Nat.le_of_ble_eq_true rfl⟩, hts (.instanceMethod yX0_append) (by decide +kernel), hts (.selects RX0 yX0_append yX0_append) (by decide +kernel)⟩ ⟨zWr_blind, va_recv hK hPc (ci := 0) (q0 := 0) rfl rfl, zWr_at hPc hK hn (hDc.weaken (fun _ _ _ _ => trivial))⟩ rfl rfl hl.1 rfl (lv_room (Nat.le_of_ble_eq_true rfl)) dX3_sweepCode_78 ⟨Nat.le_of_ble_eq_true rfl, Nat.le_of_ble_eq_true rfl⟩) hS (fun q _ h => hFc q h) hFc (fun r_5 u_9 t H1 locs ht hvm hw hB hz1 hk1 hS => ?_)
            obtain ⟨hP1, -, hD1⟩ := hB
            rw [ht] at hP1
            obtain ⟨hP, hD⟩ := va_join (wr := [(a 0, .inr (3, [.ref (a 1), .ref (a 4), .ref (a 8), .ref (a 13), .ref (a 18), .ref (a 19), .int (nI rc), .ref (a 20), .ref (a 21), .ref (a 22), .ref (a 23), .int ex, .int tc, .int es, .long wy]))] ++ wK (a 1) (a 2) (a 3) cI nk pa fa ++ wT (a 8) (a 9) (a 10) (a 11) (a 12) cI nt tb te tk tt ++ wT (a 13) (a 14) (a 15) (a 16) (a 17) cI nu ub ue uk ut ++ [(a 18, .inl (cZ, 48, .inl re)), (a 19, .inl (cI, 48, .inl ro)), (a 20, .inl (cI, 24, .inl fu)), (a 21, .inl (cI, 24, .inl bl)), (a 22, .inl (cI, 384, .inl go)), (a 23, .inl (cI, 49, .inl ra))]) (w1 := wC (a 4) (a 5) (a 6) (a 7) cI (n + 1) (upd gf n (gf y)) (upd gth n (gth y)) (upd gg n (nI (t9 - w t9)))) hP hD [4, 5, 6, 7] [0, 1, 2, 3, 8, 9, 10, 11, 12, 13, 14, 15, 16, 17, 18, 19, 20, 21, 22, 23] rfl rfl (by decide) (by decide) hk1 hFc hP1 hD1
            generalize H1 = H at hP hS ⊢
            have hP := hP.sub (ws' := w3 a cI cZ nk pa fa (n + 1) (upd gf n (gf y)) (upd gth n (gth y)) (upd gg n (nI (t9 - w t9))) nt tb te tk tt nu ub ue uk ut re ro fu bl go ra rc ex tc es wy) [0, 1, 2, 3, 20, 21, 22, 23, 4, 5, 6, 7, 8, 9, 10, 11, 12, 13, 14, 15, 16, 17, 18, 19] rfl
            have hD := hD.sub (ws' := w3 a cI cZ nk pa fa (n + 1) (upd gf n (gf y)) (upd gth n (gth y)) (upd gg n (nI (t9 - w t9))) nt tb te tk tt nu ub ue uk ut re ro fu bl go ra rc ex tc es wy) [0, 1, 2, 3, 20, 21, 22, 23, 4, 5, 6, 7, 8, 9, 10, 11, 12, 13, 14, 15, 16, 17, 18, 19] (by decide) rfl
            have hP : va_P (dC, dI) vwCl (w3 a cI cZ nk pa fa (n + 1) (upd gf n (gf y)) (upd gth n (gth y)) (upd gg n (nI (t9 - w t9))) nt tb te tk tt nu ub ue uk ut re ro fu bl go ra rc ex tc es wy) H := hP
            have hD : va_D A (w3 a cI cZ nk pa fa (n + 1) (upd gf n (gf y)) (upd gth n (gth y)) (upd gg n (nI (t9 - w t9))) nt tb te tk tt nu ub ue uk ut re ro fu bl go ra rc ex tc es wy) := hD
            subst hw
            refine lv_pop hx hb dX3_sweepCode_81 rfl ?_
            refine lv_iinc (v := nI (y + 1)) (lv' := [(2, .int (nI (y + 1))), (3, .int (gg y)), (0, .ref (a 0)), (1, .int (nI nc))]) hx hb dX3_sweepCode_82 hl (k := 3) rfl (zz_inc y 1) (by decide) rfl (fun ls hl => ?_)
            refine lv_goto (tgt := 18) hx hb dX3_sweepCode_85 (by decide) ?_
            exact ih_18 (y + 1) (n + 1) (upd gf n (gf y)) (upd gth n (gth y)) (upd gg n (nI (t9 - w t9))) _ _ _ (by first | assumption | omega) (by first | exact swI_0 hs | (rw [ht9]; exact swI_s hs (by omega))) (by simp only [it]; rw [← hq]; simp [swG, *]) (by omega) hP hD hS (lv_sub hl [2, 3, 0] rfl)
          · skip
            have ht9 : -1 = tgr w (gg y) := tgr_m1 c_3
            refine lv_iconst (v := -1) hx hb dX3_sweepCode_69 (by decide) ?_
            refine lv_goto (tgt := 78) hx hb dX3_sweepCode_70 (by decide) ?_
            have hPc := hP.sub (ws' := wC (a 4) (a 5) (a 6) (a 7) cI n gf gth gg) [4, 5, 6, 7] rfl
            have hDc := hD.sub (ws' := wC (a 4) (a 5) (a 6) (a 7) cI n gf gth gg) [4, 5, 6, 7] (by decide) rfl
            have hFc := va_free (wc := wC (a 4) (a 5) (a 6) (a 7) cI n gf gth gg) hD hS hA [4, 5, 6, 7] rfl
            refine va_calli (va_runVN (As := [.int (gf y), .int (gth y), .int (-1)]) (rest := []) ⟨hx, hb, hml, hown, hts⟩ (c_X0_append l dC dI cI cZ cJ (a 4) (a 5) (a 6) (a 7) n gf gth gg (gf y) (gth y) (-1) H.size (by omega)) ⟨va_cnB 3 hts gX3_sweepCode_X0_append_n93 rfl rfl rfl (hn (.methodLinkNest RX3 93 yX0_append "HandlerOptimizer") (by decide +kernel)) (hts (.initialized RX0) (by decide +kernel)) (by decide +kernel) ⟨Nat.le_of_ble_eq_true rfl, Nat.le_of_ble_eq_true rfl⟩, hts (.instanceMethod yX0_append) (by decide +kernel), hts (.selects RX0 yX0_append yX0_append) (by decide +kernel)⟩ ⟨zWr_blind, va_recv hK hPc (ci := 0) (q0 := 0) rfl rfl, zWr_at hPc hK hn (hDc.weaken (fun _ _ _ _ => trivial))⟩ rfl rfl hl.1 rfl (lv_room (Nat.le_of_ble_eq_true rfl)) dX3_sweepCode_78 ⟨Nat.le_of_ble_eq_true rfl, Nat.le_of_ble_eq_true rfl⟩) hS (fun q _ h => hFc q h) hFc (fun r_6 u_9 t H1 locs ht hvm hw hB hz1 hk1 hS => ?_)
            obtain ⟨hP1, -, hD1⟩ := hB
            rw [ht] at hP1
            obtain ⟨hP, hD⟩ := va_join (wr := [(a 0, .inr (3, [.ref (a 1), .ref (a 4), .ref (a 8), .ref (a 13), .ref (a 18), .ref (a 19), .int (nI rc), .ref (a 20), .ref (a 21), .ref (a 22), .ref (a 23), .int ex, .int tc, .int es, .long wy]))] ++ wK (a 1) (a 2) (a 3) cI nk pa fa ++ wT (a 8) (a 9) (a 10) (a 11) (a 12) cI nt tb te tk tt ++ wT (a 13) (a 14) (a 15) (a 16) (a 17) cI nu ub ue uk ut ++ [(a 18, .inl (cZ, 48, .inl re)), (a 19, .inl (cI, 48, .inl ro)), (a 20, .inl (cI, 24, .inl fu)), (a 21, .inl (cI, 24, .inl bl)), (a 22, .inl (cI, 384, .inl go)), (a 23, .inl (cI, 49, .inl ra))]) (w1 := wC (a 4) (a 5) (a 6) (a 7) cI (n + 1) (upd gf n (gf y)) (upd gth n (gth y)) (upd gg n (-1))) hP hD [4, 5, 6, 7] [0, 1, 2, 3, 8, 9, 10, 11, 12, 13, 14, 15, 16, 17, 18, 19, 20, 21, 22, 23] rfl rfl (by decide) (by decide) hk1 hFc hP1 hD1
            generalize H1 = H at hP hS ⊢
            have hP := hP.sub (ws' := w3 a cI cZ nk pa fa (n + 1) (upd gf n (gf y)) (upd gth n (gth y)) (upd gg n (-1)) nt tb te tk tt nu ub ue uk ut re ro fu bl go ra rc ex tc es wy) [0, 1, 2, 3, 20, 21, 22, 23, 4, 5, 6, 7, 8, 9, 10, 11, 12, 13, 14, 15, 16, 17, 18, 19] rfl
            have hD := hD.sub (ws' := w3 a cI cZ nk pa fa (n + 1) (upd gf n (gf y)) (upd gth n (gth y)) (upd gg n (-1)) nt tb te tk tt nu ub ue uk ut re ro fu bl go ra rc ex tc es wy) [0, 1, 2, 3, 20, 21, 22, 23, 4, 5, 6, 7, 8, 9, 10, 11, 12, 13, 14, 15, 16, 17, 18, 19] (by decide) rfl
            have hP : va_P (dC, dI) vwCl (w3 a cI cZ nk pa fa (n + 1) (upd gf n (gf y)) (upd gth n (gth y)) (upd gg n (-1)) nt tb te tk tt nu ub ue uk ut re ro fu bl go ra rc ex tc es wy) H := hP
            have hD : va_D A (w3 a cI cZ nk pa fa (n + 1) (upd gf n (gf y)) (upd gth n (gth y)) (upd gg n (-1)) nt tb te tk tt nu ub ue uk ut re ro fu bl go ra rc ex tc es wy) := hD
            subst hw
            refine lv_pop hx hb dX3_sweepCode_81 rfl ?_
            refine lv_iinc (v := nI (y + 1)) (lv' := [(2, .int (nI (y + 1))), (3, .int (gg y)), (0, .ref (a 0)), (1, .int (nI nc))]) hx hb dX3_sweepCode_82 hl (k := 3) rfl (zz_inc y 1) (by decide) rfl (fun ls hl => ?_)
            refine lv_goto (tgt := 18) hx hb dX3_sweepCode_85 (by decide) ?_
            exact ih_18 (y + 1) (n + 1) (upd gf n (gf y)) (upd gth n (gth y)) (upd gg n (-1)) _ _ _ (by first | assumption | omega) (by first | exact swI_0 hs | (rw [ht9]; exact swI_s hs (by omega))) (by simp only [it]; rw [← hq]; simp [swG, *]) (by omega) hP hD hS (lv_sub hl [2, 3, 0] rfl)
  exact J_18 _ 0 0 fo th tg _ _ _ (by first | assumption | omega) (⟨Nat.le_refl _, fun j _ => ⟨rfl, rfl, rfl⟩, fun j hj => absurd hj (Nat.not_lt_zero j)⟩) rfl (Nat.lt_succ_self _) hP hD hS (lv_sub hl [2, 1, 0] rfl)

set_option maxHeartbeats 4000000 in
set_option maxRecDepth 100000 in
theorem c_X3_sweep (l : Launch) (dC : Nat → ClassId) (dI : Nat → Nat → Nat) (cI cZ cJ : ClassId) (a : Nat → Nat) (nk : Nat) (pa : Nat → Int32) (fa : Nat → Int32) (nc : Nat) (fo : Nat → Int32) (th : Nat → Int32) (tg : Nat → Int32) (nt : Nat) (tb : Nat → Int32) (te : Nat → Int32) (tk : Nat → Int32) (tt : Nat → Int32) (nu : Nat) (ub : Nat → Int32) (ue : Nat → Int32) (uk : Nat → Int32) (ut : Nat → Int32) (re : Nat → Int32) (ro : Nat → Int32) (fu : Nat → Int32) (bl : Nat → Int32) (go : Nat → Int32) (ra : Nat → Int32) (rc : Nat) (ex : Int32) (tc : Int32) (es : Int32) (wy : Int64) (T : Nat → Nat → Nat) (up : Nat → Nat → Bool) (sz : Nat) (hg : g3 nk fa up nt tb te tk tt T) (hc : okC nk nc fo th tg) : Met l yX3_sweep wsX3_sweep ({ frames := 4, cells := 0, slots := 0, locals := 93 } : Room) (va_Pc [.ref (a 0)] (zWr (dC, dI) [(cI, .int), (cZ, .boolean), (cJ, .long)] (w3 a cI cZ nk pa fa nc fo th tg nt tb te tk tt nu ub ue uk ut re ro fu bl go ra rc ex tc es wy) sz)) (va_Qi (fun (r : Int32) (u : (Nat → Int32) × (Nat → Int32) × Nat × (Nat → Int32) × Nat × (Nat → Int32) × (Nat → Int32) × (Nat → Int32) × (Nat → Int32) × Nat × (Nat → Int32) × (Nat → Int32) × (Nat → Int32)) => match u with | (re9, ro9, rc9, ra9, nt9, tb9, te9, tk9, tt9, nc9, fo9, th9, tg9) => r = nI (nc - (swC (RB nk nc fo th tg T nt up) (rmN (RB nk nc fo th tg T nt up) nc) nc fo th tg).2.2.2) ∧ (fo9, th9, tg9, nc9) = swC (RB nk nc fo th tg T nt up) (rmN (RB nk nc fo th tg T nt up) nc) nc fo th tg ∧ okC nk nc9 fo9 th9 tg9 ∧ nt9 = (swT (rmN (RB nk nc fo th tg T nt up) nc) T nt).2 ∧ g3 nk fa up nt9 tb9 te9 tk9 tt9 (swT (rmN (RB nk nc fo th tg T nt up) nc) T nt).1) (fun u t => match u with | (re9, ro9, rc9, ra9, nt9, tb9, te9, tk9, tt9, nc9, fo9, th9, tg9) => zWo (dC, dI) [(cI, .int), (cZ, .boolean), (cJ, .long)] (w3 a cI cZ nk pa fa nc9 fo9 th9 tg9 nt9 tb9 te9 tk9 tt9 nu ub ue uk ut re9 ro9 fu bl go ra9 rc9 ex tc es wy) (va_A (w3 a cI cZ nk pa fa nc fo th tg nt tb te tk tt nu ub ue uk ut re ro fu bl go ra rc ex tc es wy) sz) t) (va_A (w3 a cI cZ nk pa fa nc fo th tg nt tb te tk tt nu ub ue uk ut re ro fu bl go ra rc ex tc es wy) sz)) 0 0 (va_A (w3 a cI cZ nk pa fa nc fo th tg nt tb te tk tt nu ub ue uk ut re ro fu bl go ra rc ex tc es wy) sz) := by
  refine Met.ofW (cc := cX3_sweep) (maxL := 2) (ret := (some .int)) (by decide) rfl ?_
  intro p e s m args below meth c s₁ B hml hv
  obtain ⟨hav, hsz, ⟨hP, hK, hn⟩, hD0⟩ := hv
  have hx := B.exec
  have hb := B.bytes
  have hr := B.returns
  have hts := atoms_spec (ws := wsX3_sweep) B.pre
  have hown : s.vm.findClass RX3 = some m.cls := findClass_of_methodNamed B.named
  have hlocks := B.notSynchronized
  subst hsz
  have hD := hD0.self (sz := s.heap.size)
  generalize hAe : (va_A (w3 a cI cZ nk pa fa nc fo th tg nt tb te tk tt nu ub ue uk ut re ro fu bl go ra rc ex tc es wy) s.heap.size) = A at hD ⊢
  have hA : ∀ q : Nat, s.heap.size ≤ q → A q := fun q h => by rw [← hAe]; exact Or.inr h
  have hS : va_S A s.heap s.heap [] := va_S.rf
  generalize hQ : MQ below (va_Qi (fun (r : Int32) (u : (Nat → Int32) × (Nat → Int32) × Nat × (Nat → Int32) × Nat × (Nat → Int32) × (Nat → Int32) × (Nat → Int32) × (Nat → Int32) × Nat × (Nat → Int32) × (Nat → Int32) × (Nat → Int32)) => match u with | (re9, ro9, rc9, ra9, nt9, tb9, te9, tk9, tt9, nc9, fo9, th9, tg9) => r = nI (nc - (swC (RB nk nc fo th tg T nt up) (rmN (RB nk nc fo th tg T nt up) nc) nc fo th tg).2.2.2) ∧ (fo9, th9, tg9, nc9) = swC (RB nk nc fo th tg T nt up) (rmN (RB nk nc fo th tg T nt up) nc) nc fo th tg ∧ okC nk nc9 fo9 th9 tg9 ∧ nt9 = (swT (rmN (RB nk nc fo th tg T nt up) nc) T nt).2 ∧ g3 nk fa up nt9 tb9 te9 tk9 tt9 (swT (rmN (RB nk nc fo th tg T nt up) nc) T nt).1) (fun u t => match u with | (re9, ro9, rc9, ra9, nt9, tb9, te9, tk9, tt9, nc9, fo9, th9, tg9) => zWo (dC, dI) [(cI, .int), (cZ, .boolean), (cJ, .long)] (w3 a cI cZ nk pa fa nc9 fo9 th9 tg9 nt9 tb9 te9 tk9 tt9 nu ub ue uk ut re9 ro9 fu bl go ra9 rc9 ex tc es wy) A t) A) args s 0 0 A = Q
  refine W.eq (g2 := entryFrame m ([.ref (a 0)] : List Value).toArray 2) (by rw [hav]) ?_
  have hl := lv_entry ([.ref (a 0)]) (n := 2) (Nat.le_of_ble_eq_true rfl)
  rw [lg_entry_eq]
  generalize (lg_sl ([.ref (a 0)]) ++ List.replicate (2 - (lg_sl ([.ref (a 0)])).length) Slot.unset).toArray = ls at hl ⊢
  have hl : lv_has ls 2 [(0, .ref (a 0))] := hl
  obtain ⟨H, hH⟩ : ∃ H, H = s.heap := ⟨_, rfl⟩
  obtain ⟨locs, hlo⟩ : ∃ q : List Loc, q = [] := ⟨_, rfl⟩
  have hP : va_P (dC, dI) vwCl (w3 a cI cZ nk pa fa nc fo th tg nt tb te tk tt nu ub ue uk ut re ro fu bl go ra rc ex tc es wy) H := by rw [hH]; exact hP
  have hS : va_S A s.heap H locs := by rw [hH, hlo]; exact hS
  refine zz_hl hH hlo ?_
  obtain ⟨hk01, hk8, hnt, hT, hO, hF, hU⟩ := id hg
  obtain ⟨hnc, hC⟩ := id hc
  refine lv_aload_n hx hb dX3_sweep_0 rfl (lv_at hl 0 rfl) ?_
  have hDc := hD
  have hFc := va_free (wc := w3 a cI cZ nk pa fa nc fo th tg nt tb te tk tt nu ub ue uk ut re ro fu bl go ra rc ex tc es wy) hD hS hA [0, 1, 2, 3, 4, 5, 6, 7, 8, 9, 10, 11, 12, 13, 14, 15, 16, 17, 18, 19, 20, 21, 22, 23] rfl
  refine va_callv (va_runV (As := []) (rest := []) ⟨hx, hb, hml, hown, hts⟩ (c_X3_findReached l dC dI cI cZ cJ a nk pa fa nc fo th tg nt tb te tk tt nu ub ue uk ut re ro fu bl go ra rc ex tc es wy T up H.size (by first | assumption | omega) (by first | assumption | omega)) (cwV 0 hts gX3_sweep_X3_findReached rfl rfl rfl (by decide +kernel) ⟨Nat.le_of_ble_eq_true rfl, Nat.le_of_ble_eq_true rfl⟩) ⟨zWr_blind, va_recv hK hP (ci := 3) (q0 := 0) rfl rfl, zWr_at hP hK hn (hDc.weaken (fun _ _ _ _ => trivial))⟩ rfl rfl hl.1 rfl (lv_room (Nat.le_of_ble_eq_true rfl)) dX3_sweep_1 ⟨Nat.le_of_ble_eq_true rfl, Nat.le_of_ble_eq_true rfl⟩) hS (fun q _ h => hFc q h) hFc (fun u_9 t H1 locs ht hvm hw hB hz1 hk1 hS => ?_)
  obtain ⟨re_n, ro_n, rc_n⟩ := u_9
  dsimp only at hw hB
  obtain ⟨hP1, -, hD1⟩ := hB
  rw [ht] at hP1
  obtain ⟨hP, hD⟩ := va_join (wr := []) (w1 := w3 a cI cZ nk pa fa nc fo th tg nt tb te tk tt nu ub ue uk ut re_n ro_n fu bl go ra rc_n ex tc es wy) hP hD [0, 1, 2, 3, 4, 5, 6, 7, 8, 9, 10, 11, 12, 13, 14, 15, 16, 17, 18, 19, 20, 21, 22, 23] [] rfl rfl (by decide) (by decide) hk1 hFc hP1 hD1
  generalize H1 = H at hP hS ⊢
  have hP : va_P (dC, dI) vwCl (w3 a cI cZ nk pa fa nc fo th tg nt tb te tk tt nu ub ue uk ut re_n ro_n fu bl go ra rc_n ex tc es wy) H := hP
  have hD : va_D A (w3 a cI cZ nk pa fa nc fo th tg nt tb te tk tt nu ub ue uk ut re_n ro_n fu bl go ra rc_n ex tc es wy) := hD
  have hre := hw
  refine lv_aload_n hx hb dX3_sweep_4 rfl (lv_at hl 0 rfl) ?_
  have hDc := hD
  have hFc := va_free (wc := w3 a cI cZ nk pa fa nc fo th tg nt tb te tk tt nu ub ue uk ut re_n ro_n fu bl go ra rc_n ex tc es wy) hD hS hA [0, 1, 2, 3, 4, 5, 6, 7, 8, 9, 10, 11, 12, 13, 14, 15, 16, 17, 18, 19, 20, 21, 22, 23] rfl
  refine va_callv (va_runV (As := []) (rest := []) ⟨hx, hb, hml, hown, hts⟩ (c_X3_countRemovedAhead l dC dI cI cZ cJ a nk pa fa nc fo th tg nt tb te tk tt nu ub ue uk ut re_n ro_n fu bl go ra rc_n ex tc es wy (RB nk nc fo th tg T nt up) H.size (by first | assumption | omega) (hre)) (cwV 0 hts gX3_sweep_X3_countRemovedAhead rfl rfl rfl (by decide +kernel) ⟨Nat.le_of_ble_eq_true rfl, Nat.le_of_ble_eq_true rfl⟩) ⟨zWr_blind, va_recv hK hP (ci := 3) (q0 := 0) rfl rfl, zWr_at hP hK hn (hDc.weaken (fun _ _ _ _ => trivial))⟩ rfl rfl hl.1 rfl (lv_room (Nat.le_of_ble_eq_true rfl)) dX3_sweep_5 ⟨Nat.le_of_ble_eq_true rfl, Nat.le_of_ble_eq_true rfl⟩) hS (fun q _ h => hFc q h) hFc (fun u_9 t H1 locs ht hvm hw hB hz1 hk1 hS => ?_)
  obtain ⟨ra_n, rfl⟩ : ∃ z, z = u_9 := ⟨_, rfl⟩
  obtain ⟨hP1, -, hD1⟩ := hB
  rw [ht] at hP1
  obtain ⟨hP, hD⟩ := va_join (wr := []) (w1 := w3 a cI cZ nk pa fa nc fo th tg nt tb te tk tt nu ub ue uk ut re_n ro_n fu bl go ra_n rc_n ex tc es wy) hP hD [0, 1, 2, 3, 4, 5, 6, 7, 8, 9, 10, 11, 12, 13, 14, 15, 16, 17, 18, 19, 20, 21, 22, 23] [] rfl rfl (by decide) (by decide) hk1 hFc hP1 hD1
  generalize H1 = H at hP hS ⊢
  have hP : va_P (dC, dI) vwCl (w3 a cI cZ nk pa fa nc fo th tg nt tb te tk tt nu ub ue uk ut re_n ro_n fu bl go ra_n rc_n ex tc es wy) H := hP
  have hD : va_D A (w3 a cI cZ nk pa fa nc fo th tg nt tb te tk tt nu ub ue uk ut re_n ro_n fu bl go ra_n rc_n ex tc es wy) := hD
  have hra := hw
  have hww : ∀ n, rmN (RB nk nc fo th tg T nt up) nc n ≤ n := fun n => ct_le _ _
  refine lv_aload_n hx hb dX3_sweep_8 rfl (lv_at hl 0 rfl) ?_
  have hDc := hD
  have hFc := va_free (wc := w3 a cI cZ nk pa fa nc fo th tg nt tb te tk tt nu ub ue uk ut re_n ro_n fu bl go ra_n rc_n ex tc es wy) hD hS hA [0, 1, 2, 3, 4, 5, 6, 7, 8, 9, 10, 11, 12, 13, 14, 15, 16, 17, 18, 19, 20, 21, 22, 23] rfl
  refine va_callv (va_runV (As := []) (rest := []) ⟨hx, hb, hml, hown, hts⟩ (c_X3_sweepTable l dC dI cI cZ cJ a nk pa fa nc fo th tg nt tb te tk tt nu ub ue uk ut re_n ro_n fu bl go ra_n rc_n ex tc es wy T up (rmN (RB nk nc fo th tg T nt up) nc) H.size (by first | assumption | omega) (by first | assumption | omega) (hra) (hww)) (cwV 0 hts gX3_sweep_X3_sweepTable rfl rfl rfl (by decide +kernel) ⟨Nat.le_of_ble_eq_true rfl, Nat.le_of_ble_eq_true rfl⟩) ⟨zWr_blind, va_recv hK hP (ci := 3) (q0 := 0) rfl rfl, zWr_at hP hK hn (hDc.weaken (fun _ _ _ _ => trivial))⟩ rfl rfl hl.1 rfl (lv_room (Nat.le_of_ble_eq_true rfl)) dX3_sweep_9 ⟨Nat.le_of_ble_eq_true rfl, Nat.le_of_ble_eq_true rfl⟩) hS (fun q _ h => hFc q h) hFc (fun u_9 t H1 locs ht hvm hw hB hz1 hk1 hS => ?_)
  obtain ⟨nt_n, tb_n, te_n, tk_n, tt_n⟩ := u_9
  dsimp only at hw hB
  obtain ⟨hP1, -, hD1⟩ := hB
  rw [ht] at hP1
  obtain ⟨hP, hD⟩ := va_join (wr := []) (w1 := w3 a cI cZ nk pa fa nc fo th tg nt_n tb_n te_n tk_n tt_n nu ub ue uk ut re_n ro_n fu bl go ra_n rc_n ex tc es wy) hP hD [0, 1, 2, 3, 4, 5, 6, 7, 8, 9, 10, 11, 12, 13, 14, 15, 16, 17, 18, 19, 20, 21, 22, 23] [] rfl rfl (by decide) (by decide) hk1 hFc hP1 hD1
  generalize H1 = H at hP hS ⊢
  have hP : va_P (dC, dI) vwCl (w3 a cI cZ nk pa fa nc fo th tg nt_n tb_n te_n tk_n tt_n nu ub ue uk ut re_n ro_n fu bl go ra_n rc_n ex tc es wy) H := hP
  have hD : va_D A (w3 a cI cZ nk pa fa nc fo th tg nt_n tb_n te_n tk_n tt_n nu ub ue uk ut re_n ro_n fu bl go ra_n rc_n ex tc es wy) := hD
  obtain ⟨ht1, ht2⟩ := hw
  refine lv_aload_n hx hb dX3_sweep_12 rfl (lv_at hl 0 rfl) ?_
  refine va_get (D := (dC, dI)) (ci := 3) (v := .ref (a 4)) (C := RX3) (T := TX3) (N := 15) hx hb hts (by decide +kernel) hown hK hP 0 rfl rfl 1 (by decide) (hts (.fieldLink RX3 19 "HandlerOptimizer" "code" "LHandlerOptimizer$Code;") (by decide +kernel)) (fun _ h9 => h9) rfl dX3_sweep_13 ?_
  refine va_getN (D := (dC, dI)) (ci := 0) (v := .int (nI nc)) (C := RX0) (T := TX0) (N := 4) hx hb hts (by decide +kernel) hown hK hP 4 rfl rfl 3 (by decide) (va_Nw.use rfl (hn (.fieldLinkNest RX3 99 "HandlerOptimizer$Code" "count" "I" "HandlerOptimizer") (by decide +kernel))) (fun _ h9 => h9) rfl dX3_sweep_16 ?_
  refine lv_istore_n (lv' := [(1, .int (nI nc)), (0, .ref (a 0))]) hx hb dX3_sweep_19 rfl hl (by decide) rfl (fun ls hl => ?_)
  refine lv_aload_n hx hb dX3_sweep_20 rfl (lv_at hl 1 rfl) ?_
  have hDc := hD
  have hFc := va_free (wc := w3 a cI cZ nk pa fa nc fo th tg nt_n tb_n te_n tk_n tt_n nu ub ue uk ut re_n ro_n fu bl go ra_n rc_n ex tc es wy) hD hS hA [0, 1, 2, 3, 4, 5, 6, 7, 8, 9, 10, 11, 12, 13, 14, 15, 16, 17, 18, 19, 20, 21, 22, 23] rfl
  refine va_callv (va_runV (As := []) (rest := []) ⟨hx, hb, hml, hown, hts⟩ (c_X3_sweepCode l dC dI cI cZ cJ a nk pa fa nc fo th tg nt_n tb_n te_n tk_n tt_n nu ub ue uk ut re_n ro_n fu bl go ra_n rc_n ex tc es wy (rmN (RB nk nc fo th tg T nt up) nc) (RB nk nc fo th tg T nt up) H.size (by first | assumption | omega) (hre) (hra) (hww)) (cwV 0 hts gX3_sweep_X3_sweepCode rfl rfl rfl (by decide +kernel) ⟨Nat.le_of_ble_eq_true rfl, Nat.le_of_ble_eq_true rfl⟩) ⟨zWr_blind, va_recv hK hP (ci := 3) (q0 := 0) rfl rfl, zWr_at hP hK hn (hDc.weaken (fun _ _ _ _ => trivial))⟩ rfl rfl hl.1 rfl (lv_room (Nat.le_of_ble_eq_true rfl)) dX3_sweep_21 ⟨Nat.le_of_ble_eq_true rfl, Nat.le_of_ble_eq_true rfl⟩) hS (fun q _ h => hFc q h) hFc (fun u_9 t H1 locs ht hvm hw hB hz1 hk1 hS => ?_)
  obtain ⟨nc_n, fo_n, th_n, tg_n⟩ := u_9
  dsimp only at hw hB
  obtain ⟨hP1, -, hD1⟩ := hB
  rw [ht] at hP1
  obtain ⟨hP, hD⟩ := va_join (wr := []) (w1 := w3 a cI cZ nk pa fa nc_n fo_n th_n tg_n nt_n tb_n te_n tk_n tt_n nu ub ue uk ut re_n ro_n fu bl go ra_n rc_n ex tc es wy) hP hD [0, 1, 2, 3, 4, 5, 6, 7, 8, 9, 10, 11, 12, 13, 14, 15, 16, 17, 18, 19, 20, 21, 22, 23] [] rfl rfl (by decide) (by decide) hk1 hFc hP1 hD1
  generalize H1 = H at hP hS ⊢
  have hP : va_P (dC, dI) vwCl (w3 a cI cZ nk pa fa nc_n fo_n th_n tg_n nt_n tb_n te_n tk_n tt_n nu ub ue uk ut re_n ro_n fu bl go ra_n rc_n ex tc es wy) H := hP
  have hD : va_D A (w3 a cI cZ nk pa fa nc_n fo_n th_n tg_n nt_n tb_n te_n tk_n tt_n nu ub ue uk ut re_n ro_n fu bl go ra_n rc_n ex tc es wy) := hD
  obtain ⟨hs1, hs2, hs3⟩ := hw
  refine lv_iload_n hx hb dX3_sweep_24 rfl (lv_at hl 0 rfl) ?_
  refine lv_aload_n hx hb dX3_sweep_25 rfl (lv_at hl 1 rfl) ?_
  refine va_get (D := (dC, dI)) (ci := 3) (v := .ref (a 4)) (C := RX3) (T := TX3) (N := 15) hx hb hts (by decide +kernel) hown hK hP 0 rfl rfl 1 (by decide) (hts (.fieldLink RX3 19 "HandlerOptimizer" "code" "LHandlerOptimizer$Code;") (by decide +kernel)) (fun _ h9 => h9) rfl dX3_sweep_26 ?_
  refine va_getN (D := (dC, dI)) (ci := 0) (v := .int (nI nc_n)) (C := RX0) (T := TX0) (N := 4) hx hb hts (by decide +kernel) hown hK hP 4 rfl rfl 3 (by decide) (va_Nw.use rfl (hn (.fieldLinkNest RX3 99 "HandlerOptimizer$Code" "count" "I" "HandlerOptimizer") (by decide +kernel))) (fun _ h9 => h9) rfl dX3_sweep_29 ?_
  refine lv_isub hx hb dX3_sweep_32 ?_
  refine zz_top (y := nI (nc - nc_n)) (zz_subn hs3) ?_
  rw [← hQ]
  have hP9 := hP
  have hD9 := hD
  exact W.iret (v := nI (nc - nc_n)) hx hb hr (fun t ht hW => ⟨⟨nI (nc - nc_n), (re_n, ro_n, rc_n, ra_n, nt_n, tb_n, te_n, tk_n, tt_n, nc_n, fo_n, th_n, tg_n), rfl, (⟨by rw [← hs1], hs1, hs2, ht1, ht2⟩), (by rw [ht]; exact hP9), va_K.moved hW.alike hK, hD9⟩, hS.F ht⟩) hS.2.2 dX3_sweep_33

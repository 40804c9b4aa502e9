set_option maxHeartbeats 4000000 in
set_option maxRecDepth 100000 in
theorem c_X3_kindOfOption (l : Launch) (dC : Nat → ClassId) (dI : Nat → Nat → Nat) (cI cZ cJ : ClassId) (a : Nat → Nat) (nk : Nat) (pa : Nat → Int32) (fa : Nat → Int32) (nc : Nat) (fo : Nat → Int32) (th : Nat → Int32) (tg : Nat → Int32) (nt : Nat) (tb : Nat → Int32) (te : Nat → Int32) (tk : Nat → Int32) (tt : Nat → Int32) (nu : Nat) (ub : Nat → Int32) (ue : Nat → Int32) (uk : Nat → Int32) (ut : Nat → Int32) (re : Nat → Int32) (ro : Nat → Int32) (fu : Nat → Int32) (bl : Nat → Int32) (go : Nat → Int32) (ra : Nat → Int32) (rc : Nat) (ex : Int32) (tc : Int32) (es : Int32) (wy : Int64) (i : Nat) (j : Nat) (hk8 : nk ≤ 8) (hi : i < 48) (hj : j < 100) : Met l yX3_kindOfOption wsX3_kindOfOption ({ frames := 1, cells := 0, slots := 0, locals := 22 } : Room) (va_Pc [.ref (a 0), .int (nI i), .int (nI j)] (zPre (dC, dI) [(cI, .int), (cZ, .boolean), (cJ, .long)] (w3 a cI cZ nk pa fa nc fo th tg nt tb te tk tt nu ub ue uk ut re ro fu bl go ra rc ex tc es wy))) (va_Qi (fun (r : Int32) (_ : Unit) => r = nI (kO (bt (th i)) nk j)) (fun _ _ => True) (fun _ => False)) 0 0 (fun _ => False) := by
  refine Met.ofW (cc := cX3_kindOfOption) (maxL := 5) (ret := (some .int)) (by decide) rfl ?_
  intro p e s m args below meth c s₁ B hml hv
  obtain ⟨hav, hP, hK, hn⟩ := hv
  have hx := B.exec
  have hb := B.bytes
  have hr := B.returns
  have hts := atoms_spec (ws := wsX3_kindOfOption) B.pre
  have hown : s.vm.findClass RX3 = some m.cls := findClass_of_methodNamed B.named
  have hlocks := B.notSynchronized
  have hS : va_S (fun _ => False) s.heap s.heap [] := va_S.rf
  generalize hQ : MQ below (va_Qi (fun (r : Int32) (_ : Unit) => r = nI (kO (bt (th i)) nk j)) (fun _ _ => True) (fun _ => False)) args s 0 0 (fun _ => False) = Q
  refine W.eq (g2 := entryFrame m ([.ref (a 0), .int (nI i), .int (nI j)] : List Value).toArray 5) (by rw [hav]) ?_
  have hl := lv_entry ([.ref (a 0), .int (nI i), .int (nI j)]) (n := 5) (Nat.le_of_ble_eq_true rfl)
  rw [lg_entry_eq]
  generalize (lg_sl ([.ref (a 0), .int (nI i), .int (nI j)]) ++ List.replicate (5 - (lg_sl ([.ref (a 0), .int (nI i), .int (nI j)])).length) Slot.unset).toArray = ls at hl ⊢
  have hl : lv_has ls 5 [(0, .ref (a 0)), (1, .int (nI i)), (2, .int (nI j))] := hl
  obtain ⟨H, hH⟩ : ∃ H, H = s.heap := ⟨_, rfl⟩
  obtain ⟨locs, hlo⟩ : ∃ q : List Loc, q = [] := ⟨_, rfl⟩
  have hP : va_P (dC, dI) vwCl (w3 a cI cZ nk pa fa nc fo th tg nt tb te tk tt nu ub ue uk ut re ro fu bl go ra rc ex tc es wy) H := by rw [hH]; exact hP
  have hS : va_S (fun _ => False) s.heap H locs := by rw [hH, hlo]; exact hS
  refine zz_hl hH hlo ?_
  refine lv_iconst (v := 0) hx hb dX3_kindOfOption_0 (by decide) ?_
  refine lv_istore_n (lv' := [(3, .int 0), (0, .ref (a 0)), (1, .int (nI i)), (2, .int (nI j))]) hx hb dX3_kindOfOption_1 rfl hl (by decide) rfl (fun ls hl => ?_)
  refine lv_iconst (v := 0) hx hb dX3_kindOfOption_2 (by decide) ?_
  refine lv_istore (lv' := [(4, .int 0), (3, .int 0), (0, .ref (a 0)), (1, .int (nI i)), (2, .int (nI j))]) hx hb dX3_kindOfOption_3 hl (by decide) rfl (fun ls hl => ?_)
  have J_5 : ∀ (n9 : Nat) (y : Nat) (H : Heap) (locs : List Loc) (ls : Array Slot), (y ≤ nk) → (∀ k, k < y → (bt (th i) k && decide (ct (bt (th i)) k = j)) = false) → nk - y < n9 → va_P (dC, dI) vwCl (w3 a cI cZ nk pa fa nc fo th tg nt tb te tk tt nu ub ue uk ut re ro fu bl go ra rc ex tc es wy) H → va_S (fun _ => False) s.heap H locs → lv_has ls 5 [(0, .ref (a 0)), (1, .int (nI i)), (2, .int (nI j)), (3, .int (nI (ct (bt (th i)) y))), (4, .int (nI y))] → W p l e (headSpec wsX3_kindOfOption ({ frames := 1, cells := 0, slots := 0, locals := 22 } : Room)).room s m args below meth c H locs 0 0 Q (F0 m 5 ls []) := by
    intro n9
    induction n9 with
    | zero => intro y H locs ls hy hlt hmu; exact absurd hmu (Nat.not_lt_zero _)
    | succ n9 ih_5 =>
      intro y H locs ls hy hlt hmu hP hS hl
      refine lv_iload hx hb dX3_kindOfOption_5 (lv_at hl 4 rfl) ?_
      refine lv_aload_n hx hb dX3_kindOfOption_7 rfl (lv_at hl 0 rfl) ?_
      refine va_get (D := (dC, dI)) (ci := 3) (v := .ref (a 1)) (C := RX3) (T := TX3) (N := 15) hx hb hts (by decide +kernel) hown hK hP 0 rfl rfl 0 (by decide) (hts (.fieldLink RX3 12 "HandlerOptimizer" "kinds" "LHandlerOptimizer$Kinds;") (by decide +kernel)) (fun _ h9 => h9) rfl dX3_kindOfOption_8 ?_
      refine va_getN (D := (dC, dI)) (ci := 1) (v := .int (nI nk)) (C := RX1) (T := TX1) (N := 3) hx hb hts (by decide +kernel) hown hK hP 1 rfl rfl 2 (by decide) (va_Nw.use rfl (hn (.fieldLinkNest RX3 76 "HandlerOptimizer$Kinds" "count" "I" "HandlerOptimizer") (by decide +kernel))) (fun _ h9 => h9) rfl dX3_kindOfOption_11 ?_
      refine lv_icmp_ge (tgt := 47) hx hb dX3_kindOfOption_14 (by decide) (fun c_1 => ?_) (fun c_1 => ?_)
      · skip
        have c_1 := (zz_get (a := y) (b := nk) (by omega) (by omega)).mp c_1
        refine lv_iconst (v := 0) hx hb dX3_kindOfOption_47 (by decide) ?_
        rw [← hQ]
        exact W.iret (v := 0) hx hb hr (fun t ht hW => ⟨⟨0, (), rfl, (kO_no (fun k hk => hlt k (by omega))), trivial⟩, hS.F ht⟩) hS.2.2 dX3_kindOfOption_48
      · skip
        have c_1 := (zz_gef (a := y) (b := nk) (by omega) (by omega)).mp c_1
        refine lv_aload_n hx hb dX3_kindOfOption_17 rfl (lv_at hl 0 rfl) ?_
        refine va_get (D := (dC, dI)) (ci := 3) (v := .ref (a 4)) (C := RX3) (T := TX3) (N := 15) hx hb hts (by decide +kernel) hown hK hP 0 rfl rfl 1 (by decide) (hts (.fieldLink RX3 19 "HandlerOptimizer" "code" "LHandlerOptimizer$Code;") (by decide +kernel)) (fun _ h9 => h9) rfl dX3_kindOfOption_18 ?_
        refine lv_iload_n hx hb dX3_kindOfOption_21 rfl (lv_at hl 1 rfl) ?_
        refine lv_iload hx hb dX3_kindOfOption_22 (lv_at hl 4 rfl) ?_
        have hPc := hP.sub (ws' := wC (a 4) (a 5) (a 6) (a 7) cI nc fo th tg) [4, 5, 6, 7] rfl
        refine va_calli (va_runVN (As := [.int (nI i), .int (nI y)]) (rest := []) ⟨hx, hb, hml, hown, hts⟩ (c_X0_canThrow l dC dI cI cZ cJ (a 4) (a 5) (a 6) (a 7) nc fo th tg i y (by first | assumption | omega) (by omega)) ⟨va_cnB 2 hts gX3_kindOfOption_X0_canThrow_n256 rfl rfl rfl (hn (.methodLinkNest RX3 256 yX0_canThrow "HandlerOptimizer") (by decide +kernel)) (hts (.initialized RX0) (by decide +kernel)) (by decide +kernel) ⟨Nat.le_of_ble_eq_true rfl, Nat.le_of_ble_eq_true rfl⟩, hts (.instanceMethod yX0_canThrow) (by decide +kernel), hts (.selects RX0 yX0_canThrow yX0_canThrow) (by decide +kernel)⟩ ⟨zPre_blind, va_recv hK hPc (ci := 0) (q0 := 0) rfl rfl, zPre_at hPc hK hn⟩ rfl rfl hl.1 rfl (lv_room (Nat.le_of_ble_eq_true rfl)) dX3_kindOfOption_24 ⟨Nat.le_of_ble_eq_true rfl, Nat.le_of_ble_eq_true rfl⟩) hS (fun _ _ h => h.elim) (fun _ h => h.elim) (fun r_2 u_9 t H locs ht hvm hw hB hz1 hk1 hS => ?_)
        have hP := zkeep hP hk1
        subst hw
        refine lv_if_eq (tgt := 41) hx hb dX3_kindOfOption_27 (by decide) (fun c_3 => ?_) (fun c_3 => ?_)
        · skip
          have c9 := zb_0.mp c_3
          have e9 : ct (bt (th i)) (y + 1) = ct (bt (th i)) y := by simp only [ct]; simp [*]
          rw [← e9] at hl
          refine lv_iinc (v := nI (y + 1)) (lv' := [(4, .int (nI (y + 1))), (0, .ref (a 0)), (1, .int (nI i)), (2, .int (nI j)), (3, .int (nI (ct (bt (th i)) (y + 1))))]) hx hb dX3_kindOfOption_41 hl (k := 4) rfl (zz_inc y 1) (by decide) rfl (fun ls hl => ?_)
          refine lv_goto (tgt := 5) hx hb dX3_kindOfOption_44 (by decide) ?_
          exact ih_5 (y + 1) _ _ _ (by first | assumption | omega) (lt_s hlt (by simp [*])) (by omega) hP hS (lv_sub hl [1, 2, 3, 4, 0] rfl)
        · skip
          have c9 := zb_1.mp c_3
          have hle := ct_le (bt (th i)) y
          refine lv_iload_n hx hb dX3_kindOfOption_30 rfl (lv_at hl 3 rfl) ?_
          refine lv_iload_n hx hb dX3_kindOfOption_31 rfl (lv_at hl 2 rfl) ?_
          refine lv_icmp_ne (tgt := 38) hx hb dX3_kindOfOption_32 (by decide) (fun c_4 => ?_) (fun c_4 => ?_)
          · skip
            have c8 := (zz_net (a := ct (bt (th i)) y) (b := j) (by omega) (by omega)).mp c_4
            have e9 : ct (bt (th i)) (y + 1) = ct (bt (th i)) y + 1 := by simp only [ct]; simp [*]
            refine lv_iinc (v := nI (ct (bt (th i)) (y + 1))) (lv' := [(3, .int (nI (ct (bt (th i)) (y + 1)))), (0, .ref (a 0)), (1, .int (nI i)), (2, .int (nI j)), (4, .int (nI y))]) hx hb dX3_kindOfOption_38 hl (k := 3) rfl (by rw [e9]; exact zz_inc _ 1) (by decide) rfl (fun ls hl => ?_)
            refine lv_iinc (v := nI (y + 1)) (lv' := [(4, .int (nI (y + 1))), (3, .int (nI (ct (bt (th i)) (y + 1)))), (0, .ref (a 0)), (1, .int (nI i)), (2, .int (nI j))]) hx hb dX3_kindOfOption_41 hl (k := 4) rfl (zz_inc y 1) (by decide) rfl (fun ls hl => ?_)
            refine lv_goto (tgt := 5) hx hb dX3_kindOfOption_44 (by decide) ?_
            exact ih_5 (y + 1) _ _ _ (by first | assumption | omega) (lt_s hlt (by simp [*])) (by omega) hP hS (lv_sub hl [2, 3, 4, 1, 0] rfl)
          · skip
            have c8 := (zz_nef (a := ct (bt (th i)) y) (b := j) (by omega) (by omega)).mp c_4
            refine lv_iload hx hb dX3_kindOfOption_35 (lv_at hl 4 rfl) ?_
            rw [← hQ]
            exact W.iret (v := nI y) hx hb hr (fun t ht hW => ⟨⟨nI y, (), rfl, (kO_hit (by omega) c9 c8 hlt), trivial⟩, hS.F ht⟩) hS.2.2 dX3_kindOfOption_37
  exact J_5 _ 0 _ _ _ (by first | assumption | omega) lt_0 (Nat.lt_succ_self _) hP hS (lv_sub hl [2, 3, 4, 1, 0] rfl)

set_option maxHeartbeats 4000000 in
set_option maxRecDepth 100000 in
theorem c_X3_throwFrom (l : Launch) (dC : Nat → ClassId) (dI : Nat → Nat → Nat) (cI cZ cJ : ClassId) (a : Nat → Nat) (nk : Nat) (pa : Nat → Int32) (fa : Nat → Int32) (nc : Nat) (fo : Nat → Int32) (th : Nat → Int32) (tg : Nat → Int32) (nt : Nat) (tb : Nat → Int32) (te : Nat → Int32) (tk : Nat → Int32) (tt : Nat → Int32) (nu : Nat) (ub : Nat → Int32) (ue : Nat → Int32) (uk : Nat → Int32) (ut : Nat → Int32) (re : Nat → Int32) (ro : Nat → Int32) (fu : Nat → Int32) (bl : Nat → Int32) (go : Nat → Int32) (ra : Nat → Int32) (rc : Nat) (ex : Int32) (tc : Int32) (es : Int32) (wy : Int64) (i : Nat) (k : Nat) (T : Nat → Nat → Nat) (up : Nat → Nat → Bool) (sz : Nat) (hg : g3 nk fa up nt tb te tk tt T) (hc : okC nk nc fo th tg) (hi : i < 48) (hk : k < nk) : Met l yX3_throwFrom wsX3_throwFrom ({ frames := 1, cells := 0, slots := 0, locals := 25 } : Room) (va_Pc [.ref (a 0), .int (nI i), .int (nI k)] (zWr (dC, dI) [(cI, .int), (cZ, .boolean), (cJ, .long)] (w3 a cI cZ nk pa fa nc fo th tg nt tb te tk tt nu ub ue uk ut re ro fu bl go ra rc ex tc es wy) sz)) (va_Qi (fun (r : Int32) (u : Int32 × Int32 × Int64) => match u with | (tc9, es9, wy9) => r = (thS T nt up i k tc es wy).1 ∧ (tc9, es9, wy9) = (thS T nt up i k tc es wy).2) (fun u t => match u with | (tc9, es9, wy9) => zWo (dC, dI) [(cI, .int), (cZ, .boolean), (cJ, .long)] (w3 a cI cZ nk pa fa nc fo th tg nt tb te tk tt nu ub ue uk ut re ro fu bl go ra rc ex tc9 es9 wy9) (va_A (w3 a cI cZ nk pa fa nc fo th tg nt tb te tk tt nu ub ue uk ut re ro fu bl go ra rc ex tc es wy) sz) t) (va_A (w3 a cI cZ nk pa fa nc fo th tg nt tb te tk tt nu ub ue uk ut re ro fu bl go ra rc ex tc es wy) sz)) 0 0 (va_A (w3 a cI cZ nk pa fa nc fo th tg nt tb te tk tt nu ub ue uk ut re ro fu bl go ra rc ex tc es wy) sz) := by
  refine Met.ofW (cc := cX3_throwFrom) (maxL := 4) (ret := (some .int)) (by decide) rfl ?_
  intro p e s m args below meth c s₁ B hml hv
  obtain ⟨hav, hsz, ⟨hP, hK, hn⟩, hD0⟩ := hv
  have hx := B.exec
  have hb := B.bytes
  have hr := B.returns
  have hts := atoms_spec (ws := wsX3_throwFrom) B.pre
  have hown : s.vm.findClass RX3 = some m.cls := findClass_of_methodNamed B.named
  have hlocks := B.notSynchronized
  subst hsz
  have hD := hD0.self (sz := s.heap.size)
  generalize hAe : (va_A (w3 a cI cZ nk pa fa nc fo th tg nt tb te tk tt nu ub ue uk ut re ro fu bl go ra rc ex tc es wy) s.heap.size) = A at hD ⊢
  have hA : ∀ q : Nat, s.heap.size ≤ q → A q := fun q h => by rw [← hAe]; exact Or.inr h
  have hS : va_S A s.heap s.heap [] := va_S.rf
  generalize hQ : MQ below (va_Qi (fun (r : Int32) (u : Int32 × Int32 × Int64) => match u with | (tc9, es9, wy9) => r = (thS T nt up i k tc es wy).1 ∧ (tc9, es9, wy9) = (thS T nt up i k tc es wy).2) (fun u t => match u with | (tc9, es9, wy9) => zWo (dC, dI) [(cI, .int), (cZ, .boolean), (cJ, .long)] (w3 a cI cZ nk pa fa nc fo th tg nt tb te tk tt nu ub ue uk ut re ro fu bl go ra rc ex tc9 es9 wy9) A t) A) args s 0 0 A = Q
  refine W.eq (g2 := entryFrame m ([.ref (a 0), .int (nI i), .int (nI k)] : List Value).toArray 4) (by rw [hav]) ?_
  have hl := lv_entry ([.ref (a 0), .int (nI i), .int (nI k)]) (n := 4) (Nat.le_of_ble_eq_true rfl)
  rw [lg_entry_eq]
  generalize (lg_sl ([.ref (a 0), .int (nI i), .int (nI k)]) ++ List.replicate (4 - (lg_sl ([.ref (a 0), .int (nI i), .int (nI k)])).length) Slot.unset).toArray = ls at hl ⊢
  have hl : lv_has ls 4 [(0, .ref (a 0)), (1, .int (nI i)), (2, .int (nI k))] := hl
  obtain ⟨H, hH⟩ : ∃ H, H = s.heap := ⟨_, rfl⟩
  obtain ⟨locs, hlo⟩ : ∃ q : List Loc, q = [] := ⟨_, rfl⟩
  have hP : va_P (dC, dI) vwCl (w3 a cI cZ nk pa fa nc fo th tg nt tb te tk tt nu ub ue uk ut re ro fu bl go ra rc ex tc es wy) H := by rw [hH]; exact hP
  have hS : va_S A s.heap H locs := by rw [hH, hlo]; exact hS
  refine zz_hl hH hlo ?_
  obtain ⟨hk01, hk8, hnt, hT, hO, hF, hU⟩ := id hg
  obtain ⟨hnc, hC⟩ := id hc
  refine lv_aload_n hx hb dX3_throwFrom_0 rfl (lv_at hl 0 rfl) ?_
  refine lv_aload_n hx hb dX3_throwFrom_1 rfl (lv_at hl 0 rfl) ?_
  refine va_get (D := (dC, dI)) (ci := 3) (v := .long wy) (C := RX3) (T := TX3) (N := 15) hx hb hts (by decide +kernel) hown hK hP 0 rfl rfl 14 (by decide) (hts (.fieldLink RX3 204 "HandlerOptimizer" "wayNumber" "J") (by decide +kernel)) (fun _ h9 => h9) rfl dX3_throwFrom_2 ?_
  refine lv_ldc2 (own := RX3) (v := 31) hx hb hown (hts (.constantLong RX3 224 31) (by decide +kernel)) dX3_throwFrom_5 ?_
  refine lv_lmul hx hb dX3_throwFrom_8 ?_
  refine lv_ldc2 (own := RX3) (v := 10) hx hb hown (hts (.constantLong RX3 296 10) (by decide +kernel)) dX3_throwFrom_9 ?_
  refine lv_ladd hx hb dX3_throwFrom_12 ?_
  refine lv_iload_n hx hb dX3_throwFrom_13 rfl (lv_at hl 2 rfl) ?_
  refine lv_i2l (v := (nI k).toInt64) hx hb dX3_throwFrom_14 rfl ?_
  refine lv_ladd hx hb dX3_throwFrom_15 ?_
  refine va_put (D := (dC, dI)) (ci := 3) (v := .long (((wy * 31) + 10) + ((nI k).toInt64))) (ty := .long) (C := RX3) (T := TX3) (N := 15) hx hb hts (by decide +kernel) tyX3 tyX3_ok nmX3 hown hK hP hD hS 0 rfl rfl 14 (by decide) (hts (.fieldLink RX3 204 "HandlerOptimizer" "wayNumber" "J") (by decide +kernel)) (fun _ h9 => h9) rfl (by decide +kernel) rfl rfl (Nat.le_of_ble_eq_true rfl) dX3_throwFrom_16 (fun H locs hP hD hS => ?_)
  have hP : va_P (dC, dI) vwCl (w3 a cI cZ nk pa fa nc fo th tg nt tb te tk tt nu ub ue uk ut re ro fu bl go ra rc ex tc es (((wy * 31) + 10) + ((nI k).toInt64))) H := hP
  have hD : va_D A (w3 a cI cZ nk pa fa nc fo th tg nt tb te tk tt nu ub ue uk ut re ro fu bl go ra rc ex tc es (((wy * 31) + 10) + ((nI k).toInt64))) := hD
  refine lv_aload_n hx hb dX3_throwFrom_19 rfl (lv_at hl 0 rfl) ?_
  refine va_get (D := (dC, dI)) (ci := 3) (v := .ref (a 8)) (C := RX3) (T := TX3) (N := 15) hx hb hts (by decide +kernel) hown hK hP 0 rfl rfl 2 (by decide) (hts (.fieldLink RX3 26 "HandlerOptimizer" "table" "LHandlerOptimizer$Table;") (by decide +kernel)) (fun _ h9 => h9) rfl dX3_throwFrom_20 ?_
  refine lv_aload_n hx hb dX3_throwFrom_23 rfl (lv_at hl 0 rfl) ?_
  refine va_get (D := (dC, dI)) (ci := 3) (v := .ref (a 1)) (C := RX3) (T := TX3) (N := 15) hx hb hts (by decide +kernel) hown hK hP 0 rfl rfl 0 (by decide) (hts (.fieldLink RX3 12 "HandlerOptimizer" "kinds" "LHandlerOptimizer$Kinds;") (by decide +kernel)) (fun _ h9 => h9) rfl dX3_throwFrom_24 ?_
  refine lv_iload_n hx hb dX3_throwFrom_27 rfl (lv_at hl 1 rfl) ?_
  refine lv_iload_n hx hb dX3_throwFrom_28 rfl (lv_at hl 2 rfl) ?_
  have hPc := hP.sub (ws' := wT (a 8) (a 9) (a 10) (a 11) (a 12) cI nt tb te tk tt ++ wK (a 1) (a 2) (a 3) cI nk pa fa) [8, 9, 10, 11, 12, 1, 2, 3] rfl
  refine va_calli (va_runVN (As := [.ref (a 1), .int (nI i), .int (nI k)]) (rest := []) ⟨hx, hb, hml, hown, hts⟩ (c_X2_firstTaker l dC dI cI cZ cJ (a 8) (a 9) (a 10) (a 11) (a 12) nt tb te tk tt (a 1) (a 2) (a 3) nk pa fa i k T up (by first | assumption | omega) (by first | assumption | omega) (by first | assumption | omega) (by first | assumption | omega) (by first | assumption | omega) (by first | assumption | omega) (by first | assumption | omega)) ⟨va_cnB 3 hts gX3_throwFrom_X2_firstTaker_n146 rfl rfl rfl (hn (.methodLinkNest RX3 146 yX2_firstTaker "HandlerOptimizer") (by decide +kernel)) (hts (.initialized RX2) (by decide +kernel)) (by decide +kernel) ⟨Nat.le_of_ble_eq_true rfl, Nat.le_of_ble_eq_true rfl⟩, hts (.instanceMethod yX2_firstTaker) (by decide +kernel), hts (.selects RX2 yX2_firstTaker yX2_firstTaker) (by decide +kernel)⟩ ⟨zPre_blind, va_recv hK hPc (ci := 2) (q0 := 0) rfl rfl, zPre_at hPc hK hn⟩ rfl rfl hl.1 rfl (lv_room (Nat.le_of_ble_eq_true rfl)) dX3_throwFrom_29 ⟨Nat.le_of_ble_eq_true rfl, Nat.le_of_ble_eq_true rfl⟩) hS (fun _ _ h => h.elim) (fun _ h => h.elim) (fun r_1 u_9 t H locs ht hvm hw hB hz1 hk1 hS => ?_)
  have hP := zkeep hP hk1
  subst hw
  refine lv_istore_n (lv' := [(3, .int (tkI T nt up i k)), (0, .ref (a 0)), (1, .int (nI i)), (2, .int (nI k))]) hx hb dX3_throwFrom_32 rfl hl (by decide) rfl (fun ls hl => ?_)
  refine lv_iload_n hx hb dX3_throwFrom_33 rfl (lv_at hl 0 rfl) ?_
  refine lv_iconst (v := -1) hx hb dX3_throwFrom_34 (by decide) ?_
  refine lv_icmp_ne (tgt := 45) hx hb dX3_throwFrom_35 (by decide) (fun c_2 => ?_) (fun c_2 => ?_)
  · skip
    have q1 := tkI_lt (by omega) c_2
    refine lv_aload_n hx hb dX3_throwFrom_45 rfl (lv_at hl 1 rfl) ?_
    refine lv_dup hx hb dX3_throwFrom_46 rfl ?_
    refine va_get (D := (dC, dI)) (ci := 3) (v := .int tc) (C := RX3) (T := TX3) (N := 15) hx hb hts (by decide +kernel) hown hK hP 0 rfl rfl 12 (by decide) (hts (.fieldLink RX3 199 "HandlerOptimizer" "takenCount" "I") (by decide +kernel)) (fun _ h9 => h9) rfl dX3_throwFrom_47 ?_
    refine lv_iconst (v := 1) hx hb dX3_throwFrom_50 (by decide) ?_
    refine lv_iadd hx hb dX3_throwFrom_51 ?_
    refine va_put (D := (dC, dI)) (ci := 3) (v := .int (tc + 1)) (ty := .int) (C := RX3) (T := TX3) (N := 15) hx hb hts (by decide +kernel) tyX3 tyX3_ok nmX3 hown hK hP hD hS 0 rfl rfl 12 (by decide) (hts (.fieldLink RX3 199 "HandlerOptimizer" "takenCount" "I") (by decide +kernel)) (fun _ h9 => h9) rfl (by decide +kernel) rfl rfl (Nat.le_of_ble_eq_true rfl) dX3_throwFrom_52 (fun H locs hP hD hS => ?_)
    have hP : va_P (dC, dI) vwCl (w3 a cI cZ nk pa fa nc fo th tg nt tb te tk tt nu ub ue uk ut re ro fu bl go ra rc ex (tc + 1) es (((wy * 31) + 10) + ((nI k).toInt64))) H := hP
    have hD : va_D A (w3 a cI cZ nk pa fa nc fo th tg nt tb te tk tt nu ub ue uk ut re ro fu bl go ra rc ex (tc + 1) es (((wy * 31) + 10) + ((nI k).toInt64))) := hD
    refine lv_aload_n hx hb dX3_throwFrom_55 rfl (lv_at hl 1 rfl) ?_
    refine va_get (D := (dC, dI)) (ci := 3) (v := .ref (a 8)) (C := RX3) (T := TX3) (N := 15) hx hb hts (by decide +kernel) hown hK hP 0 rfl rfl 2 (by decide) (hts (.fieldLink RX3 26 "HandlerOptimizer" "table" "LHandlerOptimizer$Table;") (by decide +kernel)) (fun _ h9 => h9) rfl dX3_throwFrom_56 ?_
    refine va_getN (D := (dC, dI)) (ci := 2) (v := .ref (a 12)) (C := RX2) (T := TX2) (N := 5) hx hb hts (by decide +kernel) hown hK hP 8 rfl rfl 3 (by decide) (va_Nw.use rfl (hn (.fieldLinkNest RX3 143 "HandlerOptimizer$Table" "targets" "[I" "HandlerOptimizer") (by decide +kernel))) (fun _ h9 => h9) rfl dX3_throwFrom_59 ?_
    refine lv_iload_n hx hb dX3_throwFrom_62 rfl (lv_at hl 0 rfl) ?_
    refine zz_top (y := nI (tkf T nt up i k)) (tkI_at q1) ?_
    refine va_iald hx hb hK hP 12 0 rfl rfl (vp_in_nI (n := tkf T nt up i k) (by omega) (by decide)) dX3_throwFrom_63 ?_
    refine zz_top (y := tt (tkf T nt up i k)) (congrArg _ (nI_clamp (by omega))) ?_
    refine zz_top (y := nI (T 3 (tkf T nt up i k))) ((hT _ q1).2.2.2) ?_
    rw [← hQ]
    have hP9 := hP
    have hD9 := hD
    exact W.iret (v := nI (T 3 (tkf T nt up i k))) hx hb hr (fun t ht hW => ⟨⟨nI (T 3 (tkf T nt up i k)), (tc + 1, es, ((wy * 31) + 10) + ((nI k).toInt64)), rfl, (by simp [thS, q1]), (by rw [ht]; exact hP9), va_K.moved hW.alike hK, hD9⟩, hS.F ht⟩) hS.2.2 dX3_throwFrom_64
  · skip
    have q1 := tkI_m1 (by omega) c_2
    refine lv_aload_n hx hb dX3_throwFrom_38 rfl (lv_at hl 1 rfl) ?_
    refine lv_iload_n hx hb dX3_throwFrom_39 rfl (lv_at hl 3 rfl) ?_
    refine va_put (D := (dC, dI)) (ci := 3) (v := .int (nI k)) (ty := .int) (C := RX3) (T := TX3) (N := 15) hx hb hts (by decide +kernel) tyX3 tyX3_ok nmX3 hown hK hP hD hS 0 rfl rfl 13 (by decide) (hts (.fieldLink RX3 53 "HandlerOptimizer" "escapedKind" "I") (by decide +kernel)) (fun _ h9 => h9) rfl (by decide +kernel) rfl rfl (Nat.le_of_ble_eq_true rfl) dX3_throwFrom_40 (fun H locs hP hD hS => ?_)
    have hP : va_P (dC, dI) vwCl (w3 a cI cZ nk pa fa nc fo th tg nt tb te tk tt nu ub ue uk ut re ro fu bl go ra rc ex tc (nI k) (((wy * 31) + 10) + ((nI k).toInt64))) H := hP
    have hD : va_D A (w3 a cI cZ nk pa fa nc fo th tg nt tb te tk tt nu ub ue uk ut re ro fu bl go ra rc ex tc (nI k) (((wy * 31) + 10) + ((nI k).toInt64))) := hD
    refine lv_iconst (v := -1) hx hb dX3_throwFrom_43 (by decide) ?_
    rw [← hQ]
    have hP9 := hP
    have hD9 := hD
    exact W.iret (v := (-1)) hx hb hr (fun t ht hW => ⟨⟨(-1), (tc, nI k, ((wy * 31) + 10) + ((nI k).toInt64)), rfl, (by simp [thS, q1]), (by rw [ht]; exact hP9), va_K.moved hW.alike hK, hD9⟩, hS.F ht⟩) hS.2.2 dX3_throwFrom_44

set_option maxHeartbeats 4000000 in
set_option maxRecDepth 100000 in
theorem c_X3_execute (l : Launch) (dC : Nat → ClassId) (dI : Nat → Nat → Nat) (cI cZ cJ : ClassId) (a : Nat → Nat) (nk : Nat) (pa : Nat → Int32) (fa : Nat → Int32) (nc : Nat) (fo : Nat → Int32) (th : Nat → Int32) (tg : Nat → Int32) (nt : Nat) (tb : Nat → Int32) (te : Nat → Int32) (tk : Nat → Int32) (tt : Nat → Int32) (nu : Nat) (ub : Nat → Int32) (ue : Nat → Int32) (uk : Nat → Int32) (ut : Nat → Int32) (re : Nat → Int32) (ro : Nat → Int32) (fu : Nat → Int32) (bl : Nat → Int32) (go : Nat → Int32) (ra : Nat → Int32) (rc : Nat) (ex : Int32) (tc : Int32) (es : Int32) (wy : Int64) (i : Nat) (o : Nat) (T : Nat → Nat → Nat) (up : Nat → Nat → Bool) (sz : Nat) (hg : g3 nk fa up nt tb te tk tt T) (hc : okC nk nc fo th tg) (hi : i < nc) (ho9 : o < 50) : Met l yX3_execute wsX3_execute ({ frames := 2, cells := 0, slots := 0, locals := 48 } : Room) (va_Pc [.ref (a 0), .int (nI i), .int (nI o)] (zWr (dC, dI) [(cI, .int), (cZ, .boolean), (cJ, .long)] (w3 a cI cZ nk pa fa nc fo th tg nt tb te tk tt nu ub ue uk ut re ro fu bl go ra rc ex tc es wy) sz)) (va_Qi (fun (r : Int32) (u : Int32 × Int32 × Int64) => match u with | (tc9, es9, wy9) => r = (exS fo th tg nk T nt up i o tc es wy).1 ∧ (tc9, es9, wy9) = (exS fo th tg nk T nt up i o tc es wy).2) (fun u t => match u with | (tc9, es9, wy9) => zWo (dC, dI) [(cI, .int), (cZ, .boolean), (cJ, .long)] (w3 a cI cZ nk pa fa nc fo th tg nt tb te tk tt nu ub ue uk ut re ro fu bl go ra rc (ex + 1) tc9 es9 wy9) (va_A (w3 a cI cZ nk pa fa nc fo th tg nt tb te tk tt nu ub ue uk ut re ro fu bl go ra rc ex tc es wy) sz) t) (va_A (w3 a cI cZ nk pa fa nc fo th tg nt tb te tk tt nu ub ue uk ut re ro fu bl go ra rc ex tc es wy) sz)) 0 0 (va_A (w3 a cI cZ nk pa fa nc fo th tg nt tb te tk tt nu ub ue uk ut re ro fu bl go ra rc ex tc es wy) sz) := by
  refine Met.ofW (cc := cX3_execute) (maxL := 5) (ret := (some .int)) (by decide) rfl ?_
  intro p e s m args below meth c s₁ B hml hv
  obtain ⟨hav, hsz, ⟨hP, hK, hn⟩, hD0⟩ := hv
  have hx := B.exec
  have hb := B.bytes
  have hr := B.returns
  have hts := atoms_spec (ws := wsX3_execute) B.pre
  have hown : s.vm.findClass RX3 = some m.cls := findClass_of_methodNamed B.named
  have hlocks := B.notSynchronized
  subst hsz
  have hD := hD0.self (sz := s.heap.size)
  generalize hAe : (va_A (w3 a cI cZ nk pa fa nc fo th tg nt tb te tk tt nu ub ue uk ut re ro fu bl go ra rc ex tc es wy) s.heap.size) = A at hD ⊢
  have hA : ∀ q : Nat, s.heap.size ≤ q → A q := fun q h => by rw [← hAe]; exact Or.inr h
  have hS : va_S A s.heap s.heap [] := va_S.rf
  generalize hQ : MQ below (va_Qi (fun (r : Int32) (u : Int32 × Int32 × Int64) => match u with | (tc9, es9, wy9) => r = (exS fo th tg nk T nt up i o tc es wy).1 ∧ (tc9, es9, wy9) = (exS fo th tg nk T nt up i o tc es wy).2) (fun u t => match u with | (tc9, es9, wy9) => zWo (dC, dI) [(cI, .int), (cZ, .boolean), (cJ, .long)] (w3 a cI cZ nk pa fa nc fo th tg nt tb te tk tt nu ub ue uk ut re ro fu bl go ra rc (ex + 1) tc9 es9 wy9) A t) A) args s 0 0 A = Q
  refine W.eq (g2 := entryFrame m ([.ref (a 0), .int (nI i), .int (nI o)] : List Value).toArray 5) (by rw [hav]) ?_
  have hl := lv_entry ([.ref (a 0), .int (nI i), .int (nI o)]) (n := 5) (Nat.le_of_ble_eq_true rfl)
  rw [lg_entry_eq]
  generalize (lg_sl ([.ref (a 0), .int (nI i), .int (nI o)]) ++ List.replicate (5 - (lg_sl ([.ref (a 0), .int (nI i), .int (nI o)])).length) Slot.unset).toArray = ls at hl ⊢
  have hl : lv_has ls 5 [(0, .ref (a 0)), (1, .int (nI i)), (2, .int (nI o))] := hl
  obtain ⟨H, hH⟩ : ∃ H, H = s.heap := ⟨_, rfl⟩
  obtain ⟨locs, hlo⟩ : ∃ q : List Loc, q = [] := ⟨_, rfl⟩
  have hP : va_P (dC, dI) vwCl (w3 a cI cZ nk pa fa nc fo th tg nt tb te tk tt nu ub ue uk ut re ro fu bl go ra rc ex tc es wy) H := by rw [hH]; exact hP
  have hS : va_S A s.heap H locs := by rw [hH, hlo]; exact hS
  refine zz_hl hH hlo ?_
  obtain ⟨hk01, hk8, hnt, hT, hO, hF, hU⟩ := id hg
  obtain ⟨hnc, hC⟩ := id hc
  have hno := noN_le (fo i)
  refine lv_aload_n hx hb dX3_execute_0 rfl (lv_at hl 0 rfl) ?_
  refine va_get (D := (dC, dI)) (ci := 3) (v := .ref (a 4)) (C := RX3) (T := TX3) (N := 15) hx hb hts (by decide +kernel) hown hK hP 0 rfl rfl 1 (by decide) (hts (.fieldLink RX3 19 "HandlerOptimizer" "code" "LHandlerOptimizer$Code;") (by decide +kernel)) (fun _ h9 => h9) rfl dX3_execute_1 ?_
  refine va_getN (D := (dC, dI)) (ci := 0) (v := .ref (a 5)) (C := RX0) (T := TX0) (N := 4) hx hb hts (by decide +kernel) hown hK hP 4 rfl rfl 0 (by decide) (va_Nw.use rfl (hn (.fieldLinkNest RX3 103 "HandlerOptimizer$Code" "forms" "[I" "HandlerOptimizer") (by decide +kernel))) (fun _ h9 => h9) rfl dX3_execute_4 ?_
  refine lv_iload_n hx hb dX3_execute_7 rfl (lv_at hl 1 rfl) ?_
  refine va_iald hx hb hK hP 5 0 rfl rfl (vp_in_nI (n := i) (by omega) (by decide)) dX3_execute_8 ?_
  refine zz_top (y := fo i) (congrArg _ (nI_clamp (by omega))) ?_
  refine lv_istore_n (lv' := [(3, .int (fo i)), (0, .ref (a 0)), (1, .int (nI i)), (2, .int (nI o))]) hx hb dX3_execute_9 rfl hl (by decide) rfl (fun ls hl => ?_)
  refine lv_aload_n hx hb dX3_execute_10 rfl (lv_at hl 1 rfl) ?_
  refine lv_dup hx hb dX3_execute_11 rfl ?_
  refine va_get (D := (dC, dI)) (ci := 3) (v := .int ex) (C := RX3) (T := TX3) (N := 15) hx hb hts (by decide +kernel) hown hK hP 0 rfl rfl 11 (by decide) (hts (.fieldLink RX3 196 "HandlerOptimizer" "executedCount" "I") (by decide +kernel)) (fun _ h9 => h9) rfl dX3_execute_12 ?_
  refine lv_iconst (v := 1) hx hb dX3_execute_15 (by decide) ?_
  refine lv_iadd hx hb dX3_execute_16 ?_
  refine va_put (D := (dC, dI)) (ci := 3) (v := .int (ex + 1)) (ty := .int) (C := RX3) (T := TX3) (N := 15) hx hb hts (by decide +kernel) tyX3 tyX3_ok nmX3 hown hK hP hD hS 0 rfl rfl 11 (by decide) (hts (.fieldLink RX3 196 "HandlerOptimizer" "executedCount" "I") (by decide +kernel)) (fun _ h9 => h9) rfl (by decide +kernel) rfl rfl (Nat.le_of_ble_eq_true rfl) dX3_execute_17 (fun H locs hP hD hS => ?_)
  have hP : va_P (dC, dI) vwCl (w3 a cI cZ nk pa fa nc fo th tg nt tb te tk tt nu ub ue uk ut re ro fu bl go ra rc (ex + 1) tc es wy) H := hP
  have hD : va_D A (w3 a cI cZ nk pa fa nc fo th tg nt tb te tk tt nu ub ue uk ut re ro fu bl go ra rc (ex + 1) tc es wy) := hD
  refine lv_aload_n hx hb dX3_execute_20 rfl (lv_at hl 1 rfl) ?_
  refine lv_aload_n hx hb dX3_execute_21 rfl (lv_at hl 1 rfl) ?_
  refine va_get (D := (dC, dI)) (ci := 3) (v := .long wy) (C := RX3) (T := TX3) (N := 15) hx hb hts (by decide +kernel) hown hK hP 0 rfl rfl 14 (by decide) (hts (.fieldLink RX3 204 "HandlerOptimizer" "wayNumber" "J") (by decide +kernel)) (fun _ h9 => h9) rfl dX3_execute_22 ?_
  refine lv_ldc2 (own := RX3) (v := 31) hx hb hown (hts (.constantLong RX3 224 31) (by decide +kernel)) dX3_execute_25 ?_
  refine lv_lmul hx hb dX3_execute_28 ?_
  refine lv_iload_n hx hb dX3_execute_29 rfl (lv_at hl 0 rfl) ?_
  refine lv_i2l (v := (fo i).toInt64) hx hb dX3_execute_30 rfl ?_
  refine lv_ladd hx hb dX3_execute_31 ?_
  refine va_put (D := (dC, dI)) (ci := 3) (v := .long ((wy * 31) + ((fo i).toInt64))) (ty := .long) (C := RX3) (T := TX3) (N := 15) hx hb hts (by decide +kernel) tyX3 tyX3_ok nmX3 hown hK hP hD hS 0 rfl rfl 14 (by decide) (hts (.fieldLink RX3 204 "HandlerOptimizer" "wayNumber" "J") (by decide +kernel)) (fun _ h9 => h9) rfl (by decide +kernel) rfl rfl (Nat.le_of_ble_eq_true rfl) dX3_execute_32 (fun H locs hP hD hS => ?_)
  have hP : va_P (dC, dI) vwCl (w3 a cI cZ nk pa fa nc fo th tg nt tb te tk tt nu ub ue uk ut re ro fu bl go ra rc (ex + 1) tc es ((wy * 31) + ((fo i).toInt64))) H := hP
  have hD : va_D A (w3 a cI cZ nk pa fa nc fo th tg nt tb te tk tt nu ub ue uk ut re ro fu bl go ra rc (ex + 1) tc es ((wy * 31) + ((fo i).toInt64))) := hD
  refine lv_iload_n hx hb dX3_execute_35 rfl (lv_at hl 0 rfl) ?_
  refine lv_iconst (v := 3) hx hb dX3_execute_36 (by decide) ?_
  refine lv_icmp_ne (tgt := 42) hx hb dX3_execute_37 (by decide) (fun c_1 => ?_) (fun c_1 => ?_)
  · skip
    skip
    refine lv_aload_n hx hb dX3_execute_42 rfl (lv_at hl 1 rfl) ?_
    refine va_get (D := (dC, dI)) (ci := 3) (v := .ref (a 4)) (C := RX3) (T := TX3) (N := 15) hx hb hts (by decide +kernel) hown hK hP 0 rfl rfl 1 (by decide) (hts (.fieldLink RX3 19 "HandlerOptimizer" "code" "LHandlerOptimizer$Code;") (by decide +kernel)) (fun _ h9 => h9) rfl dX3_execute_43 ?_
    refine lv_iload_n hx hb dX3_execute_46 rfl (lv_at hl 2 rfl) ?_
    have hPc := hP.sub (ws' := wC (a 4) (a 5) (a 6) (a 7) cI nc fo th tg) [4, 5, 6, 7] rfl
    refine va_calli (va_runVN (As := [.int (nI i)]) (rest := []) ⟨hx, hb, hml, hown, hts⟩ (c_X0_normalOptions l dC dI cI cZ cJ (a 4) (a 5) (a 6) (a 7) nc fo th tg i (by omega)) ⟨va_cnB 1 hts gX3_execute_X0_normalOptions_n211 rfl rfl rfl (hn (.methodLinkNest RX3 211 yX0_normalOptions "HandlerOptimizer") (by decide +kernel)) (hts (.initialized RX0) (by decide +kernel)) (by decide +kernel) ⟨Nat.le_of_ble_eq_true rfl, Nat.le_of_ble_eq_true rfl⟩, hts (.instanceMethod yX0_normalOptions) (by decide +kernel), hts (.selects RX0 yX0_normalOptions yX0_normalOptions) (by decide +kernel)⟩ ⟨zPre_blind, va_recv hK hPc (ci := 0) (q0 := 0) rfl rfl, zPre_at hPc hK hn⟩ rfl rfl hl.1 rfl (lv_room (Nat.le_of_ble_eq_true rfl)) dX3_execute_47 ⟨Nat.le_of_ble_eq_true rfl, Nat.le_of_ble_eq_true rfl⟩) hS (fun _ _ h => h.elim) (fun _ h => h.elim) (fun r_2 u_9 t H locs ht hvm hw hB hz1 hk1 hS => ?_)
    have hP := zkeep hP hk1
    subst hw
    refine lv_istore (lv' := [(4, .int (nI (noN (fo i)))), (3, .int (fo i)), (0, .ref (a 0)), (1, .int (nI i)), (2, .int (nI o))]) hx hb dX3_execute_50 hl (by decide) rfl (fun ls hl => ?_)
    refine lv_iload_n hx hb dX3_execute_52 rfl (lv_at hl 4 rfl) ?_
    refine lv_iload hx hb dX3_execute_53 (lv_at hl 0 rfl) ?_
    refine lv_icmp_ge (tgt := 68) hx hb dX3_execute_55 (by decide) (fun c_3 => ?_) (fun c_3 => ?_)
    · skip
      have c_3 := (zz_get (a := o) (b := noN (fo i)) (by omega) (by omega)).mp c_3
      refine lv_aload_n hx hb dX3_execute_68 rfl (lv_at hl 2 rfl) ?_
      refine lv_iload_n hx hb dX3_execute_69 rfl (lv_at hl 3 rfl) ?_
      refine lv_aload_n hx hb dX3_execute_70 rfl (lv_at hl 2 rfl) ?_
      refine lv_iload_n hx hb dX3_execute_71 rfl (lv_at hl 3 rfl) ?_
      refine lv_iload_n hx hb dX3_execute_72 rfl (lv_at hl 4 rfl) ?_
      refine lv_iload hx hb dX3_execute_73 (lv_at hl 0 rfl) ?_
      refine lv_isub hx hb dX3_execute_75 ?_
      refine zz_top (y := nI (o - noN (fo i))) (zz_subn (by omega)) ?_
      refine va_calli (va_runV (As := [.int (nI i), .int (nI (o - noN (fo i)))]) (rest := [.int (nI i), .ref (a 0)]) ⟨hx, hb, hml, hown, hts⟩ (c_X3_kindOfOption l dC dI cI cZ cJ a nk pa fa nc fo th tg nt tb te tk tt nu ub ue uk ut re ro fu bl go ra rc (ex + 1) tc es ((wy * 31) + ((fo i).toInt64)) i (o - noN (fo i)) (by first | assumption | omega) (by omega) (by omega)) (cwV 2 hts gX3_execute_X3_kindOfOption rfl rfl rfl (by decide +kernel) ⟨Nat.le_of_ble_eq_true rfl, Nat.le_of_ble_eq_true rfl⟩) ⟨zPre_blind, va_recv hK hP (ci := 3) (q0 := 0) rfl rfl, zPre_at hP hK hn⟩ rfl rfl hl.1 rfl (lv_room (Nat.le_of_ble_eq_true rfl)) dX3_execute_76 ⟨Nat.le_of_ble_eq_true rfl, Nat.le_of_ble_eq_true rfl⟩) hS (fun _ _ h => h.elim) (fun _ h => h.elim) (fun r_4 u_9 t H locs ht hvm hw hB hz1 hk1 hS => ?_)
      have hP := zkeep hP hk1
      subst hw
      have hDc := hD
      have hFc := va_free (wc := w3 a cI cZ nk pa fa nc fo th tg nt tb te tk tt nu ub ue uk ut re ro fu bl go ra rc (ex + 1) tc es ((wy * 31) + ((fo i).toInt64))) hD hS hA [0, 1, 2, 3, 4, 5, 6, 7, 8, 9, 10, 11, 12, 13, 14, 15, 16, 17, 18, 19, 20, 21, 22, 23] rfl
      refine va_calli (va_runV (As := [.int (nI i), .int (nI (kO (bt (th i)) nk (o - noN (fo i))))]) (rest := []) ⟨hx, hb, hml, hown, hts⟩ (c_X3_throwFrom l dC dI cI cZ cJ a nk pa fa nc fo th tg nt tb te tk tt nu ub ue uk ut re ro fu bl go ra rc (ex + 1) tc es ((wy * 31) + ((fo i).toInt64)) i (kO (bt (th i)) nk (o - noN (fo i))) T up H.size (by first | assumption | omega) (by first | assumption | omega) (by omega) (kO_lt hk01)) (cwV 2 hts gX3_execute_X3_throwFrom rfl rfl rfl (by decide +kernel) ⟨Nat.le_of_ble_eq_true rfl, Nat.le_of_ble_eq_true rfl⟩) ⟨zWr_blind, va_recv hK hP (ci := 3) (q0 := 0) rfl rfl, zWr_at hP hK hn (hDc.weaken (fun _ _ _ _ => trivial))⟩ rfl rfl hl.1 rfl (lv_room (Nat.le_of_ble_eq_true rfl)) dX3_execute_79 ⟨Nat.le_of_ble_eq_true rfl, Nat.le_of_ble_eq_true rfl⟩) hS (fun q _ h => hFc q h) hFc (fun r_5 u_9 t H1 locs ht hvm hw hB hz1 hk1 hS => ?_)
      obtain ⟨tc_n, es_n, wy_n⟩ := u_9
      dsimp only at hw hB
      obtain ⟨hP1, -, hD1⟩ := hB
      rw [ht] at hP1
      obtain ⟨hP, hD⟩ := va_join (wr := []) (w1 := w3 a cI cZ nk pa fa nc fo th tg nt tb te tk tt nu ub ue uk ut re ro fu bl go ra rc (ex + 1) tc_n es_n wy_n) hP hD [0, 1, 2, 3, 4, 5, 6, 7, 8, 9, 10, 11, 12, 13, 14, 15, 16, 17, 18, 19, 20, 21, 22, 23] [] rfl rfl (by decide) (by decide) hk1 hFc hP1 hD1
      generalize H1 = H at hP hS ⊢
      have hP : va_P (dC, dI) vwCl (w3 a cI cZ nk pa fa nc fo th tg nt tb te tk tt nu ub ue uk ut re ro fu bl go ra rc (ex + 1) tc_n es_n wy_n) H := hP
      have hD : va_D A (w3 a cI cZ nk pa fa nc fo th tg nt tb te tk tt nu ub ue uk ut re ro fu bl go ra rc (ex + 1) tc_n es_n wy_n) := hD
      obtain ⟨hw0, hw⟩ := hw
      subst hw0
      rw [← hQ]
      have hP9 := hP
      have hD9 := hD
      exact W.iret (v := (thS T nt up i (kO (bt (th i)) nk (o - noN (fo i))) tc es ((wy * 31) + ((fo i).toInt64))).1) hx hb hr (fun t ht hW => ⟨⟨(thS T nt up i (kO (bt (th i)) nk (o - noN (fo i))) tc es ((wy * 31) + ((fo i).toInt64))).1, (tc_n, es_n, wy_n), rfl, (by simp only [exS]; rw [if_neg (by assumption), if_neg (by omega)]; exact ⟨rfl, hw⟩), (by rw [ht]; exact hP9), va_K.moved hW.alike hK, hD9⟩, hS.F ht⟩) hS.2.2 dX3_execute_82
    · skip
      have c_3 := (zz_gef (a := o) (b := noN (fo i)) (by omega) (by omega)).mp c_3
      refine lv_aload_n hx hb dX3_execute_58 rfl (lv_at hl 2 rfl) ?_
      refine va_get (D := (dC, dI)) (ci := 3) (v := .ref (a 4)) (C := RX3) (T := TX3) (N := 15) hx hb hts (by decide +kernel) hown hK hP 0 rfl rfl 1 (by decide) (hts (.fieldLink RX3 19 "HandlerOptimizer" "code" "LHandlerOptimizer$Code;") (by decide +kernel)) (fun _ h9 => h9) rfl dX3_execute_59 ?_
      refine lv_iload_n hx hb dX3_execute_62 rfl (lv_at hl 3 rfl) ?_
      refine lv_iload_n hx hb dX3_execute_63 rfl (lv_at hl 4 rfl) ?_
      have hPc := hP.sub (ws' := wC (a 4) (a 5) (a 6) (a 7) cI nc fo th tg) [4, 5, 6, 7] rfl
      refine va_calli (va_runVN (As := [.int (nI i), .int (nI o)]) (rest := []) ⟨hx, hb, hml, hown, hts⟩ (c_X0_normalNext l dC dI cI cZ cJ (a 4) (a 5) (a 6) (a 7) nc fo th tg i o (by omega) (by omega)) ⟨va_cnB 2 hts gX3_execute_X0_normalNext_n287 rfl rfl rfl (hn (.methodLinkNest RX3 287 yX0_normalNext "HandlerOptimizer") (by decide +kernel)) (hts (.initialized RX0) (by decide +kernel)) (by decide +kernel) ⟨Nat.le_of_ble_eq_true rfl, Nat.le_of_ble_eq_true rfl⟩, hts (.instanceMethod yX0_normalNext) (by decide +kernel), hts (.selects RX0 yX0_normalNext yX0_normalNext) (by decide +kernel)⟩ ⟨zPre_blind, va_recv hK hPc (ci := 0) (q0 := 0) rfl rfl, zPre_at hPc hK hn⟩ rfl rfl hl.1 rfl (lv_room (Nat.le_of_ble_eq_true rfl)) dX3_execute_64 ⟨Nat.le_of_ble_eq_true rfl, Nat.le_of_ble_eq_true rfl⟩) hS (fun _ _ h => h.elim) (fun _ h => h.elim) (fun r_9 u_9 t H locs ht hvm hw hB hz1 hk1 hS => ?_)
      have hP := zkeep hP hk1
      subst hw
      rw [← hQ]
      have hP9 := hP
      have hD9 := hD
      exact W.iret (v := nnx (fo i) (tg i) i o) hx hb hr (fun t ht hW => ⟨⟨nnx (fo i) (tg i) i o, (tc, es, (wy * 31) + ((fo i).toInt64)), rfl, (by simp [exS, *]), (by rw [ht]; exact hP9), va_K.moved hW.alike hK, hD9⟩, hS.F ht⟩) hS.2.2 dX3_execute_67
  · skip
    skip
    refine lv_iconst (v := -1) hx hb dX3_execute_40 (by decide) ?_
    rw [← hQ]
    have hP9 := hP
    have hD9 := hD
    exact W.iret (v := (-1)) hx hb hr (fun t ht hW => ⟨⟨(-1), (tc, es, (wy * 31) + ((fo i).toInt64)), rfl, (by simp [exS, *]), (by rw [ht]; exact hP9), va_K.moved hW.alike hK, hD9⟩, hS.F ht⟩) hS.2.2 dX3_execute_41

set_option maxHeartbeats 4000000 in
set_option maxRecDepth 100000 in
theorem c_X3_kindCount (l : Launch) (dC : Nat → ClassId) (dI : Nat → Nat → Nat) (cI cZ cJ : ClassId) (a : Nat → Nat) (nk : Nat) (pa : Nat → Int32) (fa : Nat → Int32) (nc : Nat) (fo : Nat → Int32) (th : Nat → Int32) (tg : Nat → Int32) (nt : Nat) (tb : Nat → Int32) (te : Nat → Int32) (tk : Nat → Int32) (tt : Nat → Int32) (nu : Nat) (ub : Nat → Int32) (ue : Nat → Int32) (uk : Nat → Int32) (ut : Nat → Int32) (re : Nat → Int32) (ro : Nat → Int32) (fu : Nat → Int32) (bl : Nat → Int32) (go : Nat → Int32) (ra : Nat → Int32) (rc : Nat) (ex : Int32) (tc : Int32) (es : Int32) (wy : Int64) : Met l yX3_kindCount wsX3_kindCount ({ frames := 0, cells := 0, slots := 0, locals := 0 } : Room) (va_Pc [.ref (a 0)] (zPre (dC, dI) [(cI, .int), (cZ, .boolean), (cJ, .long)] (w3 a cI cZ nk pa fa nc fo th tg nt tb te tk tt nu ub ue uk ut re ro fu bl go ra rc ex tc es wy))) (va_Qi (fun (r : Int32) (_ : Unit) => r = nI nk) (fun _ _ => True) (fun _ => False)) 0 0 (fun _ => False) := by
  refine Met.ofW (cc := cX3_kindCount) (maxL := 1) (ret := (some .int)) (by decide) rfl ?_
  intro p e s m args below meth c s₁ B hml hv
  obtain ⟨hav, hP, hK, hn⟩ := hv
  have hx := B.exec
  have hb := B.bytes
  have hr := B.returns
  have hts := atoms_spec (ws := wsX3_kindCount) B.pre
  have hown : s.vm.findClass RX3 = some m.cls := findClass_of_methodNamed B.named
  have hlocks := B.notSynchronized
  have hS : va_S (fun _ => False) s.heap s.heap [] := va_S.rf
  generalize hQ : MQ below (va_Qi (fun (r : Int32) (_ : Unit) => r = nI nk) (fun _ _ => True) (fun _ => False)) args s 0 0 (fun _ => False) = Q
  refine W.eq (g2 := entryFrame m ([.ref (a 0)] : List Value).toArray 1) (by rw [hav]) ?_
  have hl := lv_entry ([.ref (a 0)]) (n := 1) (Nat.le_of_ble_eq_true rfl)
  rw [lg_entry_eq]
  generalize (lg_sl ([.ref (a 0)]) ++ List.replicate (1 - (lg_sl ([.ref (a 0)])).length) Slot.unset).toArray = ls at hl ⊢
  have hl : lv_has ls 1 [(0, .ref (a 0))] := hl
  obtain ⟨H, hH⟩ : ∃ H, H = s.heap := ⟨_, rfl⟩
  obtain ⟨locs, hlo⟩ : ∃ q : List Loc, q = [] := ⟨_, rfl⟩
  have hP : va_P (dC, dI) vwCl (w3 a cI cZ nk pa fa nc fo th tg nt tb te tk tt nu ub ue uk ut re ro fu bl go ra rc ex tc es wy) H := by rw [hH]; exact hP
  have hS : va_S (fun _ => False) s.heap H locs := by rw [hH, hlo]; exact hS
  refine zz_hl hH hlo ?_
  refine lv_aload_n hx hb dX3_kindCount_0 rfl (lv_at hl 0 rfl) ?_
  refine va_get (D := (dC, dI)) (ci := 3) (v := .ref (a 1)) (C := RX3) (T := TX3) (N := 15) hx hb hts (by decide +kernel) hown hK hP 0 rfl rfl 0 (by decide) (hts (.fieldLink RX3 12 "HandlerOptimizer" "kinds" "LHandlerOptimizer$Kinds;") (by decide +kernel)) (fun _ h9 => h9) rfl dX3_kindCount_1 ?_
  refine va_getN (D := (dC, dI)) (ci := 1) (v := .int (nI nk)) (C := RX1) (T := TX1) (N := 3) hx hb hts (by decide +kernel) hown hK hP 1 rfl rfl 2 (by decide) (va_Nw.use rfl (hn (.fieldLinkNest RX3 76 "HandlerOptimizer$Kinds" "count" "I" "HandlerOptimizer") (by decide +kernel))) (fun _ h9 => h9) rfl dX3_kindCount_4 ?_
  rw [← hQ]
  exact W.iret (v := nI nk) hx hb hr (fun t ht hW => ⟨⟨nI nk, (), rfl, rfl, trivial⟩, hS.F ht⟩) hS.2.2 dX3_kindCount_7

set_option maxHeartbeats 4000000 in
set_option maxRecDepth 100000 in
theorem c_X3_size (l : Launch) (dC : Nat → ClassId) (dI : Nat → Nat → Nat) (cI cZ cJ : ClassId) (a : Nat → Nat) (nk : Nat) (pa : Nat → Int32) (fa : Nat → Int32) (nc : Nat) (fo : Nat → Int32) (th : Nat → Int32) (tg : Nat → Int32) (nt : Nat) (tb : Nat → Int32) (te : Nat → Int32) (tk : Nat → Int32) (tt : Nat → Int32) (nu : Nat) (ub : Nat → Int32) (ue : Nat → Int32) (uk : Nat → Int32) (ut : Nat → Int32) (re : Nat → Int32) (ro : Nat → Int32) (fu : Nat → Int32) (bl : Nat → Int32) (go : Nat → Int32) (ra : Nat → Int32) (rc : Nat) (ex : Int32) (tc : Int32) (es : Int32) (wy : Int64) : Met l yX3_size wsX3_size ({ frames := 0, cells := 0, slots := 0, locals := 0 } : Room) (va_Pc [.ref (a 0)] (zPre (dC, dI) [(cI, .int), (cZ, .boolean), (cJ, .long)] (w3 a cI cZ nk pa fa nc fo th tg nt tb te tk tt nu ub ue uk ut re ro fu bl go ra rc ex tc es wy))) (va_Qi (fun (r : Int32) (_ : Unit) => r = nI nc) (fun _ _ => True) (fun _ => False)) 0 0 (fun _ => False) := by
  refine Met.ofW (cc := cX3_size) (maxL := 1) (ret := (some .int)) (by decide) rfl ?_
  intro p e s m args below meth c s₁ B hml hv
  obtain ⟨hav, hP, hK, hn⟩ := hv
  have hx := B.exec
  have hb := B.bytes
  have hr := B.returns
  have hts := atoms_spec (ws := wsX3_size) B.pre
  have hown : s.vm.findClass RX3 = some m.cls := findClass_of_methodNamed B.named
  have hlocks := B.notSynchronized
  have hS : va_S (fun _ => False) s.heap s.heap [] := va_S.rf
  generalize hQ : MQ below (va_Qi (fun (r : Int32) (_ : Unit) => r = nI nc) (fun _ _ => True) (fun _ => False)) args s 0 0 (fun _ => False) = Q
  refine W.eq (g2 := entryFrame m ([.ref (a 0)] : List Value).toArray 1) (by rw [hav]) ?_
  have hl := lv_entry ([.ref (a 0)]) (n := 1) (Nat.le_of_ble_eq_true rfl)
  rw [lg_entry_eq]
  generalize (lg_sl ([.ref (a 0)]) ++ List.replicate (1 - (lg_sl ([.ref (a 0)])).length) Slot.unset).toArray = ls at hl ⊢
  have hl : lv_has ls 1 [(0, .ref (a 0))] := hl
  obtain ⟨H, hH⟩ : ∃ H, H = s.heap := ⟨_, rfl⟩
  obtain ⟨locs, hlo⟩ : ∃ q : List Loc, q = [] := ⟨_, rfl⟩
  have hP : va_P (dC, dI) vwCl (w3 a cI cZ nk pa fa nc fo th tg nt tb te tk tt nu ub ue uk ut re ro fu bl go ra rc ex tc es wy) H := by rw [hH]; exact hP
  have hS : va_S (fun _ => False) s.heap H locs := by rw [hH, hlo]; exact hS
  refine zz_hl hH hlo ?_
  refine lv_aload_n hx hb dX3_size_0 rfl (lv_at hl 0 rfl) ?_
  refine va_get (D := (dC, dI)) (ci := 3) (v := .ref (a 4)) (C := RX3) (T := TX3) (N := 15) hx hb hts (by decide +kernel) hown hK hP 0 rfl rfl 1 (by decide) (hts (.fieldLink RX3 19 "HandlerOptimizer" "code" "LHandlerOptimizer$Code;") (by decide +kernel)) (fun _ h9 => h9) rfl dX3_size_1 ?_
  refine va_getN (D := (dC, dI)) (ci := 0) (v := .int (nI nc)) (C := RX0) (T := TX0) (N := 4) hx hb hts (by decide +kernel) hown hK hP 4 rfl rfl 3 (by decide) (va_Nw.use rfl (hn (.fieldLinkNest RX3 99 "HandlerOptimizer$Code" "count" "I" "HandlerOptimizer") (by decide +kernel))) (fun _ h9 => h9) rfl dX3_size_4 ?_
  rw [← hQ]
  exact W.iret (v := nI nc) hx hb hr (fun t ht hW => ⟨⟨nI nc, (), rfl, rfl, trivial⟩, hS.F ht⟩) hS.2.2 dX3_size_7

set_option maxHeartbeats 4000000 in
set_option maxRecDepth 100000 in
theorem c_X3_entryCount (l : Launch) (dC : Nat → ClassId) (dI : Nat → Nat → Nat) (cI cZ cJ : ClassId) (a : Nat → Nat) (nk : Nat) (pa : Nat → Int32) (fa : Nat → Int32) (nc : Nat) (fo : Nat → Int32) (th : Nat → Int32) (tg : Nat → Int32) (nt : Nat) (tb : Nat → Int32) (te : Nat → Int32) (tk : Nat → Int32) (tt : Nat → Int32) (nu : Nat) (ub : Nat → Int32) (ue : Nat → Int32) (uk : Nat → Int32) (ut : Nat → Int32) (re : Nat → Int32) (ro : Nat → Int32) (fu : Nat → Int32) (bl : Nat → Int32) (go : Nat → Int32) (ra : Nat → Int32) (rc : Nat) (ex : Int32) (tc : Int32) (es : Int32) (wy : Int64) : Met l yX3_entryCount wsX3_entryCount ({ frames := 0, cells := 0, slots := 0, locals := 0 } : Room) (va_Pc [.ref (a 0)] (zPre (dC, dI) [(cI, .int), (cZ, .boolean), (cJ, .long)] (w3 a cI cZ nk pa fa nc fo th tg nt tb te tk tt nu ub ue uk ut re ro fu bl go ra rc ex tc es wy))) (va_Qi (fun (r : Int32) (_ : Unit) => r = nI nt) (fun _ _ => True) (fun _ => False)) 0 0 (fun _ => False) := by
  refine Met.ofW (cc := cX3_entryCount) (maxL := 1) (ret := (some .int)) (by decide) rfl ?_
  intro p e s m args below meth c s₁ B hml hv
  obtain ⟨hav, hP, hK, hn⟩ := hv
  have hx := B.exec
  have hb := B.bytes
  have hr := B.returns
  have hts := atoms_spec (ws := wsX3_entryCount) B.pre
  have hown : s.vm.findClass RX3 = some m.cls := findClass_of_methodNamed B.named
  have hlocks := B.notSynchronized
  have hS : va_S (fun _ => False) s.heap s.heap [] := va_S.rf
  generalize hQ : MQ below (va_Qi (fun (r : Int32) (_ : Unit) => r = nI nt) (fun _ _ => True) (fun _ => False)) args s 0 0 (fun _ => False) = Q
  refine W.eq (g2 := entryFrame m ([.ref (a 0)] : List Value).toArray 1) (by rw [hav]) ?_
  have hl := lv_entry ([.ref (a 0)]) (n := 1) (Nat.le_of_ble_eq_true rfl)
  rw [lg_entry_eq]
  generalize (lg_sl ([.ref (a 0)]) ++ List.replicate (1 - (lg_sl ([.ref (a 0)])).length) Slot.unset).toArray = ls at hl ⊢
  have hl : lv_has ls 1 [(0, .ref (a 0))] := hl
  obtain ⟨H, hH⟩ : ∃ H, H = s.heap := ⟨_, rfl⟩
  obtain ⟨locs, hlo⟩ : ∃ q : List Loc, q = [] := ⟨_, rfl⟩
  have hP : va_P (dC, dI) vwCl (w3 a cI cZ nk pa fa nc fo th tg nt tb te tk tt nu ub ue uk ut re ro fu bl go ra rc ex tc es wy) H := by rw [hH]; exact hP
  have hS : va_S (fun _ => False) s.heap H locs := by rw [hH, hlo]; exact hS
  refine zz_hl hH hlo ?_
  refine lv_aload_n hx hb dX3_entryCount_0 rfl (lv_at hl 0 rfl) ?_
  refine va_get (D := (dC, dI)) (ci := 3) (v := .ref (a 8)) (C := RX3) (T := TX3) (N := 15) hx hb hts (by decide +kernel) hown hK hP 0 rfl rfl 2 (by decide) (hts (.fieldLink RX3 26 "HandlerOptimizer" "table" "LHandlerOptimizer$Table;") (by decide +kernel)) (fun _ h9 => h9) rfl dX3_entryCount_1 ?_
  refine va_getN (D := (dC, dI)) (ci := 2) (v := .int (nI nt)) (C := RX2) (T := TX2) (N := 5) hx hb hts (by decide +kernel) hown hK hP 8 rfl rfl 4 (by decide) (va_Nw.use rfl (hn (.fieldLinkNest RX3 134 "HandlerOptimizer$Table" "count" "I" "HandlerOptimizer") (by decide +kernel))) (fun _ h9 => h9) rfl dX3_entryCount_4 ?_
  rw [← hQ]
  exact W.iret (v := nI nt) hx hb hr (fun t ht hW => ⟨⟨nI nt, (), rfl, rfl, trivial⟩, hS.F ht⟩) hS.2.2 dX3_entryCount_7

set_option maxHeartbeats 4000000 in
set_option maxRecDepth 100000 in
theorem c_X3_executed (l : Launch) (dC : Nat → ClassId) (dI : Nat → Nat → Nat) (cI cZ cJ : ClassId) (a : Nat → Nat) (nk : Nat) (pa : Nat → Int32) (fa : Nat → Int32) (nc : Nat) (fo : Nat → Int32) (th : Nat → Int32) (tg : Nat → Int32) (nt : Nat) (tb : Nat → Int32) (te : Nat → Int32) (tk : Nat → Int32) (tt : Nat → Int32) (nu : Nat) (ub : Nat → Int32) (ue : Nat → Int32) (uk : Nat → Int32) (ut : Nat → Int32) (re : Nat → Int32) (ro : Nat → Int32) (fu : Nat → Int32) (bl : Nat → Int32) (go : Nat → Int32) (ra : Nat → Int32) (rc : Nat) (ex : Int32) (tc : Int32) (es : Int32) (wy : Int64) : Met l yX3_executed wsX3_executed ({ frames := 0, cells := 0, slots := 0, locals := 0 } : Room) (va_Pc [.ref (a 0)] (zPre (dC, dI) [(cI, .int), (cZ, .boolean), (cJ, .long)] (w3 a cI cZ nk pa fa nc fo th tg nt tb te tk tt nu ub ue uk ut re ro fu bl go ra rc ex tc es wy))) (va_Qi (fun (r : Int32) (_ : Unit) => r = ex) (fun _ _ => True) (fun _ => False)) 0 0 (fun _ => False) := by
  refine Met.ofW (cc := cX3_executed) (maxL := 1) (ret := (some .int)) (by decide) rfl ?_
  intro p e s m args below meth c s₁ B hml hv
  obtain ⟨hav, hP, hK, hn⟩ := hv
  have hx := B.exec
  have hb := B.bytes
  have hr := B.returns
  have hts := atoms_spec (ws := wsX3_executed) B.pre
  have hown : s.vm.findClass RX3 = some m.cls := findClass_of_methodNamed B.named
  have hlocks := B.notSynchronized
  have hS : va_S (fun _ => False) s.heap s.heap [] := va_S.rf
  generalize hQ : MQ below (va_Qi (fun (r : Int32) (_ : Unit) => r = ex) (fun _ _ => True) (fun _ => False)) args s 0 0 (fun _ => False) = Q
  refine W.eq (g2 := entryFrame m ([.ref (a 0)] : List Value).toArray 1) (by rw [hav]) ?_
  have hl := lv_entry ([.ref (a 0)]) (n := 1) (Nat.le_of_ble_eq_true rfl)
  rw [lg_entry_eq]
  generalize (lg_sl ([.ref (a 0)]) ++ List.replicate (1 - (lg_sl ([.ref (a 0)])).length) Slot.unset).toArray = ls at hl ⊢
  have hl : lv_has ls 1 [(0, .ref (a 0))] := hl
  obtain ⟨H, hH⟩ : ∃ H, H = s.heap := ⟨_, rfl⟩
  obtain ⟨locs, hlo⟩ : ∃ q : List Loc, q = [] := ⟨_, rfl⟩
  have hP : va_P (dC, dI) vwCl (w3 a cI cZ nk pa fa nc fo th tg nt tb te tk tt nu ub ue uk ut re ro fu bl go ra rc ex tc es wy) H := by rw [hH]; exact hP
  have hS : va_S (fun _ => False) s.heap H locs := by rw [hH, hlo]; exact hS
  refine zz_hl hH hlo ?_
  refine lv_aload_n hx hb dX3_executed_0 rfl (lv_at hl 0 rfl) ?_
  refine va_get (D := (dC, dI)) (ci := 3) (v := .int ex) (C := RX3) (T := TX3) (N := 15) hx hb hts (by decide +kernel) hown hK hP 0 rfl rfl 11 (by decide) (hts (.fieldLink RX3 196 "HandlerOptimizer" "executedCount" "I") (by decide +kernel)) (fun _ h9 => h9) rfl dX3_executed_1 ?_
  rw [← hQ]
  exact W.iret (v := ex) hx hb hr (fun t ht hW => ⟨⟨ex, (), rfl, rfl, trivial⟩, hS.F ht⟩) hS.2.2 dX3_executed_4

set_option maxHeartbeats 4000000 in
set_option maxRecDepth 100000 in
theorem c_X3_taken (l : Launch) (dC : Nat → ClassId) (dI : Nat → Nat → Nat) (cI cZ cJ : ClassId) (a : Nat → Nat) (nk : Nat) (pa : Nat → Int32) (fa : Nat → Int32) (nc : Nat) (fo : Nat → Int32) (th : Nat → Int32) (tg : Nat → Int32) (nt : Nat) (tb : Nat → Int32) (te : Nat → Int32) (tk : Nat → Int32) (tt : Nat → Int32) (nu : Nat) (ub : Nat → Int32) (ue : Nat → Int32) (uk : Nat → Int32) (ut : Nat → Int32) (re : Nat → Int32) (ro : Nat → Int32) (fu : Nat → Int32) (bl : Nat → Int32) (go : Nat → Int32) (ra : Nat → Int32) (rc : Nat) (ex : Int32) (tc : Int32) (es : Int32) (wy : Int64) : Met l yX3_taken wsX3_taken ({ frames := 0, cells := 0, slots := 0, locals := 0 } : Room) (va_Pc [.ref (a 0)] (zPre (dC, dI) [(cI, .int), (cZ, .boolean), (cJ, .long)] (w3 a cI cZ nk pa fa nc fo th tg nt tb te tk tt nu ub ue uk ut re ro fu bl go ra rc ex tc es wy))) (va_Qi (fun (r : Int32) (_ : Unit) => r = tc) (fun _ _ => True) (fun _ => False)) 0 0 (fun _ => False) := by
  refine Met.ofW (cc := cX3_taken) (maxL := 1) (ret := (some .int)) (by decide) rfl ?_
  intro p e s m args below meth c s₁ B hml hv
  obtain ⟨hav, hP, hK, hn⟩ := hv
  have hx := B.exec
  have hb := B.bytes
  have hr := B.returns
  have hts := atoms_spec (ws := wsX3_taken) B.pre
  have hown : s.vm.findClass RX3 = some m.cls := findClass_of_methodNamed B.named
  have hlocks := B.notSynchronized
  have hS : va_S (fun _ => False) s.heap s.heap [] := va_S.rf
  generalize hQ : MQ below (va_Qi (fun (r : Int32) (_ : Unit) => r = tc) (fun _ _ => True) (fun _ => False)) args s 0 0 (fun _ => False) = Q
  refine W.eq (g2 := entryFrame m ([.ref (a 0)] : List Value).toArray 1) (by rw [hav]) ?_
  have hl := lv_entry ([.ref (a 0)]) (n := 1) (Nat.le_of_ble_eq_true rfl)
  rw [lg_entry_eq]
  generalize (lg_sl ([.ref (a 0)]) ++ List.replicate (1 - (lg_sl ([.ref (a 0)])).length) Slot.unset).toArray = ls at hl ⊢
  have hl : lv_has ls 1 [(0, .ref (a 0))] := hl
  obtain ⟨H, hH⟩ : ∃ H, H = s.heap := ⟨_, rfl⟩
  obtain ⟨locs, hlo⟩ : ∃ q : List Loc, q = [] := ⟨_, rfl⟩
  have hP : va_P (dC, dI) vwCl (w3 a cI cZ nk pa fa nc fo th tg nt tb te tk tt nu ub ue uk ut re ro fu bl go ra rc ex tc es wy) H := by rw [hH]; exact hP
  have hS : va_S (fun _ => False) s.heap H locs := by rw [hH, hlo]; exact hS
  refine zz_hl hH hlo ?_
  refine lv_aload_n hx hb dX3_taken_0 rfl (lv_at hl 0 rfl) ?_
  refine va_get (D := (dC, dI)) (ci := 3) (v := .int tc) (C := RX3) (T := TX3) (N := 15) hx hb hts (by decide +kernel) hown hK hP 0 rfl rfl 12 (by decide) (hts (.fieldLink RX3 199 "HandlerOptimizer" "takenCount" "I") (by decide +kernel)) (fun _ h9 => h9) rfl dX3_taken_1 ?_
  rw [← hQ]
  exact W.iret (v := tc) hx hb hr (fun t ht hW => ⟨⟨tc, (), rfl, rfl, trivial⟩, hS.F ht⟩) hS.2.2 dX3_taken_4

set_option maxHeartbeats 4000000 in
set_option maxRecDepth 100000 in
theorem c_X3_escaped (l : Launch) (dC : Nat → ClassId) (dI : Nat → Nat → Nat) (cI cZ cJ : ClassId) (a : Nat → Nat) (nk : Nat) (pa : Nat → Int32) (fa : Nat → Int32) (nc : Nat) (fo : Nat → Int32) (th : Nat → Int32) (tg : Nat → Int32) (nt : Nat) (tb : Nat → Int32) (te : Nat → Int32) (tk : Nat → Int32) (tt : Nat → Int32) (nu : Nat) (ub : Nat → Int32) (ue : Nat → Int32) (uk : Nat → Int32) (ut : Nat → Int32) (re : Nat → Int32) (ro : Nat → Int32) (fu : Nat → Int32) (bl : Nat → Int32) (go : Nat → Int32) (ra : Nat → Int32) (rc : Nat) (ex : Int32) (tc : Int32) (es : Int32) (wy : Int64) : Met l yX3_escaped wsX3_escaped ({ frames := 0, cells := 0, slots := 0, locals := 0 } : Room) (va_Pc [.ref (a 0)] (zPre (dC, dI) [(cI, .int), (cZ, .boolean), (cJ, .long)] (w3 a cI cZ nk pa fa nc fo th tg nt tb te tk tt nu ub ue uk ut re ro fu bl go ra rc ex tc es wy))) (va_Qi (fun (r : Int32) (_ : Unit) => r = es) (fun _ _ => True) (fun _ => False)) 0 0 (fun _ => False) := by
  refine Met.ofW (cc := cX3_escaped) (maxL := 1) (ret := (some .int)) (by decide) rfl ?_
  intro p e s m args below meth c s₁ B hml hv
  obtain ⟨hav, hP, hK, hn⟩ := hv
  have hx := B.exec
  have hb := B.bytes
  have hr := B.returns
  have hts := atoms_spec (ws := wsX3_escaped) B.pre
  have hown : s.vm.findClass RX3 = some m.cls := findClass_of_methodNamed B.named
  have hlocks := B.notSynchronized
  have hS : va_S (fun _ => False) s.heap s.heap [] := va_S.rf
  generalize hQ : MQ below (va_Qi (fun (r : Int32) (_ : Unit) => r = es) (fun _ _ => True) (fun _ => False)) args s 0 0 (fun _ => False) = Q
  refine W.eq (g2 := entryFrame m ([.ref (a 0)] : List Value).toArray 1) (by rw [hav]) ?_
  have hl := lv_entry ([.ref (a 0)]) (n := 1) (Nat.le_of_ble_eq_true rfl)
  rw [lg_entry_eq]
  generalize (lg_sl ([.ref (a 0)]) ++ List.replicate (1 - (lg_sl ([.ref (a 0)])).length) Slot.unset).toArray = ls at hl ⊢
  have hl : lv_has ls 1 [(0, .ref (a 0))] := hl
  obtain ⟨H, hH⟩ : ∃ H, H = s.heap := ⟨_, rfl⟩
  obtain ⟨locs, hlo⟩ : ∃ q : List Loc, q = [] := ⟨_, rfl⟩
  have hP : va_P (dC, dI) vwCl (w3 a cI cZ nk pa fa nc fo th tg nt tb te tk tt nu ub ue uk ut re ro fu bl go ra rc ex tc es wy) H := by rw [hH]; exact hP
  have hS : va_S (fun _ => False) s.heap H locs := by rw [hH, hlo]; exact hS
  refine zz_hl hH hlo ?_
  refine lv_aload_n hx hb dX3_escaped_0 rfl (lv_at hl 0 rfl) ?_
  refine va_get (D := (dC, dI)) (ci := 3) (v := .int es) (C := RX3) (T := TX3) (N := 15) hx hb hts (by decide +kernel) hown hK hP 0 rfl rfl 13 (by decide) (hts (.fieldLink RX3 53 "HandlerOptimizer" "escapedKind" "I") (by decide +kernel)) (fun _ h9 => h9) rfl dX3_escaped_1 ?_
  rw [← hQ]
  exact W.iret (v := es) hx hb hr (fun t ht hW => ⟨⟨es, (), rfl, rfl, trivial⟩, hS.F ht⟩) hS.2.2 dX3_escaped_4

set_option maxHeartbeats 4000000 in
set_option maxRecDepth 100000 in
theorem c_X3_way (l : Launch) (dC : Nat → ClassId) (dI : Nat → Nat → Nat) (cI cZ cJ : ClassId) (a : Nat → Nat) (nk : Nat) (pa : Nat → Int32) (fa : Nat → Int32) (nc : Nat) (fo : Nat → Int32) (th : Nat → Int32) (tg : Nat → Int32) (nt : Nat) (tb : Nat → Int32) (te : Nat → Int32) (tk : Nat → Int32) (tt : Nat → Int32) (nu : Nat) (ub : Nat → Int32) (ue : Nat → Int32) (uk : Nat → Int32) (ut : Nat → Int32) (re : Nat → Int32) (ro : Nat → Int32) (fu : Nat → Int32) (bl : Nat → Int32) (go : Nat → Int32) (ra : Nat → Int32) (rc : Nat) (ex : Int32) (tc : Int32) (es : Int32) (wy : Int64) : Met l yX3_way wsX3_way ({ frames := 0, cells := 0, slots := 0, locals := 0 } : Room) (va_Pc [.ref (a 0)] (zPre (dC, dI) [(cI, .int), (cZ, .boolean), (cJ, .long)] (w3 a cI cZ nk pa fa nc fo th tg nt tb te tk tt nu ub ue uk ut re ro fu bl go ra rc ex tc es wy))) (va_Ql (fun (r : Int64) (_ : Unit) => r = wy) (fun _ _ => True) (fun _ => False)) 0 0 (fun _ => False) := by
  refine Met.ofW (cc := cX3_way) (maxL := 1) (ret := (some .long)) (by decide) rfl ?_
  intro p e s m args below meth c s₁ B hml hv
  obtain ⟨hav, hP, hK, hn⟩ := hv
  have hx := B.exec
  have hb := B.bytes
  have hr := B.returns
  have hts := atoms_spec (ws := wsX3_way) B.pre
  have hown : s.vm.findClass RX3 = some m.cls := findClass_of_methodNamed B.named
  have hlocks := B.notSynchronized
  have hS : va_S (fun _ => False) s.heap s.heap [] := va_S.rf
  generalize hQ : MQ below (va_Ql (fun (r : Int64) (_ : Unit) => r = wy) (fun _ _ => True) (fun _ => False)) args s 0 0 (fun _ => False) = Q
  refine W.eq (g2 := entryFrame m ([.ref (a 0)] : List Value).toArray 1) (by rw [hav]) ?_
  have hl := lv_entry ([.ref (a 0)]) (n := 1) (Nat.le_of_ble_eq_true rfl)
  rw [lg_entry_eq]
  generalize (lg_sl ([.ref (a 0)]) ++ List.replicate (1 - (lg_sl ([.ref (a 0)])).length) Slot.unset).toArray = ls at hl ⊢
  have hl : lv_has ls 1 [(0, .ref (a 0))] := hl
  obtain ⟨H, hH⟩ : ∃ H, H = s.heap := ⟨_, rfl⟩
  obtain ⟨locs, hlo⟩ : ∃ q : List Loc, q = [] := ⟨_, rfl⟩
  have hP : va_P (dC, dI) vwCl (w3 a cI cZ nk pa fa nc fo th tg nt tb te tk tt nu ub ue uk ut re ro fu bl go ra rc ex tc es wy) H := by rw [hH]; exact hP
  have hS : va_S (fun _ => False) s.heap H locs := by rw [hH, hlo]; exact hS
  refine zz_hl hH hlo ?_
  refine lv_aload_n hx hb dX3_way_0 rfl (lv_at hl 0 rfl) ?_
  refine va_get (D := (dC, dI)) (ci := 3) (v := .long wy) (C := RX3) (T := TX3) (N := 15) hx hb hts (by decide +kernel) hown hK hP 0 rfl rfl 14 (by decide) (hts (.fieldLink RX3 204 "HandlerOptimizer" "wayNumber" "J") (by decide +kernel)) (fun _ h9 => h9) rfl dX3_way_1 ?_
  rw [← hQ]
  exact W.lret (v := wy) hx hb hr (fun t ht hW => ⟨⟨wy, (), rfl, rfl, trivial⟩, hS.F ht⟩) hS.2.2 dX3_way_4

set_option maxHeartbeats 4000000 in
set_option maxRecDepth 100000 in
theorem c_X3_digest (l : Launch) (dC : Nat → ClassId) (dI : Nat → Nat → Nat) (cI cZ cJ : ClassId) (a : Nat → Nat) (nk : Nat) (pa : Nat → Int32) (fa : Nat → Int32) (nc : Nat) (fo : Nat → Int32) (th : Nat → Int32) (tg : Nat → Int32) (nt : Nat) (tb : Nat → Int32) (te : Nat → Int32) (tk : Nat → Int32) (tt : Nat → Int32) (nu : Nat) (ub : Nat → Int32) (ue : Nat → Int32) (uk : Nat → Int32) (ut : Nat → Int32) (re : Nat → Int32) (ro : Nat → Int32) (fu : Nat → Int32) (bl : Nat → Int32) (go : Nat → Int32) (ra : Nat → Int32) (rc : Nat) (ex : Int32) (tc : Int32) (es : Int32) (wy : Int64) (T : Nat → Nat → Nat) (up : Nat → Nat → Bool) (hg : g3 nk fa up nt tb te tk tt T) (hc : okC nk nc fo th tg) : Met l yX3_digest wsX3_digest ({ frames := 0, cells := 0, slots := 0, locals := 0 } : Room) (va_Pc [.ref (a 0)] (zPre (dC, dI) [(cI, .int), (cZ, .boolean), (cJ, .long)] (w3 a cI cZ nk pa fa nc fo th tg nt tb te tk tt nu ub ue uk ut re ro fu bl go ra rc ex tc es wy))) (va_Ql (fun (r : Int64) (_ : Unit) => r = dgA nk pa nc fo th tg nt T ex tc es) (fun _ _ => True) (fun _ => False)) 0 0 (fun _ => False) := by
  refine Met.ofW (cc := cX3_digest) (maxL := 4) (ret := (some .long)) (by decide) rfl ?_
  intro p e s m args below meth c s₁ B hml hv
  obtain ⟨hav, hP, hK, hn⟩ := hv
  have hx := B.exec
  have hb := B.bytes
  have hr := B.returns
  have hts := atoms_spec (ws := wsX3_digest) B.pre
  have hown : s.vm.findClass RX3 = some m.cls := findClass_of_methodNamed B.named
  have hlocks := B.notSynchronized
  have hS : va_S (fun _ => False) s.heap s.heap [] := va_S.rf
  generalize hQ : MQ below (va_Ql (fun (r : Int64) (_ : Unit) => r = dgA nk pa nc fo th tg nt T ex tc es) (fun _ _ => True) (fun _ => False)) args s 0 0 (fun _ => False) = Q
  refine W.eq (g2 := entryFrame m ([.ref (a 0)] : List Value).toArray 4) (by rw [hav]) ?_
  have hl := lv_entry ([.ref (a 0)]) (n := 4) (Nat.le_of_ble_eq_true rfl)
  rw [lg_entry_eq]
  generalize (lg_sl ([.ref (a 0)]) ++ List.replicate (4 - (lg_sl ([.ref (a 0)])).length) Slot.unset).toArray = ls at hl ⊢
  have hl : lv_has ls 4 [(0, .ref (a 0))] := hl
  obtain ⟨H, hH⟩ : ∃ H, H = s.heap := ⟨_, rfl⟩
  obtain ⟨locs, hlo⟩ : ∃ q : List Loc, q = [] := ⟨_, rfl⟩
  have hP : va_P (dC, dI) vwCl (w3 a cI cZ nk pa fa nc fo th tg nt tb te tk tt nu ub ue uk ut re ro fu bl go ra rc ex tc es wy) H := by rw [hH]; exact hP
  have hS : va_S (fun _ => False) s.heap H locs := by rw [hH, hlo]; exact hS
  refine zz_hl hH hlo ?_
  obtain ⟨hk01, hk8, hnt, hT, hO, hF, hU⟩ := id hg
  obtain ⟨hnc, hC⟩ := id hc
  refine lv_ldc2 (own := RX3) (v := 137) hx hb hown (hts (.constantLong RX3 222 137) (by decide +kernel)) dX3_digest_0 ?_
  refine lv_lstore_n (lv' := [(1, .long 137), (0, .ref (a 0))]) hx hb dX3_digest_3 rfl hl (by decide) rfl (fun ls hl => ?_)
  refine lv_lload_n hx hb dX3_digest_4 rfl (lv_at hl 0 rfl) ?_
  refine lv_ldc2 (own := RX3) (v := 31) hx hb hown (hts (.constantLong RX3 224 31) (by decide +kernel)) dX3_digest_5 ?_
  refine lv_lmul hx hb dX3_digest_8 ?_
  refine lv_aload_n hx hb dX3_digest_9 rfl (lv_at hl 1 rfl) ?_
  refine va_get (D := (dC, dI)) (ci := 3) (v := .ref (a 1)) (C := RX3) (T := TX3) (N := 15) hx hb hts (by decide +kernel) hown hK hP 0 rfl rfl 0 (by decide) (hts (.fieldLink RX3 12 "HandlerOptimizer" "kinds" "LHandlerOptimizer$Kinds;") (by decide +kernel)) (fun _ h9 => h9) rfl dX3_digest_10 ?_
  refine va_getN (D := (dC, dI)) (ci := 1) (v := .int (nI nk)) (C := RX1) (T := TX1) (N := 3) hx hb hts (by decide +kernel) hown hK hP 1 rfl rfl 2 (by decide) (va_Nw.use rfl (hn (.fieldLinkNest RX3 76 "HandlerOptimizer$Kinds" "count" "I" "HandlerOptimizer") (by decide +kernel))) (fun _ h9 => h9) rfl dX3_digest_13 ?_
  refine lv_i2l (v := (nI nk).toInt64) hx hb dX3_digest_16 rfl ?_
  refine lv_ladd hx hb dX3_digest_17 ?_
  refine lv_lstore_n (lv' := [(1, .long ((137 * 31) + ((nI nk).toInt64))), (0, .ref (a 0))]) hx hb dX3_digest_18 rfl hl (by decide) rfl (fun ls hl => ?_)
  refine lv_iconst (v := 1) hx hb dX3_digest_19 (by decide) ?_
  refine lv_istore_n (lv' := [(3, .int 1), (1, .long ((137 * 31) + ((nI nk).toInt64))), (0, .ref (a 0))]) hx hb dX3_digest_20 rfl hl (by decide) rfl (fun ls hl => ?_)
  have J_21 : ∀ (n9 : Nat) (y : Nat) (d : Int64) (H : Heap) (locs : List Loc) (ls : Array Slot), (y + 1 ≤ nk) → (d = it (fun j (d : Int64) => d * 31 + (pa (j + 1)).toInt64) y (137 * 31 + (nI nk).toInt64)) → nk - y < n9 → va_P (dC, dI) vwCl (w3 a cI cZ nk pa fa nc fo th tg nt tb te tk tt nu ub ue uk ut re ro fu bl go ra rc ex tc es wy) H → va_S (fun _ => False) s.heap H locs → lv_has ls 4 [(0, .ref (a 0)), (1, .long d), (3, .int (nI (y + 1)))] → W p l e (headSpec wsX3_digest ({ frames := 0, cells := 0, slots := 0, locals := 0 } : Room)).room s m args below meth c H locs 0 0 Q (F0 m 21 ls []) := by
    intro n9
    induction n9 with
    | zero => intro y d H locs ls hy hd hmu; exact absurd hmu (Nat.not_lt_zero _)
    | succ n9 ih_21 =>
      intro y d H locs ls hy hd hmu hP hS hl
      refine lv_iload_n hx hb dX3_digest_21 rfl (lv_at hl 2 rfl) ?_
      refine lv_aload_n hx hb dX3_digest_22 rfl (lv_at hl 0 rfl) ?_
      refine va_get (D := (dC, dI)) (ci := 3) (v := .ref (a 1)) (C := RX3) (T := TX3) (N := 15) hx hb hts (by decide +kernel) hown hK hP 0 rfl rfl 0 (by decide) (hts (.fieldLink RX3 12 "HandlerOptimizer" "kinds" "LHandlerOptimizer$Kinds;") (by decide +kernel)) (fun _ h9 => h9) rfl dX3_digest_23 ?_
      refine va_getN (D := (dC, dI)) (ci := 1) (v := .int (nI nk)) (C := RX1) (T := TX1) (N := 3) hx hb hts (by decide +kernel) hown hK hP 1 rfl rfl 2 (by decide) (va_Nw.use rfl (hn (.fieldLinkNest RX3 76 "HandlerOptimizer$Kinds" "count" "I" "HandlerOptimizer") (by decide +kernel))) (fun _ h9 => h9) rfl dX3_digest_26 ?_
      refine lv_icmp_ge (tgt := 55) hx hb dX3_digest_29 (by decide) (fun c_1 => ?_) (fun c_1 => ?_)
      · skip
        have c_1 := (zz_get (a := y + 1) (b := nk) (by omega) (by omega)).mp c_1
        refine lv_lload_n hx hb dX3_digest_55 rfl (lv_at hl 1 rfl) ?_
        refine lv_ldc2 (own := RX3) (v := 31) hx hb hown (hts (.constantLong RX3 224 31) (by decide +kernel)) dX3_digest_56 ?_
        refine lv_lmul hx hb dX3_digest_59 ?_
        refine lv_aload_n hx hb dX3_digest_60 rfl (lv_at hl 0 rfl) ?_
        refine va_get (D := (dC, dI)) (ci := 3) (v := .ref (a 4)) (C := RX3) (T := TX3) (N := 15) hx hb hts (by decide +kernel) hown hK hP 0 rfl rfl 1 (by decide) (hts (.fieldLink RX3 19 "HandlerOptimizer" "code" "LHandlerOptimizer$Code;") (by decide +kernel)) (fun _ h9 => h9) rfl dX3_digest_61 ?_
        refine va_getN (D := (dC, dI)) (ci := 0) (v := .int (nI nc)) (C := RX0) (T := TX0) (N := 4) hx hb hts (by decide +kernel) hown hK hP 4 rfl rfl 3 (by decide) (va_Nw.use rfl (hn (.fieldLinkNest RX3 99 "HandlerOptimizer$Code" "count" "I" "HandlerOptimizer") (by decide +kernel))) (fun _ h9 => h9) rfl dX3_digest_64 ?_
        refine lv_i2l (v := (nI nc).toInt64) hx hb dX3_digest_67 rfl ?_
        refine lv_ladd hx hb dX3_digest_68 ?_
        refine lv_lstore_n (lv' := [(1, .long ((d * 31) + ((nI nc).toInt64))), (0, .ref (a 0)), (3, .int (nI (y + 1)))]) hx hb dX3_digest_69 rfl hl (by decide) rfl (fun ls hl => ?_)
        refine lv_iconst (v := 0) hx hb dX3_digest_70 (by decide) ?_
        refine lv_istore_n (lv' := [(3, .int 0), (1, .long ((d * 31) + ((nI nc).toInt64))), (0, .ref (a 0))]) hx hb dX3_digest_71 rfl hl (by decide) rfl (fun ls hl => ?_)
        have J_72 : ∀ (n9 : Nat) (y2 : Nat) (d2 : Int64) (H : Heap) (locs : List Loc) (ls : Array Slot), (y2 ≤ nc) → (d2 = it (fun i (d : Int64) => ((d * 31 + (fo i).toInt64) * 31 + (th i).toInt64) * 31 + (tg i).toInt64) y2 (dgK pa nk (137 * 31 + (nI nk).toInt64) * 31 + (nI nc).toInt64)) → nc - y2 < n9 → va_P (dC, dI) vwCl (w3 a cI cZ nk pa fa nc fo th tg nt tb te tk tt nu ub ue uk ut re ro fu bl go ra rc ex tc es wy) H → va_S (fun _ => False) s.heap H locs → lv_has ls 4 [(0, .ref (a 0)), (1, .long d2), (3, .int (nI y2))] → W p l e (headSpec wsX3_digest ({ frames := 0, cells := 0, slots := 0, locals := 0 } : Room)).room s m args below meth c H locs 0 0 Q (F0 m 72 ls []) := by
          intro n9
          induction n9 with
          | zero => intro y2 d2 H locs ls hy2 hd2 hmu; exact absurd hmu (Nat.not_lt_zero _)
          | succ n9 ih_72 =>
            intro y2 d2 H locs ls hy2 hd2 hmu hP hS hl
            refine lv_iload_n hx hb dX3_digest_72 rfl (lv_at hl 2 rfl) ?_
            refine lv_aload_n hx hb dX3_digest_73 rfl (lv_at hl 0 rfl) ?_
            refine va_get (D := (dC, dI)) (ci := 3) (v := .ref (a 4)) (C := RX3) (T := TX3) (N := 15) hx hb hts (by decide +kernel) hown hK hP 0 rfl rfl 1 (by decide) (hts (.fieldLink RX3 19 "HandlerOptimizer" "code" "LHandlerOptimizer$Code;") (by decide +kernel)) (fun _ h9 => h9) rfl dX3_digest_74 ?_
            refine va_getN (D := (dC, dI)) (ci := 0) (v := .int (nI nc)) (C := RX0) (T := TX0) (N := 4) hx hb hts (by decide +kernel) hown hK hP 4 rfl rfl 3 (by decide) (va_Nw.use rfl (hn (.fieldLinkNest RX3 99 "HandlerOptimizer$Code" "count" "I" "HandlerOptimizer") (by decide +kernel))) (fun _ h9 => h9) rfl dX3_digest_77 ?_
            refine lv_icmp_ge (tgt := 140) hx hb dX3_digest_80 (by decide) (fun c_2 => ?_) (fun c_2 => ?_)
            · skip
              have c_2 := (zz_get (a := y2) (b := nc) (by omega) (by omega)).mp c_2
              refine lv_lload_n hx hb dX3_digest_140 rfl (lv_at hl 1 rfl) ?_
              refine lv_ldc2 (own := RX3) (v := 31) hx hb hown (hts (.constantLong RX3 224 31) (by decide +kernel)) dX3_digest_141 ?_
              refine lv_lmul hx hb dX3_digest_144 ?_
              refine lv_aload_n hx hb dX3_digest_145 rfl (lv_at hl 0 rfl) ?_
              refine va_get (D := (dC, dI)) (ci := 3) (v := .ref (a 8)) (C := RX3) (T := TX3) (N := 15) hx hb hts (by decide +kernel) hown hK hP 0 rfl rfl 2 (by decide) (hts (.fieldLink RX3 26 "HandlerOptimizer" "table" "LHandlerOptimizer$Table;") (by decide +kernel)) (fun _ h9 => h9) rfl dX3_digest_146 ?_
              refine va_getN (D := (dC, dI)) (ci := 2) (v := .int (nI nt)) (C := RX2) (T := TX2) (N := 5) hx hb hts (by decide +kernel) hown hK hP 8 rfl rfl 4 (by decide) (va_Nw.use rfl (hn (.fieldLinkNest RX3 134 "HandlerOptimizer$Table" "count" "I" "HandlerOptimizer") (by decide +kernel))) (fun _ h9 => h9) rfl dX3_digest_149 ?_
              refine lv_i2l (v := (nI nt).toInt64) hx hb dX3_digest_152 rfl ?_
              refine lv_ladd hx hb dX3_digest_153 ?_
              refine lv_lstore_n (lv' := [(1, .long ((d2 * 31) + ((nI nt).toInt64))), (0, .ref (a 0)), (3, .int (nI y2))]) hx hb dX3_digest_154 rfl hl (by decide) rfl (fun ls hl => ?_)
              refine lv_iconst (v := 0) hx hb dX3_digest_155 (by decide) ?_
              refine lv_istore_n (lv' := [(3, .int 0), (1, .long ((d2 * 31) + ((nI nt).toInt64))), (0, .ref (a 0))]) hx hb dX3_digest_156 rfl hl (by decide) rfl (fun ls hl => ?_)
              have J_157 : ∀ (n9 : Nat) (y3 : Nat) (d3 : Int64) (H : Heap) (locs : List Loc) (ls : Array Slot), (y3 ≤ nt) → (d3 = it (fun e (d : Int64) => (((d * 31 + (nI (T 0 e)).toInt64) * 31 + (nI (T 1 e)).toInt64) * 31 + (nI (T 2 e)).toInt64) * 31 + (nI (T 3 e)).toInt64) y3 (dgC fo th tg nc (dgK pa nk (137 * 31 + (nI nk).toInt64) * 31 + (nI nc).toInt64) * 31 + (nI nt).toInt64)) → nt - y3 < n9 → va_P (dC, dI) vwCl (w3 a cI cZ nk pa fa nc fo th tg nt tb te tk tt nu ub ue uk ut re ro fu bl go ra rc ex tc es wy) H → va_S (fun _ => False) s.heap H locs → lv_has ls 4 [(0, .ref (a 0)), (1, .long d3), (3, .int (nI y3))] → W p l e (headSpec wsX3_digest ({ frames := 0, cells := 0, slots := 0, locals := 0 } : Room)).room s m args below meth c H locs 0 0 Q (F0 m 157 ls []) := by
                intro n9
                induction n9 with
                | zero => intro y3 d3 H locs ls hy3 hd3 hmu; exact absurd hmu (Nat.not_lt_zero _)
                | succ n9 ih_157 =>
                  intro y3 d3 H locs ls hy3 hd3 hmu hP hS hl
                  refine lv_iload_n hx hb dX3_digest_157 rfl (lv_at hl 2 rfl) ?_
                  refine lv_aload_n hx hb dX3_digest_158 rfl (lv_at hl 0 rfl) ?_
                  refine va_get (D := (dC, dI)) (ci := 3) (v := .ref (a 8)) (C := RX3) (T := TX3) (N := 15) hx hb hts (by decide +kernel) hown hK hP 0 rfl rfl 2 (by decide) (hts (.fieldLink RX3 26 "HandlerOptimizer" "table" "LHandlerOptimizer$Table;") (by decide +kernel)) (fun _ h9 => h9) rfl dX3_digest_159 ?_
                  refine va_getN (D := (dC, dI)) (ci := 2) (v := .int (nI nt)) (C := RX2) (T := TX2) (N := 5) hx hb hts (by decide +kernel) hown hK hP 8 rfl rfl 4 (by decide) (va_Nw.use rfl (hn (.fieldLinkNest RX3 134 "HandlerOptimizer$Table" "count" "I" "HandlerOptimizer") (by decide +kernel))) (fun _ h9 => h9) rfl dX3_digest_162 ?_
                  refine lv_icmp_ge (tgt := 242) hx hb dX3_digest_165 (by decide) (fun c_3 => ?_) (fun c_3 => ?_)
                  · skip
                    have c_3 := (zz_get (a := y3) (b := nt) (by omega) (by omega)).mp c_3
                    refine lv_lload_n hx hb dX3_digest_242 rfl (lv_at hl 1 rfl) ?_
                    refine lv_ldc2 (own := RX3) (v := 31) hx hb hown (hts (.constantLong RX3 224 31) (by decide +kernel)) dX3_digest_243 ?_
                    refine lv_lmul hx hb dX3_digest_246 ?_
                    refine lv_aload_n hx hb dX3_digest_247 rfl (lv_at hl 0 rfl) ?_
                    refine va_get (D := (dC, dI)) (ci := 3) (v := .int ex) (C := RX3) (T := TX3) (N := 15) hx hb hts (by decide +kernel) hown hK hP 0 rfl rfl 11 (by decide) (hts (.fieldLink RX3 196 "HandlerOptimizer" "executedCount" "I") (by decide +kernel)) (fun _ h9 => h9) rfl dX3_digest_248 ?_
                    refine lv_i2l (v := ex.toInt64) hx hb dX3_digest_251 rfl ?_
                    refine lv_ladd hx hb dX3_digest_252 ?_
                    refine lv_lstore_n (lv' := [(1, .long ((d3 * 31) + ex.toInt64)), (0, .ref (a 0)), (3, .int (nI y3))]) hx hb dX3_digest_253 rfl hl (by decide) rfl (fun ls hl => ?_)
                    refine lv_lload_n hx hb dX3_digest_254 rfl (lv_at hl 0 rfl) ?_
                    refine lv_ldc2 (own := RX3) (v := 31) hx hb hown (hts (.constantLong RX3 224 31) (by decide +kernel)) dX3_digest_255 ?_
                    refine lv_lmul hx hb dX3_digest_258 ?_
                    refine lv_aload_n hx hb dX3_digest_259 rfl (lv_at hl 1 rfl) ?_
                    refine va_get (D := (dC, dI)) (ci := 3) (v := .int tc) (C := RX3) (T := TX3) (N := 15) hx hb hts (by decide +kernel) hown hK hP 0 rfl rfl 12 (by decide) (hts (.fieldLink RX3 199 "HandlerOptimizer" "takenCount" "I") (by decide +kernel)) (fun _ h9 => h9) rfl dX3_digest_260 ?_
                    refine lv_i2l (v := tc.toInt64) hx hb dX3_digest_263 rfl ?_
                    refine lv_ladd hx hb dX3_digest_264 ?_
                    refine lv_lstore_n (lv' := [(1, .long ((((d3 * 31) + ex.toInt64) * 31) + tc.toInt64)), (0, .ref (a 0)), (3, .int (nI y3))]) hx hb dX3_digest_265 rfl hl (by decide) rfl (fun ls hl => ?_)
                    refine lv_lload_n hx hb dX3_digest_266 rfl (lv_at hl 0 rfl) ?_
                    refine lv_ldc2 (own := RX3) (v := 31) hx hb hown (hts (.constantLong RX3 224 31) (by decide +kernel)) dX3_digest_267 ?_
                    refine lv_lmul hx hb dX3_digest_270 ?_
                    refine lv_aload_n hx hb dX3_digest_271 rfl (lv_at hl 1 rfl) ?_
                    refine va_get (D := (dC, dI)) (ci := 3) (v := .int es) (C := RX3) (T := TX3) (N := 15) hx hb hts (by decide +kernel) hown hK hP 0 rfl rfl 13 (by decide) (hts (.fieldLink RX3 53 "HandlerOptimizer" "escapedKind" "I") (by decide +kernel)) (fun _ h9 => h9) rfl dX3_digest_272 ?_
                    refine lv_i2l (v := es.toInt64) hx hb dX3_digest_275 rfl ?_
                    refine lv_ladd hx hb dX3_digest_276 ?_
                    rw [← hQ]
                    exact W.lret (v := (((((d3 * 31) + ex.toInt64) * 31) + tc.toInt64) * 31) + es.toInt64) hx hb hr (fun t ht hW => ⟨⟨(((((d3 * 31) + ex.toInt64) * 31) + tc.toInt64) * 31) + es.toInt64, (), rfl, (by rw [hd3, show y3 = nt from by omega]; rfl), trivial⟩, hS.F ht⟩) hS.2.2 dX3_digest_277
                  · skip
                    have c_3 := (zz_gef (a := y3) (b := nt) (by omega) (by omega)).mp c_3
                    refine lv_lload_n hx hb dX3_digest_168 rfl (lv_at hl 1 rfl) ?_
                    refine lv_ldc2 (own := RX3) (v := 31) hx hb hown (hts (.constantLong RX3 224 31) (by decide +kernel)) dX3_digest_169 ?_
                    refine lv_lmul hx hb dX3_digest_172 ?_
                    refine lv_aload_n hx hb dX3_digest_173 rfl (lv_at hl 0 rfl) ?_
                    refine va_get (D := (dC, dI)) (ci := 3) (v := .ref (a 8)) (C := RX3) (T := TX3) (N := 15) hx hb hts (by decide +kernel) hown hK hP 0 rfl rfl 2 (by decide) (hts (.fieldLink RX3 26 "HandlerOptimizer" "table" "LHandlerOptimizer$Table;") (by decide +kernel)) (fun _ h9 => h9) rfl dX3_digest_174 ?_
                    refine va_getN (D := (dC, dI)) (ci := 2) (v := .ref (a 9)) (C := RX2) (T := TX2) (N := 5) hx hb hts (by decide +kernel) hown hK hP 8 rfl rfl 0 (by decide) (va_Nw.use rfl (hn (.fieldLinkNest RX3 135 "HandlerOptimizer$Table" "begins" "[I" "HandlerOptimizer") (by decide +kernel))) (fun _ h9 => h9) rfl dX3_digest_177 ?_
                    refine lv_iload_n hx hb dX3_digest_180 rfl (lv_at hl 2 rfl) ?_
                    refine va_iald hx hb hK hP 9 0 rfl rfl (vp_in_nI (n := y3) (by omega) (by decide)) dX3_digest_181 ?_
                    refine zz_top (y := tb y3) (congrArg _ (nI_clamp (by omega))) ?_
                    refine zz_top (y := nI (T 0 y3)) ((hT y3 (by omega)).1) ?_
                    refine lv_i2l (v := (nI (T 0 y3)).toInt64) hx hb dX3_digest_182 rfl ?_
                    refine lv_ladd hx hb dX3_digest_183 ?_
                    refine lv_lstore_n (lv' := [(1, .long ((d3 * 31) + ((nI (T 0 y3)).toInt64))), (0, .ref (a 0)), (3, .int (nI y3))]) hx hb dX3_digest_184 rfl hl (by decide) rfl (fun ls hl => ?_)
                    refine lv_lload_n hx hb dX3_digest_185 rfl (lv_at hl 0 rfl) ?_
                    refine lv_ldc2 (own := RX3) (v := 31) hx hb hown (hts (.constantLong RX3 224 31) (by decide +kernel)) dX3_digest_186 ?_
                    refine lv_lmul hx hb dX3_digest_189 ?_
                    refine lv_aload_n hx hb dX3_digest_190 rfl (lv_at hl 1 rfl) ?_
                    refine va_get (D := (dC, dI)) (ci := 3) (v := .ref (a 8)) (C := RX3) (T := TX3) (N := 15) hx hb hts (by decide +kernel) hown hK hP 0 rfl rfl 2 (by decide) (hts (.fieldLink RX3 26 "HandlerOptimizer" "table" "LHandlerOptimizer$Table;") (by decide +kernel)) (fun _ h9 => h9) rfl dX3_digest_191 ?_
                    refine va_getN (D := (dC, dI)) (ci := 2) (v := .ref (a 10)) (C := RX2) (T := TX2) (N := 5) hx hb hts (by decide +kernel) hown hK hP 8 rfl rfl 1 (by decide) (va_Nw.use rfl (hn (.fieldLinkNest RX3 138 "HandlerOptimizer$Table" "ends" "[I" "HandlerOptimizer") (by decide +kernel))) (fun _ h9 => h9) rfl dX3_digest_194 ?_
                    refine lv_iload_n hx hb dX3_digest_197 rfl (lv_at hl 2 rfl) ?_
                    refine va_iald hx hb hK hP 10 0 rfl rfl (vp_in_nI (n := y3) (by omega) (by decide)) dX3_digest_198 ?_
                    refine zz_top (y := te y3) (congrArg _ (nI_clamp (by omega))) ?_
                    refine zz_top (y := nI (T 1 y3)) ((hT y3 (by omega)).2.1) ?_
                    refine lv_i2l (v := (nI (T 1 y3)).toInt64) hx hb dX3_digest_199 rfl ?_
                    refine lv_ladd hx hb dX3_digest_200 ?_
                    refine lv_lstore_n (lv' := [(1, .long ((((d3 * 31) + ((nI (T 0 y3)).toInt64)) * 31) + ((nI (T 1 y3)).toInt64))), (0, .ref (a 0)), (3, .int (nI y3))]) hx hb dX3_digest_201 rfl hl (by decide) rfl (fun ls hl => ?_)
                    refine lv_lload_n hx hb dX3_digest_202 rfl (lv_at hl 0 rfl) ?_
                    refine lv_ldc2 (own := RX3) (v := 31) hx hb hown (hts (.constantLong RX3 224 31) (by decide +kernel)) dX3_digest_203 ?_
                    refine lv_lmul hx hb dX3_digest_206 ?_
                    refine lv_aload_n hx hb dX3_digest_207 rfl (lv_at hl 1 rfl) ?_
                    refine va_get (D := (dC, dI)) (ci := 3) (v := .ref (a 8)) (C := RX3) (T := TX3) (N := 15) hx hb hts (by decide +kernel) hown hK hP 0 rfl rfl 2 (by decide) (hts (.fieldLink RX3 26 "HandlerOptimizer" "table" "LHandlerOptimizer$Table;") (by decide +kernel)) (fun _ h9 => h9) rfl dX3_digest_208 ?_
                    refine va_getN (D := (dC, dI)) (ci := 2) (v := .ref (a 11)) (C := RX2) (T := TX2) (N := 5) hx hb hts (by decide +kernel) hown hK hP 8 rfl rfl 2 (by decide) (va_Nw.use rfl (hn (.fieldLinkNest RX3 141 "HandlerOptimizer$Table" "kinds" "[I" "HandlerOptimizer") (by decide +kernel))) (fun _ h9 => h9) rfl dX3_digest_211 ?_
                    refine lv_iload_n hx hb dX3_digest_214 rfl (lv_at hl 2 rfl) ?_
                    refine va_iald hx hb hK hP 11 0 rfl rfl (vp_in_nI (n := y3) (by omega) (by decide)) dX3_digest_215 ?_
                    refine zz_top (y := tk y3) (congrArg _ (nI_clamp (by omega))) ?_
                    refine zz_top (y := nI (T 2 y3)) ((hT y3 (by omega)).2.2.1) ?_
                    refine lv_i2l (v := (nI (T 2 y3)).toInt64) hx hb dX3_digest_216 rfl ?_
                    refine lv_ladd hx hb dX3_digest_217 ?_
                    refine lv_lstore_n (lv' := [(1, .long ((((((d3 * 31) + ((nI (T 0 y3)).toInt64)) * 31) + ((nI (T 1 y3)).toInt64)) * 31) + ((nI (T 2 y3)).toInt64))), (0, .ref (a 0)), (3, .int (nI y3))]) hx hb dX3_digest_218 rfl hl (by decide) rfl (fun ls hl => ?_)
                    refine lv_lload_n hx hb dX3_digest_219 rfl (lv_at hl 0 rfl) ?_
                    refine lv_ldc2 (own := RX3) (v := 31) hx hb hown (hts (.constantLong RX3 224 31) (by decide +kernel)) dX3_digest_220 ?_
                    refine lv_lmul hx hb dX3_digest_223 ?_
                    refine lv_aload_n hx hb dX3_digest_224 rfl (lv_at hl 1 rfl) ?_
                    refine va_get (D := (dC, dI)) (ci := 3) (v := .ref (a 8)) (C := RX3) (T := TX3) (N := 15) hx hb hts (by decide +kernel) hown hK hP 0 rfl rfl 2 (by decide) (hts (.fieldLink RX3 26 "HandlerOptimizer" "table" "LHandlerOptimizer$Table;") (by decide +kernel)) (fun _ h9 => h9) rfl dX3_digest_225 ?_
                    refine va_getN (D := (dC, dI)) (ci := 2) (v := .ref (a 12)) (C := RX2) (T := TX2) (N := 5) hx hb hts (by decide +kernel) hown hK hP 8 rfl rfl 3 (by decide) (va_Nw.use rfl (hn (.fieldLinkNest RX3 143 "HandlerOptimizer$Table" "targets" "[I" "HandlerOptimizer") (by decide +kernel))) (fun _ h9 => h9) rfl dX3_digest_228 ?_
                    refine lv_iload_n hx hb dX3_digest_231 rfl (lv_at hl 2 rfl) ?_
                    refine va_iald hx hb hK hP 12 0 rfl rfl (vp_in_nI (n := y3) (by omega) (by decide)) dX3_digest_232 ?_
                    refine zz_top (y := tt y3) (congrArg _ (nI_clamp (by omega))) ?_
                    refine zz_top (y := nI (T 3 y3)) ((hT y3 (by omega)).2.2.2) ?_
                    refine lv_i2l (v := (nI (T 3 y3)).toInt64) hx hb dX3_digest_233 rfl ?_
                    refine lv_ladd hx hb dX3_digest_234 ?_
                    refine lv_lstore_n (lv' := [(1, .long ((((((((d3 * 31) + ((nI (T 0 y3)).toInt64)) * 31) + ((nI (T 1 y3)).toInt64)) * 31) + ((nI (T 2 y3)).toInt64)) * 31) + ((nI (T 3 y3)).toInt64))), (0, .ref (a 0)), (3, .int (nI y3))]) hx hb dX3_digest_235 rfl hl (by decide) rfl (fun ls hl => ?_)
                    refine lv_iinc (v := nI (y3 + 1)) (lv' := [(3, .int (nI (y3 + 1))), (1, .long ((((((((d3 * 31) + ((nI (T 0 y3)).toInt64)) * 31) + ((nI (T 1 y3)).toInt64)) * 31) + ((nI (T 2 y3)).toInt64)) * 31) + ((nI (T 3 y3)).toInt64))), (0, .ref (a 0))]) hx hb dX3_digest_236 hl (k := 2) rfl (zz_inc y3 1) (by decide) rfl (fun ls hl => ?_)
                    refine lv_goto (tgt := 157) hx hb dX3_digest_239 (by decide) ?_
                    exact ih_157 (y3 + 1) ((((((((d3 * 31) + ((nI (T 0 y3)).toInt64)) * 31) + ((nI (T 1 y3)).toInt64)) * 31) + ((nI (T 2 y3)).toInt64)) * 31) + ((nI (T 3 y3)).toInt64)) _ _ _ (by first | assumption | omega) (by rw [hd3]; rfl) (by omega) hP hS (lv_sub hl [2, 1, 0] rfl)
              exact J_157 _ 0 ((d2 * 31) + ((nI nt).toInt64)) _ _ _ (by first | assumption | omega) (by rw [hd2, show y2 = nc from by omega]; rfl) (Nat.lt_succ_self _) hP hS (lv_sub hl [2, 1, 0] rfl)
            · skip
              have c_2 := (zz_gef (a := y2) (b := nc) (by omega) (by omega)).mp c_2
              refine lv_lload_n hx hb dX3_digest_83 rfl (lv_at hl 1 rfl) ?_
              refine lv_ldc2 (own := RX3) (v := 31) hx hb hown (hts (.constantLong RX3 224 31) (by decide +kernel)) dX3_digest_84 ?_
              refine lv_lmul hx hb dX3_digest_87 ?_
              refine lv_aload_n hx hb dX3_digest_88 rfl (lv_at hl 0 rfl) ?_
              refine va_get (D := (dC, dI)) (ci := 3) (v := .ref (a 4)) (C := RX3) (T := TX3) (N := 15) hx hb hts (by decide +kernel) hown hK hP 0 rfl rfl 1 (by decide) (hts (.fieldLink RX3 19 "HandlerOptimizer" "code" "LHandlerOptimizer$Code;") (by decide +kernel)) (fun _ h9 => h9) rfl dX3_digest_89 ?_
              refine va_getN (D := (dC, dI)) (ci := 0) (v := .ref (a 5)) (C := RX0) (T := TX0) (N := 4) hx hb hts (by decide +kernel) hown hK hP 4 rfl rfl 0 (by decide) (va_Nw.use rfl (hn (.fieldLinkNest RX3 103 "HandlerOptimizer$Code" "forms" "[I" "HandlerOptimizer") (by decide +kernel))) (fun _ h9 => h9) rfl dX3_digest_92 ?_
              refine lv_iload_n hx hb dX3_digest_95 rfl (lv_at hl 2 rfl) ?_
              refine va_iald hx hb hK hP 5 0 rfl rfl (vp_in_nI (n := y2) (by omega) (by decide)) dX3_digest_96 ?_
              refine zz_top (y := fo y2) (congrArg _ (nI_clamp (by omega))) ?_
              refine lv_i2l (v := (fo y2).toInt64) hx hb dX3_digest_97 rfl ?_
              refine lv_ladd hx hb dX3_digest_98 ?_
              refine lv_lstore_n (lv' := [(1, .long ((d2 * 31) + ((fo y2).toInt64))), (0, .ref (a 0)), (3, .int (nI y2))]) hx hb dX3_digest_99 rfl hl (by decide) rfl (fun ls hl => ?_)
              refine lv_lload_n hx hb dX3_digest_100 rfl (lv_at hl 0 rfl) ?_
              refine lv_ldc2 (own := RX3) (v := 31) hx hb hown (hts (.constantLong RX3 224 31) (by decide +kernel)) dX3_digest_101 ?_
              refine lv_lmul hx hb dX3_digest_104 ?_
              refine lv_aload_n hx hb dX3_digest_105 rfl (lv_at hl 1 rfl) ?_
              refine va_get (D := (dC, dI)) (ci := 3) (v := .ref (a 4)) (C := RX3) (T := TX3) (N := 15) hx hb hts (by decide +kernel) hown hK hP 0 rfl rfl 1 (by decide) (hts (.fieldLink RX3 19 "HandlerOptimizer" "code" "LHandlerOptimizer$Code;") (by decide +kernel)) (fun _ h9 => h9) rfl dX3_digest_106 ?_
              refine va_getN (D := (dC, dI)) (ci := 0) (v := .ref (a 6)) (C := RX0) (T := TX0) (N := 4) hx hb hts (by decide +kernel) hown hK hP 4 rfl rfl 1 (by decide) (va_Nw.use rfl (hn (.fieldLinkNest RX3 106 "HandlerOptimizer$Code" "thrown" "[I" "HandlerOptimizer") (by decide +kernel))) (fun _ h9 => h9) rfl dX3_digest_109 ?_
              refine lv_iload_n hx hb dX3_digest_112 rfl (lv_at hl 2 rfl) ?_
              refine va_iald hx hb hK hP 6 0 rfl rfl (vp_in_nI (n := y2) (by omega) (by decide)) dX3_digest_113 ?_
              refine zz_top (y := th y2) (congrArg _ (nI_clamp (by omega))) ?_
              refine lv_i2l (v := (th y2).toInt64) hx hb dX3_digest_114 rfl ?_
              refine lv_ladd hx hb dX3_digest_115 ?_
              refine lv_lstore_n (lv' := [(1, .long ((((d2 * 31) + ((fo y2).toInt64)) * 31) + ((th y2).toInt64))), (0, .ref (a 0)), (3, .int (nI y2))]) hx hb dX3_digest_116 rfl hl (by decide) rfl (fun ls hl => ?_)
              refine lv_lload_n hx hb dX3_digest_117 rfl (lv_at hl 0 rfl) ?_
              refine lv_ldc2 (own := RX3) (v := 31) hx hb hown (hts (.constantLong RX3 224 31) (by decide +kernel)) dX3_digest_118 ?_
              refine lv_lmul hx hb dX3_digest_121 ?_
              refine lv_aload_n hx hb dX3_digest_122 rfl (lv_at hl 1 rfl) ?_
              refine va_get (D := (dC, dI)) (ci := 3) (v := .ref (a 4)) (C := RX3) (T := TX3) (N := 15) hx hb hts (by decide +kernel) hown hK hP 0 rfl rfl 1 (by decide) (hts (.fieldLink RX3 19 "HandlerOptimizer" "code" "LHandlerOptimizer$Code;") (by decide +kernel)) (fun _ h9 => h9) rfl dX3_digest_123 ?_
              refine va_getN (D := (dC, dI)) (ci := 0) (v := .ref (a 7)) (C := RX0) (T := TX0) (N := 4) hx hb hts (by decide +kernel) hown hK hP 4 rfl rfl 2 (by decide) (va_Nw.use rfl (hn (.fieldLinkNest RX3 109 "HandlerOptimizer$Code" "targets" "[I" "HandlerOptimizer") (by decide +kernel))) (fun _ h9 => h9) rfl dX3_digest_126 ?_
              refine lv_iload_n hx hb dX3_digest_129 rfl (lv_at hl 2 rfl) ?_
              refine va_iald hx hb hK hP 7 0 rfl rfl (vp_in_nI (n := y2) (by omega) (by decide)) dX3_digest_130 ?_
              refine zz_top (y := tg y2) (congrArg _ (nI_clamp (by omega))) ?_
              refine lv_i2l (v := (tg y2).toInt64) hx hb dX3_digest_131 rfl ?_
              refine lv_ladd hx hb dX3_digest_132 ?_
              refine lv_lstore_n (lv' := [(1, .long ((((((d2 * 31) + ((fo y2).toInt64)) * 31) + ((th y2).toInt64)) * 31) + ((tg y2).toInt64))), (0, .ref (a 0)), (3, .int (nI y2))]) hx hb dX3_digest_133 rfl hl (by decide) rfl (fun ls hl => ?_)
              refine lv_iinc (v := nI (y2 + 1)) (lv' := [(3, .int (nI (y2 + 1))), (1, .long ((((((d2 * 31) + ((fo y2).toInt64)) * 31) + ((th y2).toInt64)) * 31) + ((tg y2).toInt64))), (0, .ref (a 0))]) hx hb dX3_digest_134 hl (k := 2) rfl (zz_inc y2 1) (by decide) rfl (fun ls hl => ?_)
              refine lv_goto (tgt := 72) hx hb dX3_digest_137 (by decide) ?_
              exact ih_72 (y2 + 1) ((((((d2 * 31) + ((fo y2).toInt64)) * 31) + ((th y2).toInt64)) * 31) + ((tg y2).toInt64)) _ _ _ (by first | assumption | omega) (by rw [hd2]; rfl) (by omega) hP hS (lv_sub hl [2, 1, 0] rfl)
        exact J_72 _ 0 ((d * 31) + ((nI nc).toInt64)) _ _ _ (by first | assumption | omega) (by rw [hd, show y = nk - 1 from by omega]; rfl) (Nat.lt_succ_self _) hP hS (lv_sub hl [2, 1, 0] rfl)
      · skip
        have c_1 := (zz_gef (a := y + 1) (b := nk) (by omega) (by omega)).mp c_1
        refine lv_lload_n hx hb dX3_digest_32 rfl (lv_at hl 1 rfl) ?_
        refine lv_ldc2 (own := RX3) (v := 31) hx hb hown (hts (.constantLong RX3 224 31) (by decide +kernel)) dX3_digest_33 ?_
        refine lv_lmul hx hb dX3_digest_36 ?_
        refine lv_aload_n hx hb dX3_digest_37 rfl (lv_at hl 0 rfl) ?_
        refine va_get (D := (dC, dI)) (ci := 3) (v := .ref (a 1)) (C := RX3) (T := TX3) (N := 15) hx hb hts (by decide +kernel) hown hK hP 0 rfl rfl 0 (by decide) (hts (.fieldLink RX3 12 "HandlerOptimizer" "kinds" "LHandlerOptimizer$Kinds;") (by decide +kernel)) (fun _ h9 => h9) rfl dX3_digest_38 ?_
        refine va_getN (D := (dC, dI)) (ci := 1) (v := .ref (a 2)) (C := RX1) (T := TX1) (N := 3) hx hb hts (by decide +kernel) hown hK hP 1 rfl rfl 0 (by decide) (va_Nw.use rfl (hn (.fieldLinkNest RX3 226 "HandlerOptimizer$Kinds" "parents" "[I" "HandlerOptimizer") (by decide +kernel))) (fun _ h9 => h9) rfl dX3_digest_41 ?_
        refine lv_iload_n hx hb dX3_digest_44 rfl (lv_at hl 2 rfl) ?_
        refine va_iald hx hb hK hP 2 0 rfl rfl (vp_in_nI (n := y + 1) (by omega) (by decide)) dX3_digest_45 ?_
        refine zz_top (y := pa (y + 1)) (congrArg _ (nI_clamp (by omega))) ?_
        refine lv_i2l (v := (pa (y + 1)).toInt64) hx hb dX3_digest_46 rfl ?_
        refine lv_ladd hx hb dX3_digest_47 ?_
        refine lv_lstore_n (lv' := [(1, .long ((d * 31) + ((pa (y + 1)).toInt64))), (0, .ref (a 0)), (3, .int (nI (y + 1)))]) hx hb dX3_digest_48 rfl hl (by decide) rfl (fun ls hl => ?_)
        refine lv_iinc (v := nI (y + 1 + 1)) (lv' := [(3, .int (nI (y + 1 + 1))), (1, .long ((d * 31) + ((pa (y + 1)).toInt64))), (0, .ref (a 0))]) hx hb dX3_digest_49 hl (k := 2) rfl (zz_inc (y + 1) 1) (by decide) rfl (fun ls hl => ?_)
        refine lv_goto (tgt := 21) hx hb dX3_digest_52 (by decide) ?_
        exact ih_21 (y + 1) ((d * 31) + ((pa (y + 1)).toInt64)) _ _ _ (by first | assumption | omega) (by rw [hd]; rfl) (by omega) hP hS (lv_sub hl [2, 1, 0] rfl)
  exact J_21 _ 0 ((137 * 31) + ((nI nk).toInt64)) _ _ _ (by first | assumption | omega) rfl (Nat.lt_succ_self _) hP hS (lv_sub hl [2, 1, 0] rfl)

set_option maxHeartbeats 4000000 in
set_option maxRecDepth 100000 in
theorem c_X3_share (l : Launch) (dC : Nat → ClassId) (dI : Nat → Nat → Nat) (cI cZ cJ : ClassId) (a : Nat → Nat) (nk : Nat) (pa : Nat → Int32) (fa : Nat → Int32) (nc : Nat) (fo : Nat → Int32) (th : Nat → Int32) (tg : Nat → Int32) (nt : Nat) (tb : Nat → Int32) (te : Nat → Int32) (tk : Nat → Int32) (tt : Nat → Int32) (nu : Nat) (ub : Nat → Int32) (ue : Nat → Int32) (uk : Nat → Int32) (ut : Nat → Int32) (re : Nat → Int32) (ro : Nat → Int32) (fu : Nat → Int32) (bl : Nat → Int32) (go : Nat → Int32) (ra : Nat → Int32) (rc : Nat) (ex : Int32) (tc : Int32) (es : Int32) (wy : Int64) (T : Nat → Nat → Nat) (up : Nat → Nat → Bool) (sz : Nat) (hg : g3 nk fa up nt tb te tk tt T) (hc : okC nk nc fo th tg) : MetD lw_cs l yX3_share wsX3_share ({ frames := 4, cells := 0, slots := 0, locals := 93 } : Room) (va_Pc [.ref (a 0)] (zWr (dC, dI) [(cI, .int), (cZ, .boolean), (cJ, .long)] (w3 a cI cZ nk pa fa nc fo th tg nt tb te tk tt nu ub ue uk ut re ro fu bl go ra rc ex tc es wy) sz)) (va_Qd (fun (r : UInt64) (u : (Nat → Int32) × (Nat → Int32) × Nat) => match u with | (re9, ro9, rc9) => alike64 r (shD (saN (RB nk nc fo th tg T nt up) th nk nc) (scN (RB nk nc fo th tg T nt up) th (tkf T nt up) nt nk nc)) = true) (fun u t => match u with | (re9, ro9, rc9) => zWo (dC, dI) [(cI, .int), (cZ, .boolean), (cJ, .long)] (w3 a cI cZ nk pa fa nc fo th tg nt tb te tk tt nu ub ue uk ut re9 ro9 fu bl go ra rc9 ex tc es wy) (va_A (w3 a cI cZ nk pa fa nc fo th tg nt tb te tk tt nu ub ue uk ut re ro fu bl go ra rc ex tc es wy) sz) t) (va_A (w3 a cI cZ nk pa fa nc fo th tg nt tb te tk tt nu ub ue uk ut re ro fu bl go ra rc ex tc es wy) sz)) 0 0 (va_A (w3 a cI cZ nk pa fa nc fo th tg nt tb te tk tt nu ub ue uk ut re ro fu bl go ra rc ex tc es wy) sz) := by
  refine MetD.ofW (cc := cX3_share) (maxL := 5) (ret := (some .double)) (by decide) rfl ?_
  intro p e s m args below meth c s₁ B hml hv hd0
  obtain ⟨hav, hsz, ⟨hP, hK, hn⟩, hD0⟩ := hv
  have hx := B.exec
  have hb := B.bytes
  have hr := B.returns
  have hts := atoms_spec (ws := wsX3_share) B.pre
  have hown : s.vm.findClass RX3 = some m.cls := findClass_of_methodNamed B.named
  have hlocks := B.notSynchronized
  subst hsz
  have hD := hD0.self (sz := s.heap.size)
  generalize hAe : (va_A (w3 a cI cZ nk pa fa nc fo th tg nt tb te tk tt nu ub ue uk ut re ro fu bl go ra rc ex tc es wy) s.heap.size) = A at hD ⊢
  have hA : ∀ q : Nat, s.heap.size ≤ q → A q := fun q h => by rw [← hAe]; exact Or.inr h
  have hS : va_S A s.heap s.heap [] := va_S.rf
  generalize hQ : MQD lw_cs below (va_Qd (fun (r : UInt64) (u : (Nat → Int32) × (Nat → Int32) × Nat) => match u with | (re9, ro9, rc9) => alike64 r (shD (saN (RB nk nc fo th tg T nt up) th nk nc) (scN (RB nk nc fo th tg T nt up) th (tkf T nt up) nt nk nc)) = true) (fun u t => match u with | (re9, ro9, rc9) => zWo (dC, dI) [(cI, .int), (cZ, .boolean), (cJ, .long)] (w3 a cI cZ nk pa fa nc fo th tg nt tb te tk tt nu ub ue uk ut re9 ro9 fu bl go ra rc9 ex tc es wy) A t) A) args s 0 0 A = Q
  refine zz_unbase ?_
  refine W.eq (g2 := entryFrame m ([.ref (a 0)] : List Value).toArray 5) (by rw [hav]) ?_
  have hl := lv_entry ([.ref (a 0)]) (n := 5) (Nat.le_of_ble_eq_true rfl)
  rw [lg_entry_eq]
  generalize (lg_sl ([.ref (a 0)]) ++ List.replicate (5 - (lg_sl ([.ref (a 0)])).length) Slot.unset).toArray = ls at hl ⊢
  have hl : lv_has ls 5 [(0, .ref (a 0))] := hl
  obtain ⟨H, hH⟩ : ∃ H, H = s.heap := ⟨_, rfl⟩
  obtain ⟨locs, hlo⟩ : ∃ q : List Loc, q = [] := ⟨_, rfl⟩
  have hP : va_P (dC, dI) vwCl (w3 a cI cZ nk pa fa nc fo th tg nt tb te tk tt nu ub ue uk ut re ro fu bl go ra rc ex tc es wy) H := by rw [hH]; exact hP
  have hS : va_S A s.heap H locs := by rw [hH, hlo]; exact hS
  refine zz_hl hH hlo ?_
  obtain ⟨hk01, hk8, hnt, hT, hO, hF, hU⟩ := id hg
  obtain ⟨hnc, hC⟩ := id hc
  refine lv_aload_n hx hb dX3_share_0 rfl (lv_at hl 0 rfl) ?_
  have hDc := hD
  have hFc := va_free (wc := w3 a cI cZ nk pa fa nc fo th tg nt tb te tk tt nu ub ue uk ut re ro fu bl go ra rc ex tc es wy) hD hS hA [0, 1, 2, 3, 4, 5, 6, 7, 8, 9, 10, 11, 12, 13, 14, 15, 16, 17, 18, 19, 20, 21, 22, 23] rfl
  refine va_callv (va_runV (As := []) (rest := []) ⟨hx, hb, hml, hown, hts⟩ (c_X3_findReached l dC dI cI cZ cJ a nk pa fa nc fo th tg nt tb te tk tt nu ub ue uk ut re ro fu bl go ra rc ex tc es wy T up H.size (by first | assumption | omega) (by first | assumption | omega)) (cwV 0 hts gX3_share_X3_findReached rfl rfl rfl (by decide +kernel) ⟨Nat.le_of_ble_eq_true rfl, Nat.le_of_ble_eq_true rfl⟩) ⟨zWr_blind, va_recv hK hP (ci := 3) (q0 := 0) rfl rfl, zWr_at hP hK hn (hDc.weaken (fun _ _ _ _ => trivial))⟩ rfl rfl hl.1 rfl (lv_room (Nat.le_of_ble_eq_true rfl)) dX3_share_1 ⟨Nat.le_of_ble_eq_true rfl, Nat.le_of_ble_eq_true rfl⟩) hS (fun q _ h => hFc q h) hFc (fun u_9 t H1 locs ht hvm hw hB hz1 hk1 hS => ?_)
  obtain ⟨re_n, ro_n, rc_n⟩ := u_9
  dsimp only at hw hB
  obtain ⟨hP1, -, hD1⟩ := hB
  rw [ht] at hP1
  obtain ⟨hP, hD⟩ := va_join (wr := []) (w1 := w3 a cI cZ nk pa fa nc fo th tg nt tb te tk tt nu ub ue uk ut re_n ro_n fu bl go ra rc_n ex tc es wy) hP hD [0, 1, 2, 3, 4, 5, 6, 7, 8, 9, 10, 11, 12, 13, 14, 15, 16, 17, 18, 19, 20, 21, 22, 23] [] rfl rfl (by decide) (by decide) hk1 hFc hP1 hD1
  generalize H1 = H at hP hS ⊢
  have hP : va_P (dC, dI) vwCl (w3 a cI cZ nk pa fa nc fo th tg nt tb te tk tt nu ub ue uk ut re_n ro_n fu bl go ra rc_n ex tc es wy) H := hP
  have hD : va_D A (w3 a cI cZ nk pa fa nc fo th tg nt tb te tk tt nu ub ue uk ut re_n ro_n fu bl go ra rc_n ex tc es wy) := hD
  have hre := hw
  refine lv_iconst (v := 0) hx hb dX3_share_4 (by decide) ?_
  refine lv_istore_n (lv' := [(1, .int 0), (0, .ref (a 0))]) hx hb dX3_share_5 rfl hl (by decide) rfl (fun ls hl => ?_)
  refine lv_iconst (v := 0) hx hb dX3_share_6 (by decide) ?_
  refine lv_istore_n (lv' := [(2, .int 0), (1, .int 0), (0, .ref (a 0))]) hx hb dX3_share_7 rfl hl (by decide) rfl (fun ls hl => ?_)
  refine lv_iconst (v := 0) hx hb dX3_share_8 (by decide) ?_
  refine lv_istore_n (lv' := [(3, .int 0), (2, .int 0), (1, .int 0), (0, .ref (a 0))]) hx hb dX3_share_9 rfl hl (by decide) rfl (fun ls hl => ?_)
  have J_10 : ∀ (n9 : Nat) (y : Nat) (H : Heap) (locs : List Loc) (ls : Array Slot), (y ≤ nc) → nc - y < n9 → va_P (dC, dI) vwCl (w3 a cI cZ nk pa fa nc fo th tg nt tb te tk tt nu ub ue uk ut re_n ro_n fu bl go ra rc_n ex tc es wy) H → va_D A (w3 a cI cZ nk pa fa nc fo th tg nt tb te tk tt nu ub ue uk ut re_n ro_n fu bl go ra rc_n ex tc es wy) → va_S A s.heap H locs → lv_has ls 5 [(0, .ref (a 0)), (1, .int (nI (it (fun i s => it (saG (RB nk nc fo th tg T nt up) th i) nk s) y 0))), (2, .int (nI (it (fun i s => it (scG (RB nk nc fo th tg T nt up) th (tkf T nt up) nt i) nk s) y 0))), (3, .int (nI y))] → W p l e (headSpec wsX3_share ({ frames := 4, cells := 0, slots := 0, locals := 93 } : Room)).room s m args below meth c H locs 0 0 Q (F0 m 10 ls []) := by
    intro n9
    induction n9 with
    | zero => intro y H locs ls hy hmu; exact absurd hmu (Nat.not_lt_zero _)
    | succ n9 ih_10 =>
      intro y H locs ls hy hmu hP hD hS hl
      refine lv_iload_n hx hb dX3_share_10 rfl (lv_at hl 3 rfl) ?_
      refine lv_aload_n hx hb dX3_share_11 rfl (lv_at hl 0 rfl) ?_
      refine va_get (D := (dC, dI)) (ci := 3) (v := .ref (a 4)) (C := RX3) (T := TX3) (N := 15) hx hb hts (by decide +kernel) hown hK hP 0 rfl rfl 1 (by decide) (hts (.fieldLink RX3 19 "HandlerOptimizer" "code" "LHandlerOptimizer$Code;") (by decide +kernel)) (fun _ h9 => h9) rfl dX3_share_12 ?_
      refine va_getN (D := (dC, dI)) (ci := 0) (v := .int (nI nc)) (C := RX0) (T := TX0) (N := 4) hx hb hts (by decide +kernel) hown hK hP 4 rfl rfl 3 (by decide) (va_Nw.use rfl (hn (.fieldLinkNest RX3 99 "HandlerOptimizer$Code" "count" "I" "HandlerOptimizer") (by decide +kernel))) (fun _ h9 => h9) rfl dX3_share_15 ?_
      refine lv_icmp_ge (tgt := 87) hx hb dX3_share_18 (by decide) (fun c_5 => ?_) (fun c_5 => ?_)
      · skip
        have c6 := (zz_get (a := y) (b := nc) (by omega) (by omega)).mp c_5
        rw [show y = nc from by omega] at hl
        refine lv_iload_n hx hb dX3_share_87 rfl (lv_at hl 1 rfl) ?_
        refine lv_if_ne (tgt := 95) hx hb dX3_share_88 (by decide) (fun c_6 => ?_) (fun c_6 => ?_)
        · skip
          have c7 := (zz_net (a := it (fun i s => it (saG (RB nk nc fo th tg T nt up) th i) nk s) nc 0) (b := 0) (by have := saN_le (v := RB nk nc fo th tg T nt up) (th := th) (nk := nk) (n := nc) hk8; simp only [saN] at this; omega) (by omega)).mp c_6
          refine lv_iload_n hx hb dX3_share_95 rfl (lv_at hl 2 rfl) ?_
          refine lv_i2d hx hb dX3_share_96 ?_
          refine lv_iload_n hx hb dX3_share_97 rfl (lv_at hl 1 rfl) ?_
          refine lv_i2d hx hb dX3_share_98 ?_
          refine W.base ?_
          refine lv_ddiv_any hd0 lw_bits hx hb dX3_share_99 (fun rD d1 hal hd1 => ?_)
          rw [← hQ]
          refine W.endD hd1 ?_
          have hP9 := hP
          have hD9 := hD
          exact W.dret (v := rD) hx hb hr (fun t ht hW => ⟨⟨rD, (re_n, ro_n, rc_n), rfl, (by show alike64 _ (shD _ _) = true; first | (rw [shD, if_pos (show saN (RB nk nc fo th tg T nt up) th nk nc = 0 from c7)]; exact zz_al) | (rw [shD, if_neg (show ¬ saN (RB nk nc fo th tg T nt up) th nk nc = 0 from c7)]; exact hal)), (by rw [ht]; exact hP9), va_K.moved hW.alike hK, hD9⟩, hS.F ht⟩) hS.2.2 dX3_share_100
        · skip
          have c7 := (zz_nef (a := it (fun i s => it (saG (RB nk nc fo th tg T nt up) th i) nk s) nc 0) (b := 0) (by have := saN_le (v := RB nk nc fo th tg T nt up) (th := th) (nk := nk) (n := nc) hk8; simp only [saN] at this; omega) (by omega)).mp c_6
          refine lv_dconst0 hx hb dX3_share_91 ?_
          refine lv_goto (tgt := 100) hx hb dX3_share_92 (by decide) ?_
          rw [← hQ]
          refine W.base ?_
          refine W.endD hd0 ?_
          have hP9 := hP
          have hD9 := hD
          exact W.dret (v := FP.dconst0) hx hb hr (fun t ht hW => ⟨⟨FP.dconst0, (re_n, ro_n, rc_n), rfl, (by show alike64 _ (shD _ _) = true; first | (rw [shD, if_pos (show saN (RB nk nc fo th tg T nt up) th nk nc = 0 from c7)]; exact zz_al) | (rw [shD, if_neg (show ¬ saN (RB nk nc fo th tg T nt up) th nk nc = 0 from c7)]; exact hal)), (by rw [ht]; exact hP9), va_K.moved hW.alike hK, hD9⟩, hS.F ht⟩) hS.2.2 dX3_share_100
      · skip
        have c_5 := (zz_gef (a := y) (b := nc) (by omega) (by omega)).mp c_5
        refine lv_iconst (v := 0) hx hb dX3_share_21 (by decide) ?_
        refine lv_istore (lv' := [(4, .int 0), (0, .ref (a 0)), (1, .int (nI (it (fun i s => it (saG (RB nk nc fo th tg T nt up) th i) nk s) y 0))), (2, .int (nI (it (fun i s => it (scG (RB nk nc fo th tg T nt up) th (tkf T nt up) nt i) nk s) y 0))), (3, .int (nI y))]) hx hb dX3_share_22 hl (by decide) rfl (fun ls hl => ?_)
        have J_24 : ∀ (n9 : Nat) (z : Nat) (H : Heap) (locs : List Loc) (ls : Array Slot), (z ≤ nk) → nk - z < n9 → va_P (dC, dI) vwCl (w3 a cI cZ nk pa fa nc fo th tg nt tb te tk tt nu ub ue uk ut re_n ro_n fu bl go ra rc_n ex tc es wy) H → va_D A (w3 a cI cZ nk pa fa nc fo th tg nt tb te tk tt nu ub ue uk ut re_n ro_n fu bl go ra rc_n ex tc es wy) → va_S A s.heap H locs → lv_has ls 5 [(0, .ref (a 0)), (1, .int (nI (it (saG (RB nk nc fo th tg T nt up) th y) z (it (fun i s => it (saG (RB nk nc fo th tg T nt up) th i) nk s) y 0)))), (2, .int (nI (it (scG (RB nk nc fo th tg T nt up) th (tkf T nt up) nt y) z (it (fun i s => it (scG (RB nk nc fo th tg T nt up) th (tkf T nt up) nt i) nk s) y 0)))), (3, .int (nI y)), (4, .int (nI z))] → W p l e (headSpec wsX3_share ({ frames := 4, cells := 0, slots := 0, locals := 93 } : Room)).room s m args below meth c H locs 0 0 Q (F0 m 24 ls []) := by
          intro n9
          induction n9 with
          | zero => intro z H locs ls hz hmu; exact absurd hmu (Nat.not_lt_zero _)
          | succ n9 ih_24 =>
            intro z H locs ls hz hmu hP hD hS hl
            refine lv_iload hx hb dX3_share_24 (lv_at hl 4 rfl) ?_
            refine lv_aload_n hx hb dX3_share_26 rfl (lv_at hl 0 rfl) ?_
            refine va_get (D := (dC, dI)) (ci := 3) (v := .ref (a 1)) (C := RX3) (T := TX3) (N := 15) hx hb hts (by decide +kernel) hown hK hP 0 rfl rfl 0 (by decide) (hts (.fieldLink RX3 12 "HandlerOptimizer" "kinds" "LHandlerOptimizer$Kinds;") (by decide +kernel)) (fun _ h9 => h9) rfl dX3_share_27 ?_
            refine va_getN (D := (dC, dI)) (ci := 1) (v := .int (nI nk)) (C := RX1) (T := TX1) (N := 3) hx hb hts (by decide +kernel) hown hK hP 1 rfl rfl 2 (by decide) (va_Nw.use rfl (hn (.fieldLinkNest RX3 76 "HandlerOptimizer$Kinds" "count" "I" "HandlerOptimizer") (by decide +kernel))) (fun _ h9 => h9) rfl dX3_share_30 ?_
            refine lv_icmp_ge (tgt := 81) hx hb dX3_share_33 (by decide) (fun c_7 => ?_) (fun c_7 => ?_)
            · skip
              have c9 := (zz_get (a := z) (b := nk) (by omega) (by omega)).mp c_7
              rw [show z = nk from by omega] at hl
              refine lv_iinc (v := nI (y + 1)) (lv' := [(3, .int (nI (y + 1))), (0, .ref (a 0)), (1, .int (nI (it (saG (RB nk nc fo th tg T nt up) th y) nk (it (fun i s => it (saG (RB nk nc fo th tg T nt up) th i) nk s) y 0)))), (2, .int (nI (it (scG (RB nk nc fo th tg T nt up) th (tkf T nt up) nt y) nk (it (fun i s => it (scG (RB nk nc fo th tg T nt up) th (tkf T nt up) nt i) nk s) y 0)))), (4, .int (nI nk))]) hx hb dX3_share_81 hl (k := 3) rfl (zz_inc y 1) (by decide) rfl (fun ls hl => ?_)
              refine lv_goto (tgt := 10) hx hb dX3_share_84 (by decide) ?_
              exact ih_10 (y + 1) _ _ _ (by first | assumption | omega) (by omega) hP hD hS (lv_sub hl [1, 2, 3, 0] rfl)
            · skip
              have c_7 := (zz_gef (a := z) (b := nk) (by omega) (by omega)).mp c_7
              refine lv_aload_n hx hb dX3_share_36 rfl (lv_at hl 0 rfl) ?_
              refine lv_iload_n hx hb dX3_share_37 rfl (lv_at hl 3 rfl) ?_
              refine lv_iload hx hb dX3_share_38 (lv_at hl 4 rfl) ?_
              refine va_calli (va_runV (As := [.int (nI y), .int (nI z)]) (rest := []) ⟨hx, hb, hml, hown, hts⟩ (c_X3_isThrown l dC dI cI cZ cJ a nk pa fa nc fo th tg nt tb te tk tt nu ub ue uk ut re_n ro_n fu bl go ra rc_n ex tc es wy y z (RB nk nc fo th tg T nt up) (by omega) (by omega) (hre)) (cwV 2 hts gX3_share_X3_isThrown rfl rfl rfl (by decide +kernel) ⟨Nat.le_of_ble_eq_true rfl, Nat.le_of_ble_eq_true rfl⟩) ⟨zPre_blind, va_recv hK hP (ci := 3) (q0 := 0) rfl rfl, zPre_at hP hK hn⟩ rfl rfl hl.1 rfl (lv_room (Nat.le_of_ble_eq_true rfl)) dX3_share_40 ⟨Nat.le_of_ble_eq_true rfl, Nat.le_of_ble_eq_true rfl⟩) hS (fun _ _ h => h.elim) (fun _ h => h.elim) (fun r_8 u_9 t H locs ht hvm hw hB hz1 hk1 hS => ?_)
              have hP := zkeep hP hk1
              subst hw
              refine lv_if_eq (tgt := 75) hx hb dX3_share_43 (by decide) (fun c_9 => ?_) (fun c_9 => ?_)
              · skip
                have c9 := zb_0.mp c_9
                have e1 : (it (saG (RB nk nc fo th tg T nt up) th y) (z + 1) (it (fun i s => it (saG (RB nk nc fo th tg T nt up) th i) nk s) y 0)) = (it (saG (RB nk nc fo th tg T nt up) th y) z (it (fun i s => it (saG (RB nk nc fo th tg T nt up) th i) nk s) y 0)) := by simp only [it, saG]; simp [*]
                have e2 : (it (scG (RB nk nc fo th tg T nt up) th (tkf T nt up) nt y) (z + 1) (it (fun i s => it (scG (RB nk nc fo th tg T nt up) th (tkf T nt up) nt i) nk s) y 0)) = (it (scG (RB nk nc fo th tg T nt up) th (tkf T nt up) nt y) z (it (fun i s => it (scG (RB nk nc fo th tg T nt up) th (tkf T nt up) nt i) nk s) y 0)) := by simp only [it, scG]; simp [*]
                rw [← e1, ← e2] at hl
                refine lv_iinc (v := nI (z + 1)) (lv' := [(4, .int (nI (z + 1))), (0, .ref (a 0)), (1, .int (nI (it (saG (RB nk nc fo th tg T nt up) th y) (z + 1) (it (fun i s => it (saG (RB nk nc fo th tg T nt up) th i) nk s) y 0)))), (2, .int (nI (it (scG (RB nk nc fo th tg T nt up) th (tkf T nt up) nt y) (z + 1) (it (fun i s => it (scG (RB nk nc fo th tg T nt up) th (tkf T nt up) nt i) nk s) y 0)))), (3, .int (nI y))]) hx hb dX3_share_75 hl (k := 4) rfl (zz_inc z 1) (by decide) rfl (fun ls hl => ?_)
                refine lv_goto (tgt := 24) hx hb dX3_share_78 (by decide) ?_
                exact ih_24 (z + 1) _ _ _ (by first | assumption | omega) (by omega) hP hD hS (lv_sub hl [1, 2, 3, 4, 0] rfl)
              · skip
                have c9 := zb_1.mp c_9
                have e1 : (it (saG (RB nk nc fo th tg T nt up) th y) (z + 1) (it (fun i s => it (saG (RB nk nc fo th tg T nt up) th i) nk s) y 0)) = (it (saG (RB nk nc fo th tg T nt up) th y) z (it (fun i s => it (saG (RB nk nc fo th tg T nt up) th i) nk s) y 0)) + 1 := by simp only [it, saG]; simp [*]
                refine lv_iinc (v := nI (it (saG (RB nk nc fo th tg T nt up) th y) (z + 1) (it (fun i s => it (saG (RB nk nc fo th tg T nt up) th i) nk s) y 0))) (lv' := [(1, .int (nI (it (saG (RB nk nc fo th tg T nt up) th y) (z + 1) (it (fun i s => it (saG (RB nk nc fo th tg T nt up) th i) nk s) y 0)))), (0, .ref (a 0)), (2, .int (nI (it (scG (RB nk nc fo th tg T nt up) th (tkf T nt up) nt y) z (it (fun i s => it (scG (RB nk nc fo th tg T nt up) th (tkf T nt up) nt i) nk s) y 0)))), (3, .int (nI y)), (4, .int (nI z))]) hx hb dX3_share_46 hl (k := 1) rfl (by rw [e1]; exact zz_inc _ 1) (by decide) rfl (fun ls hl => ?_)
                refine lv_iload_n hx hb dX3_share_49 rfl (lv_at hl 2 rfl) ?_
                refine lv_aload_n hx hb dX3_share_50 rfl (lv_at hl 1 rfl) ?_
                refine va_get (D := (dC, dI)) (ci := 3) (v := .ref (a 8)) (C := RX3) (T := TX3) (N := 15) hx hb hts (by decide +kernel) hown hK hP 0 rfl rfl 2 (by decide) (hts (.fieldLink RX3 26 "HandlerOptimizer" "table" "LHandlerOptimizer$Table;") (by decide +kernel)) (fun _ h9 => h9) rfl dX3_share_51 ?_
                refine lv_aload_n hx hb dX3_share_54 rfl (lv_at hl 1 rfl) ?_
                refine va_get (D := (dC, dI)) (ci := 3) (v := .ref (a 1)) (C := RX3) (T := TX3) (N := 15) hx hb hts (by decide +kernel) hown hK hP 0 rfl rfl 0 (by decide) (hts (.fieldLink RX3 12 "HandlerOptimizer" "kinds" "LHandlerOptimizer$Kinds;") (by decide +kernel)) (fun _ h9 => h9) rfl dX3_share_55 ?_
                refine lv_iload_n hx hb dX3_share_58 rfl (lv_at hl 3 rfl) ?_
                refine lv_iload hx hb dX3_share_59 (lv_at hl 4 rfl) ?_
                have hPc := hP.sub (ws' := wT (a 8) (a 9) (a 10) (a 11) (a 12) cI nt tb te tk tt ++ wK (a 1) (a 2) (a 3) cI nk pa fa) [8, 9, 10, 11, 12, 1, 2, 3] rfl
                refine va_calli (va_runVN (As := [.ref (a 1), .int (nI y), .int (nI z)]) (rest := [.int (nI (it (scG (RB nk nc fo th tg T nt up) th (tkf T nt up) nt y) z (it (fun i s => it (scG (RB nk nc fo th tg T nt up) th (tkf T nt up) nt i) nk s) y 0)))]) ⟨hx, hb, hml, hown, hts⟩ (c_X2_firstTaker l dC dI cI cZ cJ (a 8) (a 9) (a 10) (a 11) (a 12) nt tb te tk tt (a 1) (a 2) (a 3) nk pa fa y z T up (by omega) (by first | assumption | omega) (by first | assumption | omega) (by first | assumption | omega) (by first | assumption | omega) (by first | assumption | omega) (by first | assumption | omega)) ⟨va_cnB 3 hts gX3_share_X2_firstTaker_n146 rfl rfl rfl (hn (.methodLinkNest RX3 146 yX2_firstTaker "HandlerOptimizer") (by decide +kernel)) (hts (.initialized RX2) (by decide +kernel)) (by decide +kernel) ⟨Nat.le_of_ble_eq_true rfl, Nat.le_of_ble_eq_true rfl⟩, hts (.instanceMethod yX2_firstTaker) (by decide +kernel), hts (.selects RX2 yX2_firstTaker yX2_firstTaker) (by decide +kernel)⟩ ⟨zPre_blind, va_recv hK hPc (ci := 2) (q0 := 0) rfl rfl, zPre_at hPc hK hn⟩ rfl rfl hl.1 rfl (lv_room (Nat.le_of_ble_eq_true rfl)) dX3_share_61 ⟨Nat.le_of_ble_eq_true rfl, Nat.le_of_ble_eq_true rfl⟩) hS (fun _ _ h => h.elim) (fun _ h => h.elim) (fun r_10 u_9 t H locs ht hvm hw hB hz1 hk1 hS => ?_)
                have hP := zkeep hP hk1
                subst hw
                refine lv_iconst (v := -1) hx hb dX3_share_64 (by decide) ?_
                refine lv_icmp_ne (tgt := 72) hx hb dX3_share_65 (by decide) (fun c_11 => ?_) (fun c_11 => ?_)
                · skip
                  have c8 := tkI_lt (by omega) c_11
                  have e2 : (it (scG (RB nk nc fo th tg T nt up) th (tkf T nt up) nt y) (z + 1) (it (fun i s => it (scG (RB nk nc fo th tg T nt up) th (tkf T nt up) nt i) nk s) y 0)) = (it (scG (RB nk nc fo th tg T nt up) th (tkf T nt up) nt y) z (it (fun i s => it (scG (RB nk nc fo th tg T nt up) th (tkf T nt up) nt i) nk s) y 0)) + 1 := by simp only [it, scG]; simp [*]
                  refine lv_iconst (v := 1) hx hb dX3_share_72 (by decide) ?_
                  refine lv_iadd hx hb dX3_share_73 ?_
                  refine zz_top (y := nI ((it (scG (RB nk nc fo th tg T nt up) th (tkf T nt up) nt y) z (it (fun i s => it (scG (RB nk nc fo th tg T nt up) th (tkf T nt up) nt i) nk s) y 0)) + 1)) (nI_add _ _) ?_
                  refine zz_top (y := nI (it (scG (RB nk nc fo th tg T nt up) th (tkf T nt up) nt y) (z + 1) (it (fun i s => it (scG (RB nk nc fo th tg T nt up) th (tkf T nt up) nt i) nk s) y 0))) (by first | (rw [e2]; done) | (rw [e2]; rfl)) ?_
                  refine lv_istore_n (lv' := [(2, .int (nI (it (scG (RB nk nc fo th tg T nt up) th (tkf T nt up) nt y) (z + 1) (it (fun i s => it (scG (RB nk nc fo th tg T nt up) th (tkf T nt up) nt i) nk s) y 0)))), (1, .int (nI (it (saG (RB nk nc fo th tg T nt up) th y) (z + 1) (it (fun i s => it (saG (RB nk nc fo th tg T nt up) th i) nk s) y 0)))), (0, .ref (a 0)), (3, .int (nI y)), (4, .int (nI z))]) hx hb dX3_share_74 rfl hl (by decide) rfl (fun ls hl => ?_)
                  refine lv_iinc (v := nI (z + 1)) (lv' := [(4, .int (nI (z + 1))), (2, .int (nI (it (scG (RB nk nc fo th tg T nt up) th (tkf T nt up) nt y) (z + 1) (it (fun i s => it (scG (RB nk nc fo th tg T nt up) th (tkf T nt up) nt i) nk s) y 0)))), (1, .int (nI (it (saG (RB nk nc fo th tg T nt up) th y) (z + 1) (it (fun i s => it (saG (RB nk nc fo th tg T nt up) th i) nk s) y 0)))), (0, .ref (a 0)), (3, .int (nI y))]) hx hb dX3_share_75 hl (k := 4) rfl (zz_inc z 1) (by decide) rfl (fun ls hl => ?_)
                  refine lv_goto (tgt := 24) hx hb dX3_share_78 (by decide) ?_
                  exact ih_24 (z + 1) _ _ _ (by first | assumption | omega) (by omega) hP hD hS (lv_sub hl [3, 2, 1, 4, 0] rfl)
                · skip
                  have c8 := tkI_m1 (by omega) c_11
                  have e2 : (it (scG (RB nk nc fo th tg T nt up) th (tkf T nt up) nt y) (z + 1) (it (fun i s => it (scG (RB nk nc fo th tg T nt up) th (tkf T nt up) nt i) nk s) y 0)) = (it (scG (RB nk nc fo th tg T nt up) th (tkf T nt up) nt y) z (it (fun i s => it (scG (RB nk nc fo th tg T nt up) th (tkf T nt up) nt i) nk s) y 0)) := by simp only [it, scG]; simp [*]
                  refine lv_iconst (v := 0) hx hb dX3_share_68 (by decide) ?_
                  refine lv_goto (tgt := 73) hx hb dX3_share_69 (by decide) ?_
                  refine lv_iadd hx hb dX3_share_73 ?_
                  refine zz_top (y := nI ((it (scG (RB nk nc fo th tg T nt up) th (tkf T nt up) nt y) z (it (fun i s => it (scG (RB nk nc fo th tg T nt up) th (tkf T nt up) nt i) nk s) y 0)) + 0)) (nI_add _ _) ?_
                  refine zz_top (y := nI (it (scG (RB nk nc fo th tg T nt up) th (tkf T nt up) nt y) (z + 1) (it (fun i s => it (scG (RB nk nc fo th tg T nt up) th (tkf T nt up) nt i) nk s) y 0))) (by first | (rw [e2]; done) | (rw [e2]; rfl)) ?_
                  refine lv_istore_n (lv' := [(2, .int (nI (it (scG (RB nk nc fo th tg T nt up) th (tkf T nt up) nt y) (z + 1) (it (fun i s => it (scG (RB nk nc fo th tg T nt up) th (tkf T nt up) nt i) nk s) y 0)))), (1, .int (nI (it (saG (RB nk nc fo th tg T nt up) th y) (z + 1) (it (fun i s => it (saG (RB nk nc fo th tg T nt up) th i) nk s) y 0)))), (0, .ref (a 0)), (3, .int (nI y)), (4, .int (nI z))]) hx hb dX3_share_74 rfl hl (by decide) rfl (fun ls hl => ?_)
                  refine lv_iinc (v := nI (z + 1)) (lv' := [(4, .int (nI (z + 1))), (2, .int (nI (it (scG (RB nk nc fo th tg T nt up) th (tkf T nt up) nt y) (z + 1) (it (fun i s => it (scG (RB nk nc fo th tg T nt up) th (tkf T nt up) nt i) nk s) y 0)))), (1, .int (nI (it (saG (RB nk nc fo th tg T nt up) th y) (z + 1) (it (fun i s => it (saG (RB nk nc fo th tg T nt up) th i) nk s) y 0)))), (0, .ref (a 0)), (3, .int (nI y))]) hx hb dX3_share_75 hl (k := 4) rfl (zz_inc z 1) (by decide) rfl (fun ls hl => ?_)
                  refine lv_goto (tgt := 24) hx hb dX3_share_78 (by decide) ?_
                  exact ih_24 (z + 1) _ _ _ (by first | assumption | omega) (by omega) hP hD hS (lv_sub hl [3, 2, 1, 4, 0] rfl)
        exact J_24 _ 0 _ _ _ (by first | assumption | omega) (Nat.lt_succ_self _) hP hD hS (lv_sub hl [1, 2, 3, 4, 0] rfl)
  exact J_10 _ 0 _ _ _ (by first | assumption | omega) (Nat.lt_succ_self _) hP hD hS (lv_sub hl [3, 2, 1, 0] rfl)

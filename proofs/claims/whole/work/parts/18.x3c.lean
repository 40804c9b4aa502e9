set_option maxHeartbeats 4000000 in
set_option maxRecDepth 100000 in
theorem c_X3_drop (l : Launch) (dC : Nat → ClassId) (dI : Nat → Nat → Nat) (cI cZ cJ : ClassId) (a : Nat → Nat) (nk : Nat) (pa : Nat → Int32) (fa : Nat → Int32) (nc : Nat) (fo : Nat → Int32) (th : Nat → Int32) (tg : Nat → Int32) (nt : Nat) (tb : Nat → Int32) (te : Nat → Int32) (tk : Nat → Int32) (tt : Nat → Int32) (nu : Nat) (ub : Nat → Int32) (ue : Nat → Int32) (uk : Nat → Int32) (ut : Nat → Int32) (re : Nat → Int32) (ro : Nat → Int32) (fu : Nat → Int32) (bl : Nat → Int32) (go : Nat → Int32) (ra : Nat → Int32) (rc : Nat) (ex : Int32) (tc : Int32) (es : Int32) (wy : Int64) (T : Nat → Nat → Nat) (up : Nat → Nat → Bool) (sz : Nat) (hg : g3 nk fa up nt tb te tk tt T) (hc : okC nk nc fo th tg) : Met l yX3_drop wsX3_drop ({ frames := 5, cells := 0, slots := 0, locals := 115 } : Room) (va_Pc [.ref (a 0)] (zWr (dC, dI) [(cI, .int), (cZ, .boolean), (cJ, .long)] (w3 a cI cZ nk pa fa nc fo th tg nt tb te tk tt nu ub ue uk ut re ro fu bl go ra rc ex tc es wy) sz)) (va_Qi (fun (r : Int32) (u : (Nat → Int32) × (Nat → Int32) × Nat × (Nat → Int32) × (Nat → Int32) × Nat × (Nat → Int32) × (Nat → Int32) × (Nat → Int32) × (Nat → Int32)) => match u with | (re9, ro9, rc9, fu9, bl9, nt9, tb9, te9, tk9, tt9) => r = nI (nt - (dR nk nc fo th tg up (T, nt)).2) ∧ nt9 = (dR nk nc fo th tg up (T, nt)).2 ∧ g3 nk fa up nt9 tb9 te9 tk9 tt9 (dR nk nc fo th tg up (T, nt)).1) (fun u t => match u with | (re9, ro9, rc9, fu9, bl9, nt9, tb9, te9, tk9, tt9) => zWo (dC, dI) [(cI, .int), (cZ, .boolean), (cJ, .long)] (w3 a cI cZ nk pa fa nc fo th tg nt9 tb9 te9 tk9 tt9 nu ub ue uk ut re9 ro9 fu9 bl9 go ra rc9 ex tc es wy) (va_A (w3 a cI cZ nk pa fa nc fo th tg nt tb te tk tt nu ub ue uk ut re ro fu bl go ra rc ex tc es wy) sz) t) (va_A (w3 a cI cZ nk pa fa nc fo th tg nt tb te tk tt nu ub ue uk ut re ro fu bl go ra rc ex tc es wy) sz)) 0 0 (va_A (w3 a cI cZ nk pa fa nc fo th tg nt tb te tk tt nu ub ue uk ut re ro fu bl go ra rc ex tc es wy) sz) := by
  refine Met.ofW (cc := cX3_drop) (maxL := 3) (ret := (some .int)) (by decide) rfl ?_
  intro p e s m args below meth c s₁ B hml hv
  obtain ⟨hav, hsz, ⟨hP, hK, hn⟩, hD0⟩ := hv
  have hx := B.exec
  have hb := B.bytes
  have hr := B.returns
  have hts := atoms_spec (ws := wsX3_drop) B.pre
  have hown : s.vm.findClass RX3 = some m.cls := findClass_of_methodNamed B.named
  have hlocks := B.notSynchronized
  subst hsz
  have hD := hD0.self (sz := s.heap.size)
  generalize hAe : (va_A (w3 a cI cZ nk pa fa nc fo th tg nt tb te tk tt nu ub ue uk ut re ro fu bl go ra rc ex tc es wy) s.heap.size) = A at hD ⊢
  have hA : ∀ q : Nat, s.heap.size ≤ q → A q := fun q h => by rw [← hAe]; exact Or.inr h
  have hS : va_S A s.heap s.heap [] := va_S.rf
  generalize hQ : MQ below (va_Qi (fun (r : Int32) (u : (Nat → Int32) × (Nat → Int32) × Nat × (Nat → Int32) × (Nat → Int32) × Nat × (Nat → Int32) × (Nat → Int32) × (Nat → Int32) × (Nat → Int32)) => match u with | (re9, ro9, rc9, fu9, bl9, nt9, tb9, te9, tk9, tt9) => r = nI (nt - (dR nk nc fo th tg up (T, nt)).2) ∧ nt9 = (dR nk nc fo th tg up (T, nt)).2 ∧ g3 nk fa up nt9 tb9 te9 tk9 tt9 (dR nk nc fo th tg up (T, nt)).1) (fun u t => match u with | (re9, ro9, rc9, fu9, bl9, nt9, tb9, te9, tk9, tt9) => zWo (dC, dI) [(cI, .int), (cZ, .boolean), (cJ, .long)] (w3 a cI cZ nk pa fa nc fo th tg nt9 tb9 te9 tk9 tt9 nu ub ue uk ut re9 ro9 fu9 bl9 go ra rc9 ex tc es wy) A t) A) args s 0 0 A = Q
  refine W.eq (g2 := entryFrame m ([.ref (a 0)] : List Value).toArray 3) (by rw [hav]) ?_
  have hl := lv_entry ([.ref (a 0)]) (n := 3) (Nat.le_of_ble_eq_true rfl)
  rw [lg_entry_eq]
  generalize (lg_sl ([.ref (a 0)]) ++ List.replicate (3 - (lg_sl ([.ref (a 0)])).length) Slot.unset).toArray = ls at hl ⊢
  have hl : lv_has ls 3 [(0, .ref (a 0))] := hl
  obtain ⟨H, hH⟩ : ∃ H, H = s.heap := ⟨_, rfl⟩
  obtain ⟨locs, hlo⟩ : ∃ q : List Loc, q = [] := ⟨_, rfl⟩
  have hP : va_P (dC, dI) vwCl (w3 a cI cZ nk pa fa nc fo th tg nt tb te tk tt nu ub ue uk ut re ro fu bl go ra rc ex tc es wy) H := by rw [hH]; exact hP
  have hS : va_S A s.heap H locs := by rw [hH, hlo]; exact hS
  refine zz_hl hH hlo ?_
  obtain ⟨hk01, hk8, hnt, hT, hO, hF, hU⟩ := id hg
  obtain ⟨hnc, hC⟩ := id hc
  refine lv_aload_n hx hb dX3_drop_0 rfl (lv_at hl 0 rfl) ?_
  have hDc := hD
  have hFc := va_free (wc := w3 a cI cZ nk pa fa nc fo th tg nt tb te tk tt nu ub ue uk ut re ro fu bl go ra rc ex tc es wy) hD hS hA [0, 1, 2, 3, 4, 5, 6, 7, 8, 9, 10, 11, 12, 13, 14, 15, 16, 17, 18, 19, 20, 21, 22, 23] rfl
  refine va_callv (va_runV (As := []) (rest := []) ⟨hx, hb, hml, hown, hts⟩ (c_X3_findUses l dC dI cI cZ cJ a nk pa fa nc fo th tg nt tb te tk tt nu ub ue uk ut re ro fu bl go ra rc ex tc es wy T up H.size (by first | assumption | omega) (by first | assumption | omega)) (cwV 0 hts gX3_drop_X3_findUses rfl rfl rfl (by decide +kernel) ⟨Nat.le_of_ble_eq_true rfl, Nat.le_of_ble_eq_true rfl⟩) ⟨zWr_blind, va_recv hK hP (ci := 3) (q0 := 0) rfl rfl, zWr_at hP hK hn (hDc.weaken (fun _ _ _ _ => trivial))⟩ rfl rfl hl.1 rfl (lv_room (Nat.le_of_ble_eq_true rfl)) dX3_drop_1 ⟨Nat.le_of_ble_eq_true rfl, Nat.le_of_ble_eq_true rfl⟩) hS (fun q _ h => hFc q h) hFc (fun u_9 t H1 locs ht hvm hw hB hz1 hk1 hS => ?_)
  obtain ⟨re_n, ro_n, rc_n, fu_n, bl_n⟩ := u_9
  dsimp only at hw hB
  obtain ⟨hP1, -, hD1⟩ := hB
  rw [ht] at hP1
  obtain ⟨hP, hD⟩ := va_join (wr := []) (w1 := w3 a cI cZ nk pa fa nc fo th tg nt tb te tk tt nu ub ue uk ut re_n ro_n fu_n bl_n go ra rc_n ex tc es wy) hP hD [0, 1, 2, 3, 4, 5, 6, 7, 8, 9, 10, 11, 12, 13, 14, 15, 16, 17, 18, 19, 20, 21, 22, 23] [] rfl rfl (by decide) (by decide) hk1 hFc hP1 hD1
  generalize H1 = H at hP hS ⊢
  have hP : va_P (dC, dI) vwCl (w3 a cI cZ nk pa fa nc fo th tg nt tb te tk tt nu ub ue uk ut re_n ro_n fu_n bl_n go ra rc_n ex tc es wy) H := hP
  have hD : va_D A (w3 a cI cZ nk pa fa nc fo th tg nt tb te tk tt nu ub ue uk ut re_n ro_n fu_n bl_n go ra rc_n ex tc es wy) := hD
  obtain ⟨hre, huf⟩ := hw
  refine lv_aload_n hx hb dX3_drop_4 rfl (lv_at hl 0 rfl) ?_
  refine va_get (D := (dC, dI)) (ci := 3) (v := .ref (a 8)) (C := RX3) (T := TX3) (N := 15) hx hb hts (by decide +kernel) hown hK hP 0 rfl rfl 2 (by decide) (hts (.fieldLink RX3 26 "HandlerOptimizer" "table" "LHandlerOptimizer$Table;") (by decide +kernel)) (fun _ h9 => h9) rfl dX3_drop_5 ?_
  refine va_getN (D := (dC, dI)) (ci := 2) (v := .int (nI nt)) (C := RX2) (T := TX2) (N := 5) hx hb hts (by decide +kernel) hown hK hP 8 rfl rfl 4 (by decide) (va_Nw.use rfl (hn (.fieldLinkNest RX3 134 "HandlerOptimizer$Table" "count" "I" "HandlerOptimizer") (by decide +kernel))) (fun _ h9 => h9) rfl dX3_drop_8 ?_
  refine lv_istore_n (lv' := [(1, .int (nI nt)), (0, .ref (a 0))]) hx hb dX3_drop_11 rfl hl (by decide) rfl (fun ls hl => ?_)
  refine lv_iload_n hx hb dX3_drop_12 rfl (lv_at hl 0 rfl) ?_
  refine lv_iconst (v := 1) hx hb dX3_drop_13 (by decide) ?_
  refine lv_isub hx hb dX3_drop_14 ?_
  refine lv_istore_n (lv' := [(2, .int ((nI nt) - 1)), (1, .int (nI nt)), (0, .ref (a 0))]) hx hb dX3_drop_15 rfl hl (by decide) rfl (fun ls hl => ?_)
  have J_16 : ∀ (n9 : Nat) (y : Nat) (n : Nat) (gb : Nat → Int32) (ge : Nat → Int32) (gk : Nat → Int32) (gt : Nat → Int32) (D : Nat → Nat → Nat) (H : Heap) (locs : List Loc) (ls : Array Slot), (y ≤ n) → (n ≤ nt) → (rT n gb ge gk gt D) → (okT nk n D) → (dlp (fun e => an (US nk nc fo th tg T nt up e) nc) nt (T, nt) = dlp (fun e => an (US nk nc fo th tg T nt up e) nc) y (D, n)) → y < n9 → va_P (dC, dI) vwCl (w3 a cI cZ nk pa fa nc fo th tg n gb ge gk gt nu ub ue uk ut re_n ro_n fu_n bl_n go ra rc_n ex tc es wy) H → va_D A (w3 a cI cZ nk pa fa nc fo th tg n gb ge gk gt nu ub ue uk ut re_n ro_n fu_n bl_n go ra rc_n ex tc es wy) → va_S A s.heap H locs → lv_has ls 3 [(0, .ref (a 0)), (1, .int (nI nt)), (2, .int (nI y - 1))] → W p l e (headSpec wsX3_drop ({ frames := 5, cells := 0, slots := 0, locals := 115 } : Room)).room s m args below meth c H locs 0 0 Q (F0 m 16 ls []) := by
    intro n9
    induction n9 with
    | zero => intro y n gb ge gk gt D H locs ls hy hn9 hrt ho hq hmu; exact absurd hmu (Nat.not_lt_zero _)
    | succ n9 ih_16 =>
      intro y n gb ge gk gt D H locs ls hy hn9 hrt ho hq hmu hP hD hS hl
      refine lv_iload_n hx hb dX3_drop_16 rfl (lv_at hl 2 rfl) ?_
      refine lv_if_lt (tgt := 42) hx hb dX3_drop_17 (by decide) (fun c_7 => ?_) (fun c_7 => ?_)
      · skip
        have c1 := zz_cdt (by omega) c_7
        subst c1
        have hq7 : dR nk nc fo th tg up (T, nt) = (D, n) := hq
        refine lv_iload_n hx hb dX3_drop_42 rfl (lv_at hl 1 rfl) ?_
        refine lv_aload_n hx hb dX3_drop_43 rfl (lv_at hl 0 rfl) ?_
        refine va_get (D := (dC, dI)) (ci := 3) (v := .ref (a 8)) (C := RX3) (T := TX3) (N := 15) hx hb hts (by decide +kernel) hown hK hP 0 rfl rfl 2 (by decide) (hts (.fieldLink RX3 26 "HandlerOptimizer" "table" "LHandlerOptimizer$Table;") (by decide +kernel)) (fun _ h9 => h9) rfl dX3_drop_44 ?_
        refine va_getN (D := (dC, dI)) (ci := 2) (v := .int (nI n)) (C := RX2) (T := TX2) (N := 5) hx hb hts (by decide +kernel) hown hK hP 8 rfl rfl 4 (by decide) (va_Nw.use rfl (hn (.fieldLinkNest RX3 134 "HandlerOptimizer$Table" "count" "I" "HandlerOptimizer") (by decide +kernel))) (fun _ h9 => h9) rfl dX3_drop_47 ?_
        refine lv_isub hx hb dX3_drop_50 ?_
        refine zz_top (y := nI (nt - n)) (zz_subn (by omega)) ?_
        rw [← hQ]
        have hP9 := hP
        have hD9 := hD
        exact W.iret (v := nI (nt - n)) hx hb hr (fun t ht hW => ⟨⟨nI (nt - n), (re_n, ro_n, rc_n, fu_n, bl_n, n, gb, ge, gk, gt), rfl, (⟨by rw [hq7], by rw [hq7], by rw [hq7]; exact ⟨hk01, hk8, by omega, hrt, ho, hF, hU⟩⟩), (by rw [ht]; exact hP9), va_K.moved hW.alike hK, hD9⟩, hS.F ht⟩) hS.2.2 dX3_drop_51
      · skip
        have c1 := zz_cdf c_7
        obtain ⟨z, rfl⟩ : ∃ z, y = z + 1 := ⟨y - 1, by omega⟩
        rw [nI_pred] at hl
        refine lv_aload_n hx hb dX3_drop_20 rfl (lv_at hl 0 rfl) ?_
        refine lv_iload_n hx hb dX3_drop_21 rfl (lv_at hl 2 rfl) ?_
        refine va_calli (va_runV (As := [.int (nI z)]) (rest := []) ⟨hx, hb, hml, hown, hts⟩ (c_X3_hasUse l dC dI cI cZ cJ a nk pa fa nc fo th tg n gb ge gk gt nu ub ue uk ut re_n ro_n fu_n bl_n go ra rc_n ex tc es wy z (by omega)) (cwV 1 hts gX3_drop_X3_hasUse rfl rfl rfl (by decide +kernel) ⟨Nat.le_of_ble_eq_true rfl, Nat.le_of_ble_eq_true rfl⟩) ⟨zPre_blind, va_recv hK hP (ci := 3) (q0 := 0) rfl rfl, zPre_at hP hK hn⟩ rfl rfl hl.1 rfl (lv_room (Nat.le_of_ble_eq_true rfl)) dX3_drop_22 ⟨Nat.le_of_ble_eq_true rfl, Nat.le_of_ble_eq_true rfl⟩) hS (fun _ _ h => h.elim) (fun _ h => h.elim) (fun r_8 u_9 t H locs ht hvm hw hB hz1 hk1 hS => ?_)
        have hP := zkeep hP hk1
        subst hw
        refine lv_if_ne (tgt := 36) hx hb dX3_drop_25 (by decide) (fun c_9 => ?_) (fun c_9 => ?_)
        · skip
          have c9 := (uF_has huf (e := z) (by omega) hnc).symm.trans (zb_1.mp c_9)
          obtain ⟨D9, hD9e⟩ : ∃ q, q = D := ⟨_, rfl⟩
          have hr8 : rT n gb ge gk gt D9 := by rw [hD9e]; exact hrt
          have ho8 : okT nk n D9 := by rw [hD9e]; exact ho
          have hq8 : dlp (fun e => an (US nk nc fo th tg T nt up e) nc) nt (T, nt) = dlp (fun e => an (US nk nc fo th tg T nt up e) nc) z (D9, n) := by rw [hq, hD9e]; simp only [dlp]; rw [if_pos c9]
          refine lv_iinc (v := nI z - 1) (lv' := [(2, .int (nI z - 1)), (0, .ref (a 0)), (1, .int (nI nt))]) hx hb dX3_drop_36 hl (k := 2) rfl (zz_decm z) (by decide) rfl (fun ls hl => ?_)
          refine lv_goto (tgt := 16) hx hb dX3_drop_39 (by decide) ?_
          exact ih_16 z n gb ge gk gt D9 _ _ _ (by omega) (by omega) hr8 ho8 hq8 (by omega) hP hD hS (lv_sub hl [1, 2, 0] rfl)
        · skip
          have c9 := (uF_has huf (e := z) (by omega) hnc).symm.trans (zb_0.mp c_9)
          refine lv_aload_n hx hb dX3_drop_28 rfl (lv_at hl 0 rfl) ?_
          refine va_get (D := (dC, dI)) (ci := 3) (v := .ref (a 8)) (C := RX3) (T := TX3) (N := 15) hx hb hts (by decide +kernel) hown hK hP 0 rfl rfl 2 (by decide) (hts (.fieldLink RX3 26 "HandlerOptimizer" "table" "LHandlerOptimizer$Table;") (by decide +kernel)) (fun _ h9 => h9) rfl dX3_drop_29 ?_
          refine lv_iload_n hx hb dX3_drop_32 rfl (lv_at hl 2 rfl) ?_
          have hPc := hP.sub (ws' := wT (a 8) (a 9) (a 10) (a 11) (a 12) cI n gb ge gk gt) [8, 9, 10, 11, 12] rfl
          have hDc := hD.sub (ws' := wT (a 8) (a 9) (a 10) (a 11) (a 12) cI n gb ge gk gt) [8, 9, 10, 11, 12] (by decide) rfl
          have hFc := va_free (wc := wT (a 8) (a 9) (a 10) (a 11) (a 12) cI n gb ge gk gt) hD hS hA [8, 9, 10, 11, 12] rfl
          refine va_callv (va_runVN (As := [.int (nI z)]) (rest := []) ⟨hx, hb, hml, hown, hts⟩ (c_X2_delete l dC dI cI cZ cJ (a 8) (a 9) (a 10) (a 11) (a 12) n gb ge gk gt z D H.size (by first | assumption | omega) (by first | assumption | omega) (by first | assumption | omega)) ⟨va_cnB 1 hts gX3_drop_X2_delete_n131 rfl rfl rfl (hn (.methodLinkNest RX3 131 yX2_delete "HandlerOptimizer") (by decide +kernel)) (hts (.initialized RX2) (by decide +kernel)) (by decide +kernel) ⟨Nat.le_of_ble_eq_true rfl, Nat.le_of_ble_eq_true rfl⟩, hts (.instanceMethod yX2_delete) (by decide +kernel), hts (.selects RX2 yX2_delete yX2_delete) (by decide +kernel)⟩ ⟨zWr_blind, va_recv hK hPc (ci := 2) (q0 := 0) rfl rfl, zWr_at hPc hK hn (hDc.weaken (fun _ _ _ _ => trivial))⟩ rfl rfl hl.1 rfl (lv_room (Nat.le_of_ble_eq_true rfl)) dX3_drop_33 ⟨Nat.le_of_ble_eq_true rfl, Nat.le_of_ble_eq_true rfl⟩) hS (fun q _ h => hFc q h) hFc (fun u_9 t H1 locs ht hvm hw hB hz1 hk1 hS => ?_)
          obtain ⟨tb_n, te_n, tk_n, tt_n⟩ := u_9
          dsimp only at hw hB
          obtain ⟨hP1, -, hD1⟩ := hB
          rw [ht] at hP1
          obtain ⟨hP, hD⟩ := va_join (wr := [(a 0, .inr (3, [.ref (a 1), .ref (a 4), .ref (a 8), .ref (a 13), .ref (a 18), .ref (a 19), .int (nI rc_n), .ref (a 20), .ref (a 21), .ref (a 22), .ref (a 23), .int ex, .int tc, .int es, .long wy]))] ++ wK (a 1) (a 2) (a 3) cI nk pa fa ++ wC (a 4) (a 5) (a 6) (a 7) cI nc fo th tg ++ wT (a 13) (a 14) (a 15) (a 16) (a 17) cI nu ub ue uk ut ++ [(a 18, .inl (cZ, 48, .inl re_n)), (a 19, .inl (cI, 48, .inl ro_n)), (a 20, .inl (cI, 24, .inl fu_n)), (a 21, .inl (cI, 24, .inl bl_n)), (a 22, .inl (cI, 384, .inl go)), (a 23, .inl (cI, 49, .inl ra))]) (w1 := wT (a 8) (a 9) (a 10) (a 11) (a 12) cI (n - 1) tb_n te_n tk_n tt_n) hP hD [8, 9, 10, 11, 12] [0, 1, 2, 3, 4, 5, 6, 7, 13, 14, 15, 16, 17, 18, 19, 20, 21, 22, 23] rfl rfl (by decide) (by decide) hk1 hFc hP1 hD1
          generalize H1 = H at hP hS ⊢
          have hP := hP.sub (ws' := w3 a cI cZ nk pa fa nc fo th tg (n - 1) tb_n te_n tk_n tt_n nu ub ue uk ut re_n ro_n fu_n bl_n go ra rc_n ex tc es wy) [0, 1, 2, 3, 4, 5, 6, 7, 19, 20, 21, 22, 23, 8, 9, 10, 11, 12, 13, 14, 15, 16, 17, 18] rfl
          have hD := hD.sub (ws' := w3 a cI cZ nk pa fa nc fo th tg (n - 1) tb_n te_n tk_n tt_n nu ub ue uk ut re_n ro_n fu_n bl_n go ra rc_n ex tc es wy) [0, 1, 2, 3, 4, 5, 6, 7, 19, 20, 21, 22, 23, 8, 9, 10, 11, 12, 13, 14, 15, 16, 17, 18] (by decide) rfl
          have hP : va_P (dC, dI) vwCl (w3 a cI cZ nk pa fa nc fo th tg (n - 1) tb_n te_n tk_n tt_n nu ub ue uk ut re_n ro_n fu_n bl_n go ra rc_n ex tc es wy) H := hP
          have hD : va_D A (w3 a cI cZ nk pa fa nc fo th tg (n - 1) tb_n te_n tk_n tt_n nu ub ue uk ut re_n ro_n fu_n bl_n go ra rc_n ex tc es wy) := hD
          obtain ⟨D9, hD9e⟩ : ∃ q, q = dT D z := ⟨_, rfl⟩
          have hr8 : rT (n - 1) tb_n te_n tk_n tt_n D9 := by rw [hD9e]; exact hw
          have ho8 : okT nk (n - 1) D9 := by rw [hD9e]; exact okT_del ho
          have hq8 : dlp (fun e => an (US nk nc fo th tg T nt up e) nc) nt (T, nt) = dlp (fun e => an (US nk nc fo th tg T nt up e) nc) z (D9, n - 1) := by rw [hq, hD9e]; simp only [dlp]; rw [if_neg (by rw [c9]; exact Bool.false_ne_true)]
          refine lv_iinc (v := nI z - 1) (lv' := [(2, .int (nI z - 1)), (0, .ref (a 0)), (1, .int (nI nt))]) hx hb dX3_drop_36 hl (k := 2) rfl (zz_decm z) (by decide) rfl (fun ls hl => ?_)
          refine lv_goto (tgt := 16) hx hb dX3_drop_39 (by decide) ?_
          exact ih_16 z (n - 1) tb_n te_n tk_n tt_n D9 _ _ _ (by omega) (by omega) hr8 ho8 hq8 (by omega) hP hD hS (lv_sub hl [1, 2, 0] rfl)
  exact J_16 _ nt nt tb te tk tt T _ _ _ (by first | assumption | omega) (by first | assumption | omega) hT hO rfl (Nat.lt_succ_self _) hP hD hS (lv_sub hl [2, 1, 0] rfl)

set_option maxHeartbeats 4000000 in
set_option maxRecDepth 100000 in
theorem c_X3_shrink (l : Launch) (dC : Nat → ClassId) (dI : Nat → Nat → Nat) (cI cZ cJ : ClassId) (a : Nat → Nat) (nk : Nat) (pa : Nat → Int32) (fa : Nat → Int32) (nc : Nat) (fo : Nat → Int32) (th : Nat → Int32) (tg : Nat → Int32) (nt : Nat) (tb : Nat → Int32) (te : Nat → Int32) (tk : Nat → Int32) (tt : Nat → Int32) (nu : Nat) (ub : Nat → Int32) (ue : Nat → Int32) (uk : Nat → Int32) (ut : Nat → Int32) (re : Nat → Int32) (ro : Nat → Int32) (fu : Nat → Int32) (bl : Nat → Int32) (go : Nat → Int32) (ra : Nat → Int32) (rc : Nat) (ex : Int32) (tc : Int32) (es : Int32) (wy : Int64) (T : Nat → Nat → Nat) (up : Nat → Nat → Bool) (sz : Nat) (hg : g3 nk fa up nt tb te tk tt T) (hc : okC nk nc fo th tg) : Met l yX3_shrink wsX3_shrink ({ frames := 5, cells := 0, slots := 0, locals := 115 } : Room) (va_Pc [.ref (a 0)] (zWr (dC, dI) [(cI, .int), (cZ, .boolean), (cJ, .long)] (w3 a cI cZ nk pa fa nc fo th tg nt tb te tk tt nu ub ue uk ut re ro fu bl go ra rc ex tc es wy) sz)) (va_Qi (fun (r : Int32) (u : (Nat → Int32) × (Nat → Int32) × Nat × (Nat → Int32) × (Nat → Int32) × (Nat → Int32) × (Nat → Int32)) => match u with | (re9, ro9, rc9, fu9, bl9, tb9, te9) => r = nI (sRc nk nc fo th tg up (T, nt)) ∧ g3 nk fa up nt tb9 te9 tk tt (sR nk nc fo th tg up (T, nt)).1) (fun u t => match u with | (re9, ro9, rc9, fu9, bl9, tb9, te9) => zWo (dC, dI) [(cI, .int), (cZ, .boolean), (cJ, .long)] (w3 a cI cZ nk pa fa nc fo th tg nt tb9 te9 tk tt nu ub ue uk ut re9 ro9 fu9 bl9 go ra rc9 ex tc es wy) (va_A (w3 a cI cZ nk pa fa nc fo th tg nt tb te tk tt nu ub ue uk ut re ro fu bl go ra rc ex tc es wy) sz) t) (va_A (w3 a cI cZ nk pa fa nc fo th tg nt tb te tk tt nu ub ue uk ut re ro fu bl go ra rc ex tc es wy) sz)) 0 0 (va_A (w3 a cI cZ nk pa fa nc fo th tg nt tb te tk tt nu ub ue uk ut re ro fu bl go ra rc ex tc es wy) sz) := by
  refine Met.ofW (cc := cX3_shrink) (maxL := 3) (ret := (some .int)) (by decide) rfl ?_
  intro p e s m args below meth c s₁ B hml hv
  obtain ⟨hav, hsz, ⟨hP, hK, hn⟩, hD0⟩ := hv
  have hx := B.exec
  have hb := B.bytes
  have hr := B.returns
  have hts := atoms_spec (ws := wsX3_shrink) B.pre
  have hown : s.vm.findClass RX3 = some m.cls := findClass_of_methodNamed B.named
  have hlocks := B.notSynchronized
  subst hsz
  have hD := hD0.self (sz := s.heap.size)
  generalize hAe : (va_A (w3 a cI cZ nk pa fa nc fo th tg nt tb te tk tt nu ub ue uk ut re ro fu bl go ra rc ex tc es wy) s.heap.size) = A at hD ⊢
  have hA : ∀ q : Nat, s.heap.size ≤ q → A q := fun q h => by rw [← hAe]; exact Or.inr h
  have hS : va_S A s.heap s.heap [] := va_S.rf
  generalize hQ : MQ below (va_Qi (fun (r : Int32) (u : (Nat → Int32) × (Nat → Int32) × Nat × (Nat → Int32) × (Nat → Int32) × (Nat → Int32) × (Nat → Int32)) => match u with | (re9, ro9, rc9, fu9, bl9, tb9, te9) => r = nI (sRc nk nc fo th tg up (T, nt)) ∧ g3 nk fa up nt tb9 te9 tk tt (sR nk nc fo th tg up (T, nt)).1) (fun u t => match u with | (re9, ro9, rc9, fu9, bl9, tb9, te9) => zWo (dC, dI) [(cI, .int), (cZ, .boolean), (cJ, .long)] (w3 a cI cZ nk pa fa nc fo th tg nt tb9 te9 tk tt nu ub ue uk ut re9 ro9 fu9 bl9 go ra rc9 ex tc es wy) A t) A) args s 0 0 A = Q
  refine W.eq (g2 := entryFrame m ([.ref (a 0)] : List Value).toArray 3) (by rw [hav]) ?_
  have hl := lv_entry ([.ref (a 0)]) (n := 3) (Nat.le_of_ble_eq_true rfl)
  rw [lg_entry_eq]
  generalize (lg_sl ([.ref (a 0)]) ++ List.replicate (3 - (lg_sl ([.ref (a 0)])).length) Slot.unset).toArray = ls at hl ⊢
  have hl : lv_has ls 3 [(0, .ref (a 0))] := hl
  obtain ⟨H, hH⟩ : ∃ H, H = s.heap := ⟨_, rfl⟩
  obtain ⟨locs, hlo⟩ : ∃ q : List Loc, q = [] := ⟨_, rfl⟩
  have hP : va_P (dC, dI) vwCl (w3 a cI cZ nk pa fa nc fo th tg nt tb te tk tt nu ub ue uk ut re ro fu bl go ra rc ex tc es wy) H := by rw [hH]; exact hP
  have hS : va_S A s.heap H locs := by rw [hH, hlo]; exact hS
  refine zz_hl hH hlo ?_
  obtain ⟨hk01, hk8, hnt, hT, hO, hF, hU⟩ := id hg
  obtain ⟨hnc, hC⟩ := id hc
  refine lv_aload_n hx hb dX3_shrink_0 rfl (lv_at hl 0 rfl) ?_
  have hDc := hD
  have hFc := va_free (wc := w3 a cI cZ nk pa fa nc fo th tg nt tb te tk tt nu ub ue uk ut re ro fu bl go ra rc ex tc es wy) hD hS hA [0, 1, 2, 3, 4, 5, 6, 7, 8, 9, 10, 11, 12, 13, 14, 15, 16, 17, 18, 19, 20, 21, 22, 23] rfl
  refine va_callv (va_runV (As := []) (rest := []) ⟨hx, hb, hml, hown, hts⟩ (c_X3_findUses l dC dI cI cZ cJ a nk pa fa nc fo th tg nt tb te tk tt nu ub ue uk ut re ro fu bl go ra rc ex tc es wy T up H.size (by first | assumption | omega) (by first | assumption | omega)) (cwV 0 hts gX3_shrink_X3_findUses rfl rfl rfl (by decide +kernel) ⟨Nat.le_of_ble_eq_true rfl, Nat.le_of_ble_eq_true rfl⟩) ⟨zWr_blind, va_recv hK hP (ci := 3) (q0 := 0) rfl rfl, zWr_at hP hK hn (hDc.weaken (fun _ _ _ _ => trivial))⟩ rfl rfl hl.1 rfl (lv_room (Nat.le_of_ble_eq_true rfl)) dX3_shrink_1 ⟨Nat.le_of_ble_eq_true rfl, Nat.le_of_ble_eq_true rfl⟩) hS (fun q _ h => hFc q h) hFc (fun u_9 t H1 locs ht hvm hw hB hz1 hk1 hS => ?_)
  obtain ⟨re_n, ro_n, rc_n, fu_n, bl_n⟩ := u_9
  dsimp only at hw hB
  obtain ⟨hP1, -, hD1⟩ := hB
  rw [ht] at hP1
  obtain ⟨hP, hD⟩ := va_join (wr := []) (w1 := w3 a cI cZ nk pa fa nc fo th tg nt tb te tk tt nu ub ue uk ut re_n ro_n fu_n bl_n go ra rc_n ex tc es wy) hP hD [0, 1, 2, 3, 4, 5, 6, 7, 8, 9, 10, 11, 12, 13, 14, 15, 16, 17, 18, 19, 20, 21, 22, 23] [] rfl rfl (by decide) (by decide) hk1 hFc hP1 hD1
  generalize H1 = H at hP hS ⊢
  have hP : va_P (dC, dI) vwCl (w3 a cI cZ nk pa fa nc fo th tg nt tb te tk tt nu ub ue uk ut re_n ro_n fu_n bl_n go ra rc_n ex tc es wy) H := hP
  have hD : va_D A (w3 a cI cZ nk pa fa nc fo th tg nt tb te tk tt nu ub ue uk ut re_n ro_n fu_n bl_n go ra rc_n ex tc es wy) := hD
  obtain ⟨hre, huf⟩ := hw
  refine lv_iconst (v := 0) hx hb dX3_shrink_4 (by decide) ?_
  refine lv_istore_n (lv' := [(1, .int 0), (0, .ref (a 0))]) hx hb dX3_shrink_5 rfl hl (by decide) rfl (fun ls hl => ?_)
  refine lv_iconst (v := 0) hx hb dX3_shrink_6 (by decide) ?_
  refine lv_istore_n (lv' := [(2, .int 0), (1, .int 0), (0, .ref (a 0))]) hx hb dX3_shrink_7 rfl hl (by decide) rfl (fun ls hl => ?_)
  have J_8 : ∀ (n9 : Nat) (y : Nat) (g : Nat) (gb : Nat → Int32) (ge : Nat → Int32) (H : Heap) (locs : List Loc) (ls : Array Slot), (y ≤ nt) → (rT nt gb ge tk tt (shY (US nk nc fo th tg T nt up) nc T y)) → (g = it (shN (US nk nc fo th tg T nt up) nc T) y 0) → nt - y < n9 → va_P (dC, dI) vwCl (w3 a cI cZ nk pa fa nc fo th tg nt gb ge tk tt nu ub ue uk ut re_n ro_n fu_n bl_n go ra rc_n ex tc es wy) H → va_D A (w3 a cI cZ nk pa fa nc fo th tg nt gb ge tk tt nu ub ue uk ut re_n ro_n fu_n bl_n go ra rc_n ex tc es wy) → va_S A s.heap H locs → lv_has ls 3 [(0, .ref (a 0)), (1, .int (nI g)), (2, .int (nI y))] → W p l e (headSpec wsX3_shrink ({ frames := 5, cells := 0, slots := 0, locals := 115 } : Room)).room s m args below meth c H locs 0 0 Q (F0 m 8 ls []) := by
    intro n9
    induction n9 with
    | zero => intro y g gb ge H locs ls hy hrt hs hmu; exact absurd hmu (Nat.not_lt_zero _)
    | succ n9 ih_8 =>
      intro y g gb ge H locs ls hy hrt hs hmu hP hD hS hl
      refine lv_iload_n hx hb dX3_shrink_8 rfl (lv_at hl 2 rfl) ?_
      refine lv_aload_n hx hb dX3_shrink_9 rfl (lv_at hl 0 rfl) ?_
      refine va_get (D := (dC, dI)) (ci := 3) (v := .ref (a 8)) (C := RX3) (T := TX3) (N := 15) hx hb hts (by decide +kernel) hown hK hP 0 rfl rfl 2 (by decide) (hts (.fieldLink RX3 26 "HandlerOptimizer" "table" "LHandlerOptimizer$Table;") (by decide +kernel)) (fun _ h9 => h9) rfl dX3_shrink_10 ?_
      refine va_getN (D := (dC, dI)) (ci := 2) (v := .int (nI nt)) (C := RX2) (T := TX2) (N := 5) hx hb hts (by decide +kernel) hown hK hP 8 rfl rfl 4 (by decide) (va_Nw.use rfl (hn (.fieldLinkNest RX3 134 "HandlerOptimizer$Table" "count" "I" "HandlerOptimizer") (by decide +kernel))) (fun _ h9 => h9) rfl dX3_shrink_13 ?_
      refine lv_icmp_ge (tgt := 74) hx hb dX3_shrink_16 (by decide) (fun c_7 => ?_) (fun c_7 => ?_)
      · skip
        have c_7 := (zz_get (a := y) (b := nt) (by omega) (by omega)).mp c_7
        refine lv_iload_n hx hb dX3_shrink_74 rfl (lv_at hl 1 rfl) ?_
        rw [← hQ]
        have hP9 := hP
        have hD9 := hD
        exact W.iret (v := nI g) hx hb hr (fun t ht hW => ⟨⟨nI g, (re_n, ro_n, rc_n, fu_n, bl_n, gb, ge), rfl, (⟨by rw [hs, show y = nt from by omega]; rfl, ⟨hk01, hk8, hnt, rT_shY hrt (by omega), okT_sh hO hnc, hF, hU⟩⟩), (by rw [ht]; exact hP9), va_K.moved hW.alike hK, hD9⟩, hS.F ht⟩) hS.2.2 dX3_shrink_75
      · skip
        have c_7 := (zz_gef (a := y) (b := nt) (by omega) (by omega)).mp c_7
        have hry := hrt y (by omega)
        simp only [shY, show ¬ y < y by omega, if_false] at hry
        obtain ⟨o1, o2, o3, o4⟩ := hO y (by omega)
        obtain ⟨f1, f2⟩ := huf y (by omega)
        have q1 := ff_le ((US nk nc fo th tg T nt up) y) nc
        have q2 := lb_le (p := (US nk nc fo th tg T nt up) y) (n := nc)
        refine lv_aload_n hx hb dX3_shrink_19 rfl (lv_at hl 0 rfl) ?_
        refine lv_iload_n hx hb dX3_shrink_20 rfl (lv_at hl 2 rfl) ?_
        refine va_calli (va_runV (As := [.int (nI y)]) (rest := []) ⟨hx, hb, hml, hown, hts⟩ (c_X3_hasUse l dC dI cI cZ cJ a nk pa fa nc fo th tg nt gb ge tk tt nu ub ue uk ut re_n ro_n fu_n bl_n go ra rc_n ex tc es wy y (by omega)) (cwV 1 hts gX3_shrink_X3_hasUse rfl rfl rfl (by decide +kernel) ⟨Nat.le_of_ble_eq_true rfl, Nat.le_of_ble_eq_true rfl⟩) ⟨zPre_blind, va_recv hK hP (ci := 3) (q0 := 0) rfl rfl, zPre_at hP hK hn⟩ rfl rfl hl.1 rfl (lv_room (Nat.le_of_ble_eq_true rfl)) dX3_shrink_21 ⟨Nat.le_of_ble_eq_true rfl, Nat.le_of_ble_eq_true rfl⟩) hS (fun _ _ h => h.elim) (fun _ h => h.elim) (fun r_8 u_9 t H locs ht hvm hw hB hz1 hk1 hS => ?_)
        have hP := zkeep hP hk1
        subst hw
        refine lv_if_eq (tgt := 68) hx hb dX3_shrink_24 (by decide) (fun c_9 => ?_) (fun c_9 => ?_)
        · skip
          have c9 := (uF_has huf (e := y) (by omega) hnc).symm.trans (zb_0.mp c_9)
          have hr8 := rT_shk hrt (shT_un c9)
          have hc8 : shC (US nk nc fo th tg T nt up) nc T y = false := by simp [shC, c9]
          refine lv_iinc (v := nI (y + 1)) (lv' := [(2, .int (nI (y + 1))), (0, .ref (a 0)), (1, .int (nI g))]) hx hb dX3_shrink_68 hl (k := 2) rfl (zz_inc y 1) (by decide) rfl (fun ls hl => ?_)
          refine lv_goto (tgt := 8) hx hb dX3_shrink_71 (by decide) ?_
          exact ih_8 (y + 1) g gb ge _ _ _ (by first | assumption | omega) hr8 (by rw [hs]; simp only [it, shN]; rw [hc8]; rfl) (by omega) hP hD hS (lv_sub hl [1, 2, 0] rfl)
        · skip
          have c9 := (uF_has huf (e := y) (by omega) hnc).symm.trans (zb_1.mp c_9)
          refine lv_aload_n hx hb dX3_shrink_27 rfl (lv_at hl 0 rfl) ?_
          refine lv_iload_n hx hb dX3_shrink_28 rfl (lv_at hl 2 rfl) ?_
          refine va_calli (va_runV (As := [.int (nI y)]) (rest := []) ⟨hx, hb, hml, hown, hts⟩ (c_X3_isTight l dC dI cI cZ cJ a nk pa fa nc fo th tg nt gb ge tk tt nu ub ue uk ut re_n ro_n fu_n bl_n go ra rc_n ex tc es wy y (by omega)) (cwV 1 hts gX3_shrink_X3_isTight rfl rfl rfl (by decide +kernel) ⟨Nat.le_of_ble_eq_true rfl, Nat.le_of_ble_eq_true rfl⟩) ⟨zPre_blind, va_recv hK hP (ci := 3) (q0 := 0) rfl rfl, zPre_at hP hK hn⟩ rfl rfl hl.1 rfl (lv_room (Nat.le_of_ble_eq_true rfl)) dX3_shrink_29 ⟨Nat.le_of_ble_eq_true rfl, Nat.le_of_ble_eq_true rfl⟩) hS (fun _ _ h => h.elim) (fun _ h => h.elim) (fun r_10 u_9 t H locs ht hvm hw hB hz1 hk1 hS => ?_)
          have hP := zkeep hP hk1
          subst hw
          refine lv_if_ne (tgt := 68) hx hb dX3_shrink_32 (by decide) (fun c_11 => ?_) (fun c_11 => ?_)
          · skip
            have c8 := zb_1.mp c_11
            rw [hry.1, hry.2.1, f1, f2 c9, Bool.and_eq_true, decide_eq_true_eq, decide_eq_true_eq, nI_eq (by omega) (by omega), nI_eq (by omega) (by omega)] at c8
            have hr8 := rT_shk hrt (shT_ti c8.1 c8.2)
            have hc8 : shC (US nk nc fo th tg T nt up) nc T y = false := by simp [shC, c8.1, c8.2]
            refine lv_iinc (v := nI (y + 1)) (lv' := [(2, .int (nI (y + 1))), (0, .ref (a 0)), (1, .int (nI g))]) hx hb dX3_shrink_68 hl (k := 2) rfl (zz_inc y 1) (by decide) rfl (fun ls hl => ?_)
            refine lv_goto (tgt := 8) hx hb dX3_shrink_71 (by decide) ?_
            exact ih_8 (y + 1) g gb ge _ _ _ (by first | assumption | omega) hr8 (by rw [hs]; simp only [it, shN]; rw [hc8]; rfl) (by omega) hP hD hS (lv_sub hl [1, 2, 0] rfl)
          · skip
            have c8 := zb_0.mp c_11
            rw [hry.1, hry.2.1, f1, f2 c9] at c8
            have hc8 : shC (US nk nc fo th tg T nt up) nc T y = true := by
              rw [show decide (nI (T 0 y) = nI (ff ((US nk nc fo th tg T nt up) y) nc)) = decide (T 0 y = ff ((US nk nc fo th tg T nt up) y) nc) from decide_eq_decide.mpr (nI_eq (by omega) (by omega)), show decide (nI (T 1 y) = nI (lb ((US nk nc fo th tg T nt up) y) nc)) = decide (T 1 y = lb ((US nk nc fo th tg T nt up) y) nc) from decide_eq_decide.mpr (nI_eq (by omega) (by omega))] at c8
              simp only [shC, c9, c8]; rfl
            refine lv_aload_n hx hb dX3_shrink_35 rfl (lv_at hl 0 rfl) ?_
            refine va_get (D := (dC, dI)) (ci := 3) (v := .ref (a 8)) (C := RX3) (T := TX3) (N := 15) hx hb hts (by decide +kernel) hown hK hP 0 rfl rfl 2 (by decide) (hts (.fieldLink RX3 26 "HandlerOptimizer" "table" "LHandlerOptimizer$Table;") (by decide +kernel)) (fun _ h9 => h9) rfl dX3_shrink_36 ?_
            refine va_getN (D := (dC, dI)) (ci := 2) (v := .ref (a 9)) (C := RX2) (T := TX2) (N := 5) hx hb hts (by decide +kernel) hown hK hP 8 rfl rfl 0 (by decide) (va_Nw.use rfl (hn (.fieldLinkNest RX3 135 "HandlerOptimizer$Table" "begins" "[I" "HandlerOptimizer") (by decide +kernel))) (fun _ h9 => h9) rfl dX3_shrink_39 ?_
            refine lv_iload_n hx hb dX3_shrink_42 rfl (lv_at hl 2 rfl) ?_
            refine lv_aload_n hx hb dX3_shrink_43 rfl (lv_at hl 0 rfl) ?_
            refine va_get (D := (dC, dI)) (ci := 3) (v := .ref (a 20)) (C := RX3) (T := TX3) (N := 15) hx hb hts (by decide +kernel) hown hK hP 0 rfl rfl 7 (by decide) (hts (.fieldLink RX3 41 "HandlerOptimizer" "firstUse" "[I") (by decide +kernel)) (fun _ h9 => h9) rfl dX3_shrink_44 ?_
            refine lv_iload_n hx hb dX3_shrink_47 rfl (lv_at hl 2 rfl) ?_
            refine va_iald hx hb hK hP 20 0 rfl rfl (vp_in_nI (n := y) (by omega) (by decide)) dX3_shrink_48 ?_
            refine zz_top (y := fu_n y) (congrArg _ (nI_clamp (by omega))) ?_
            refine va_iast hx hb hK hP hD hS 9 0 rfl rfl (vp_in_nI (n := y) (by omega) (by decide)) dX3_shrink_49 (fun H locs hP hD hS => ?_)
            rw [nI_clamp (n := y) (by omega)] at hP hD
            have hP : va_P (dC, dI) vwCl (w3 a cI cZ nk pa fa nc fo th tg nt (upd gb y (fu_n y)) ge tk tt nu ub ue uk ut re_n ro_n fu_n bl_n go ra rc_n ex tc es wy) H := hP
            have hD : va_D A (w3 a cI cZ nk pa fa nc fo th tg nt (upd gb y (fu_n y)) ge tk tt nu ub ue uk ut re_n ro_n fu_n bl_n go ra rc_n ex tc es wy) := hD
            refine lv_aload_n hx hb dX3_shrink_50 rfl (lv_at hl 0 rfl) ?_
            refine va_get (D := (dC, dI)) (ci := 3) (v := .ref (a 8)) (C := RX3) (T := TX3) (N := 15) hx hb hts (by decide +kernel) hown hK hP 0 rfl rfl 2 (by decide) (hts (.fieldLink RX3 26 "HandlerOptimizer" "table" "LHandlerOptimizer$Table;") (by decide +kernel)) (fun _ h9 => h9) rfl dX3_shrink_51 ?_
            refine va_getN (D := (dC, dI)) (ci := 2) (v := .ref (a 10)) (C := RX2) (T := TX2) (N := 5) hx hb hts (by decide +kernel) hown hK hP 8 rfl rfl 1 (by decide) (va_Nw.use rfl (hn (.fieldLinkNest RX3 138 "HandlerOptimizer$Table" "ends" "[I" "HandlerOptimizer") (by decide +kernel))) (fun _ h9 => h9) rfl dX3_shrink_54 ?_
            refine lv_iload_n hx hb dX3_shrink_57 rfl (lv_at hl 2 rfl) ?_
            refine lv_aload_n hx hb dX3_shrink_58 rfl (lv_at hl 0 rfl) ?_
            refine va_get (D := (dC, dI)) (ci := 3) (v := .ref (a 21)) (C := RX3) (T := TX3) (N := 15) hx hb hts (by decide +kernel) hown hK hP 0 rfl rfl 8 (by decide) (hts (.fieldLink RX3 44 "HandlerOptimizer" "behindLastUse" "[I") (by decide +kernel)) (fun _ h9 => h9) rfl dX3_shrink_59 ?_
            refine lv_iload_n hx hb dX3_shrink_62 rfl (lv_at hl 2 rfl) ?_
            refine va_iald hx hb hK hP 21 0 rfl rfl (vp_in_nI (n := y) (by omega) (by decide)) dX3_shrink_63 ?_
            refine zz_top (y := bl_n y) (congrArg _ (nI_clamp (by omega))) ?_
            refine va_iast hx hb hK hP hD hS 10 0 rfl rfl (vp_in_nI (n := y) (by omega) (by decide)) dX3_shrink_64 (fun H locs hP hD hS => ?_)
            rw [nI_clamp (n := y) (by omega)] at hP hD
            have hP : va_P (dC, dI) vwCl (w3 a cI cZ nk pa fa nc fo th tg nt (upd gb y (fu_n y)) (upd ge y (bl_n y)) tk tt nu ub ue uk ut re_n ro_n fu_n bl_n go ra rc_n ex tc es wy) H := hP
            have hD : va_D A (w3 a cI cZ nk pa fa nc fo th tg nt (upd gb y (fu_n y)) (upd ge y (bl_n y)) tk tt nu ub ue uk ut re_n ro_n fu_n bl_n go ra rc_n ex tc es wy) := hD
            have hr8 := rT_shs hrt c9 (f2 c9) f1
            refine lv_iinc (v := nI (g + 1)) (lv' := [(1, .int (nI (g + 1))), (0, .ref (a 0)), (2, .int (nI y))]) hx hb dX3_shrink_65 hl (k := 1) rfl (zz_inc g 1) (by decide) rfl (fun ls hl => ?_)
            refine lv_iinc (v := nI (y + 1)) (lv' := [(2, .int (nI (y + 1))), (1, .int (nI (g + 1))), (0, .ref (a 0))]) hx hb dX3_shrink_68 hl (k := 2) rfl (zz_inc y 1) (by decide) rfl (fun ls hl => ?_)
            refine lv_goto (tgt := 8) hx hb dX3_shrink_71 (by decide) ?_
            exact ih_8 (y + 1) (g + 1) (upd gb y (fu_n y)) (upd ge y (bl_n y)) _ _ _ (by first | assumption | omega) hr8 (by rw [hs]; simp only [it, shN]; rw [hc8]; rfl) (by omega) hP hD hS (lv_sub hl [2, 1, 0] rfl)
  exact J_8 _ 0 0 tb te _ _ _ (by first | assumption | omega) (by rw [shY_0]; exact hT) rfl (Nat.lt_succ_self _) hP hD hS (lv_sub hl [2, 1, 0] rfl)

set_option maxHeartbeats 4000000 in
set_option maxRecDepth 100000 in
theorem c_X3_findGoals (l : Launch) (dC : Nat → ClassId) (dI : Nat → Nat → Nat) (cI cZ cJ : ClassId) (a : Nat → Nat) (nk : Nat) (pa : Nat → Int32) (fa : Nat → Int32) (nc : Nat) (fo : Nat → Int32) (th : Nat → Int32) (tg : Nat → Int32) (nt : Nat) (tb : Nat → Int32) (te : Nat → Int32) (tk : Nat → Int32) (tt : Nat → Int32) (nu : Nat) (ub : Nat → Int32) (ue : Nat → Int32) (uk : Nat → Int32) (ut : Nat → Int32) (re : Nat → Int32) (ro : Nat → Int32) (fu : Nat → Int32) (bl : Nat → Int32) (go : Nat → Int32) (ra : Nat → Int32) (rc : Nat) (ex : Int32) (tc : Int32) (es : Int32) (wy : Int64) (T : Nat → Nat → Nat) (up : Nat → Nat → Bool) (sz : Nat) (hg : g3 nk fa up nt tb te tk tt T) (hc : okC nk nc fo th tg) : Met l yX3_findGoals wsX3_findGoals ({ frames := 2, cells := 0, slots := 0, locals := 49 } : Room) (va_Pc [.ref (a 0)] (zWr (dC, dI) [(cI, .int), (cZ, .boolean), (cJ, .long)] (w3 a cI cZ nk pa fa nc fo th tg nt tb te tk tt nu ub ue uk ut re ro fu bl go ra rc ex tc es wy) sz)) (va_Qv (fun (go9 : Nat → Int32) => gO nc nk go9 (gl T nt up)) (fun go9 t => zWo (dC, dI) [(cI, .int), (cZ, .boolean), (cJ, .long)] (w3 a cI cZ nk pa fa nc fo th tg nt tb te tk tt nu ub ue uk ut re ro fu bl go9 ra rc ex tc es wy) (va_A (w3 a cI cZ nk pa fa nc fo th tg nt tb te tk tt nu ub ue uk ut re ro fu bl go ra rc ex tc es wy) sz) t) (va_A (w3 a cI cZ nk pa fa nc fo th tg nt tb te tk tt nu ub ue uk ut re ro fu bl go ra rc ex tc es wy) sz)) 0 0 (va_A (w3 a cI cZ nk pa fa nc fo th tg nt tb te tk tt nu ub ue uk ut re ro fu bl go ra rc ex tc es wy) sz) := by
  refine Met.ofW (cc := cX3_findGoals) (maxL := 3) (ret := none) (by decide) rfl ?_
  intro p e s m args below meth c s₁ B hml hv
  obtain ⟨hav, hsz, ⟨hP, hK, hn⟩, hD0⟩ := hv
  have hx := B.exec
  have hb := B.bytes
  have hr := B.returns
  have hts := atoms_spec (ws := wsX3_findGoals) B.pre
  have hown : s.vm.findClass RX3 = some m.cls := findClass_of_methodNamed B.named
  have hlocks := B.notSynchronized
  subst hsz
  have hD := hD0.self (sz := s.heap.size)
  generalize hAe : (va_A (w3 a cI cZ nk pa fa nc fo th tg nt tb te tk tt nu ub ue uk ut re ro fu bl go ra rc ex tc es wy) s.heap.size) = A at hD ⊢
  have hA : ∀ q : Nat, s.heap.size ≤ q → A q := fun q h => by rw [← hAe]; exact Or.inr h
  have hS : va_S A s.heap s.heap [] := va_S.rf
  generalize hQ : MQ below (va_Qv (fun (go9 : Nat → Int32) => gO nc nk go9 (gl T nt up)) (fun go9 t => zWo (dC, dI) [(cI, .int), (cZ, .boolean), (cJ, .long)] (w3 a cI cZ nk pa fa nc fo th tg nt tb te tk tt nu ub ue uk ut re ro fu bl go9 ra rc ex tc es wy) A t) A) args s 0 0 A = Q
  refine W.eq (g2 := entryFrame m ([.ref (a 0)] : List Value).toArray 3) (by rw [hav]) ?_
  have hl := lv_entry ([.ref (a 0)]) (n := 3) (Nat.le_of_ble_eq_true rfl)
  rw [lg_entry_eq]
  generalize (lg_sl ([.ref (a 0)]) ++ List.replicate (3 - (lg_sl ([.ref (a 0)])).length) Slot.unset).toArray = ls at hl ⊢
  have hl : lv_has ls 3 [(0, .ref (a 0))] := hl
  obtain ⟨H, hH⟩ : ∃ H, H = s.heap := ⟨_, rfl⟩
  obtain ⟨locs, hlo⟩ : ∃ q : List Loc, q = [] := ⟨_, rfl⟩
  have hP : va_P (dC, dI) vwCl (w3 a cI cZ nk pa fa nc fo th tg nt tb te tk tt nu ub ue uk ut re ro fu bl go ra rc ex tc es wy) H := by rw [hH]; exact hP
  have hS : va_S A s.heap H locs := by rw [hH, hlo]; exact hS
  refine zz_hl hH hlo ?_
  obtain ⟨hk01, hk8, hnt, hT, hO, hF, hU⟩ := id hg
  obtain ⟨hnc, hC⟩ := id hc
  refine lv_iconst (v := 0) hx hb dX3_findGoals_0 (by decide) ?_
  refine lv_istore_n (lv' := [(1, .int 0), (0, .ref (a 0))]) hx hb dX3_findGoals_1 rfl hl (by decide) rfl (fun ls hl => ?_)
  have J_2 : ∀ (n9 : Nat) (y : Nat) (gg : Nat → Int32) (H : Heap) (locs : List Loc) (ls : Array Slot), (y ≤ nc) → (gY y 0 nk gg (gl T nt up)) → nc - y < n9 → va_P (dC, dI) vwCl (w3 a cI cZ nk pa fa nc fo th tg nt tb te tk tt nu ub ue uk ut re ro fu bl gg ra rc ex tc es wy) H → va_D A (w3 a cI cZ nk pa fa nc fo th tg nt tb te tk tt nu ub ue uk ut re ro fu bl gg ra rc ex tc es wy) → va_S A s.heap H locs → lv_has ls 3 [(0, .ref (a 0)), (1, .int (nI y))] → W p l e (headSpec wsX3_findGoals ({ frames := 2, cells := 0, slots := 0, locals := 49 } : Room)).room s m args below meth c H locs 0 0 Q (F0 m 2 ls []) := by
    intro n9
    induction n9 with
    | zero => intro y gg H locs ls hy hq hmu; exact absurd hmu (Nat.not_lt_zero _)
    | succ n9 ih_2 =>
      intro y gg H locs ls hy hq hmu hP hD hS hl
      refine lv_iload_n hx hb dX3_findGoals_2 rfl (lv_at hl 1 rfl) ?_
      refine lv_aload_n hx hb dX3_findGoals_3 rfl (lv_at hl 0 rfl) ?_
      refine va_get (D := (dC, dI)) (ci := 3) (v := .ref (a 4)) (C := RX3) (T := TX3) (N := 15) hx hb hts (by decide +kernel) hown hK hP 0 rfl rfl 1 (by decide) (hts (.fieldLink RX3 19 "HandlerOptimizer" "code" "LHandlerOptimizer$Code;") (by decide +kernel)) (fun _ h9 => h9) rfl dX3_findGoals_4 ?_
      refine va_getN (D := (dC, dI)) (ci := 0) (v := .int (nI nc)) (C := RX0) (T := TX0) (N := 4) hx hb hts (by decide +kernel) hown hK hP 4 rfl rfl 3 (by decide) (va_Nw.use rfl (hn (.fieldLinkNest RX3 99 "HandlerOptimizer$Code" "count" "I" "HandlerOptimizer") (by decide +kernel))) (fun _ h9 => h9) rfl dX3_findGoals_7 ?_
      refine lv_icmp_ge (tgt := 62) hx hb dX3_findGoals_10 (by decide) (fun c_1 => ?_) (fun c_1 => ?_)
      · skip
        have c_1 := (zz_get (a := y) (b := nc) (by omega) (by omega)).mp c_1
        rw [← hQ]
        have hP9 := hP
        have hD9 := hD
        exact W.vret hx hb hr (fun t ht hW => ⟨⟨gg, rfl, (fun i hi k hk => hq i k hk (Or.inl (by omega))), (by rw [ht]; exact hP9), va_K.moved hW.alike hK, hD9⟩, hS.F ht⟩) hS.2.2 dX3_findGoals_62
      · skip
        have c_1 := (zz_gef (a := y) (b := nc) (by omega) (by omega)).mp c_1
        refine lv_iconst (v := 0) hx hb dX3_findGoals_13 (by decide) ?_
        refine lv_istore_n (lv' := [(2, .int 0), (0, .ref (a 0)), (1, .int (nI y))]) hx hb dX3_findGoals_14 rfl hl (by decide) rfl (fun ls hl => ?_)
        have J_15 : ∀ (n9 : Nat) (z : Nat) (gg2 : Nat → Int32) (H : Heap) (locs : List Loc) (ls : Array Slot), (z ≤ nk) → (gY y z nk gg2 (gl T nt up)) → nk - z < n9 → va_P (dC, dI) vwCl (w3 a cI cZ nk pa fa nc fo th tg nt tb te tk tt nu ub ue uk ut re ro fu bl gg2 ra rc ex tc es wy) H → va_D A (w3 a cI cZ nk pa fa nc fo th tg nt tb te tk tt nu ub ue uk ut re ro fu bl gg2 ra rc ex tc es wy) → va_S A s.heap H locs → lv_has ls 3 [(0, .ref (a 0)), (1, .int (nI y)), (2, .int (nI z))] → W p l e (headSpec wsX3_findGoals ({ frames := 2, cells := 0, slots := 0, locals := 49 } : Room)).room s m args below meth c H locs 0 0 Q (F0 m 15 ls []) := by
          intro n9
          induction n9 with
          | zero => intro z gg2 H locs ls hz hq2 hmu; exact absurd hmu (Nat.not_lt_zero _)
          | succ n9 ih_15 =>
            intro z gg2 H locs ls hz hq2 hmu hP hD hS hl
            refine lv_iload_n hx hb dX3_findGoals_15 rfl (lv_at hl 2 rfl) ?_
            refine lv_aload_n hx hb dX3_findGoals_16 rfl (lv_at hl 0 rfl) ?_
            refine va_get (D := (dC, dI)) (ci := 3) (v := .ref (a 1)) (C := RX3) (T := TX3) (N := 15) hx hb hts (by decide +kernel) hown hK hP 0 rfl rfl 0 (by decide) (hts (.fieldLink RX3 12 "HandlerOptimizer" "kinds" "LHandlerOptimizer$Kinds;") (by decide +kernel)) (fun _ h9 => h9) rfl dX3_findGoals_17 ?_
            refine va_getN (D := (dC, dI)) (ci := 1) (v := .int (nI nk)) (C := RX1) (T := TX1) (N := 3) hx hb hts (by decide +kernel) hown hK hP 1 rfl rfl 2 (by decide) (va_Nw.use rfl (hn (.fieldLinkNest RX3 76 "HandlerOptimizer$Kinds" "count" "I" "HandlerOptimizer") (by decide +kernel))) (fun _ h9 => h9) rfl dX3_findGoals_20 ?_
            refine lv_icmp_ge (tgt := 56) hx hb dX3_findGoals_23 (by decide) (fun c_2 => ?_) (fun c_2 => ?_)
            · skip
              have c_2 := (zz_get (a := z) (b := nk) (by omega) (by omega)).mp c_2
              refine lv_iinc (v := nI (y + 1)) (lv' := [(1, .int (nI (y + 1))), (0, .ref (a 0)), (2, .int (nI z))]) hx hb dX3_findGoals_56 hl (k := 1) rfl (zz_inc y 1) (by decide) rfl (fun ls hl => ?_)
              refine lv_goto (tgt := 2) hx hb dX3_findGoals_59 (by decide) ?_
              exact ih_2 (y + 1) gg2 _ _ _ (by first | assumption | omega) (gY_n hq2 (by omega)) (by omega) hP hD hS (lv_sub hl [1, 0] rfl)
            · skip
              have c_2 := (zz_gef (a := z) (b := nk) (by omega) (by omega)).mp c_2
              refine lv_aload_n hx hb dX3_findGoals_26 rfl (lv_at hl 0 rfl) ?_
              refine va_get (D := (dC, dI)) (ci := 3) (v := .ref (a 22)) (C := RX3) (T := TX3) (N := 15) hx hb hts (by decide +kernel) hown hK hP 0 rfl rfl 9 (by decide) (hts (.fieldLink RX3 47 "HandlerOptimizer" "goals" "[I") (by decide +kernel)) (fun _ h9 => h9) rfl dX3_findGoals_27 ?_
              refine lv_iload_n hx hb dX3_findGoals_30 rfl (lv_at hl 1 rfl) ?_
              refine lv_bipush (v := 8) hx hb dX3_findGoals_31 (by decide) ?_
              refine lv_imul hx hb dX3_findGoals_33 ?_
              refine zz_top (y := nI (y * 8)) (zz_mul _ _) ?_
              refine lv_iload_n hx hb dX3_findGoals_34 rfl (lv_at hl 2 rfl) ?_
              refine lv_iadd hx hb dX3_findGoals_35 ?_
              refine zz_top (y := nI ((y * 8) + z)) (nI_add _ _) ?_
              refine lv_aload_n hx hb dX3_findGoals_36 rfl (lv_at hl 0 rfl) ?_
              refine va_get (D := (dC, dI)) (ci := 3) (v := .ref (a 8)) (C := RX3) (T := TX3) (N := 15) hx hb hts (by decide +kernel) hown hK hP 0 rfl rfl 2 (by decide) (hts (.fieldLink RX3 26 "HandlerOptimizer" "table" "LHandlerOptimizer$Table;") (by decide +kernel)) (fun _ h9 => h9) rfl dX3_findGoals_37 ?_
              refine lv_aload_n hx hb dX3_findGoals_40 rfl (lv_at hl 0 rfl) ?_
              refine va_get (D := (dC, dI)) (ci := 3) (v := .ref (a 1)) (C := RX3) (T := TX3) (N := 15) hx hb hts (by decide +kernel) hown hK hP 0 rfl rfl 0 (by decide) (hts (.fieldLink RX3 12 "HandlerOptimizer" "kinds" "LHandlerOptimizer$Kinds;") (by decide +kernel)) (fun _ h9 => h9) rfl dX3_findGoals_41 ?_
              refine lv_iload_n hx hb dX3_findGoals_44 rfl (lv_at hl 1 rfl) ?_
              refine lv_iload_n hx hb dX3_findGoals_45 rfl (lv_at hl 2 rfl) ?_
              have hPc := hP.sub (ws' := wT (a 8) (a 9) (a 10) (a 11) (a 12) cI nt tb te tk tt ++ wK (a 1) (a 2) (a 3) cI nk pa fa) [8, 9, 10, 11, 12, 1, 2, 3] rfl
              refine va_calli (va_runVN (As := [.ref (a 1), .int (nI y), .int (nI z)]) (rest := [.int (nI ((y * 8) + z)), .ref (a 22)]) ⟨hx, hb, hml, hown, hts⟩ (c_X2_goal l dC dI cI cZ cJ (a 8) (a 9) (a 10) (a 11) (a 12) nt tb te tk tt (a 1) (a 2) (a 3) nk pa fa y z T up (by omega) (by first | assumption | omega) (by first | assumption | omega) (by first | assumption | omega) (by first | assumption | omega) (by first | assumption | omega) (by first | assumption | omega)) ⟨va_cnB 3 hts gX3_findGoals_X2_goal_n259 rfl rfl rfl (hn (.methodLinkNest RX3 259 yX2_goal "HandlerOptimizer") (by decide +kernel)) (hts (.initialized RX2) (by decide +kernel)) (by decide +kernel) ⟨Nat.le_of_ble_eq_true rfl, Nat.le_of_ble_eq_true rfl⟩, hts (.instanceMethod yX2_goal) (by decide +kernel), hts (.selects RX2 yX2_goal yX2_goal) (by decide +kernel)⟩ ⟨zPre_blind, va_recv hK hPc (ci := 2) (q0 := 0) rfl rfl, zPre_at hPc hK hn⟩ rfl rfl hl.1 rfl (lv_room (Nat.le_of_ble_eq_true rfl)) dX3_findGoals_46 ⟨Nat.le_of_ble_eq_true rfl, Nat.le_of_ble_eq_true rfl⟩) hS (fun _ _ h => h.elim) (fun _ h => h.elim) (fun r_3 u_9 t H locs ht hvm hw hB hz1 hk1 hS => ?_)
              have hP := zkeep hP hk1
              subst hw
              refine va_iast hx hb hK hP hD hS 22 0 rfl rfl (vp_in_nI (n := (y * 8) + z) (by omega) (by decide)) dX3_findGoals_49 (fun H locs hP hD hS => ?_)
              rw [nI_clamp (n := (y * 8) + z) (by omega)] at hP hD
              have hP : va_P (dC, dI) vwCl (w3 a cI cZ nk pa fa nc fo th tg nt tb te tk tt nu ub ue uk ut re ro fu bl (upd gg2 ((y * 8) + z) (gl T nt up y z)) ra rc ex tc es wy) H := hP
              have hD : va_D A (w3 a cI cZ nk pa fa nc fo th tg nt tb te tk tt nu ub ue uk ut re ro fu bl (upd gg2 ((y * 8) + z) (gl T nt up y z)) ra rc ex tc es wy) := hD
              refine lv_iinc (v := nI (z + 1)) (lv' := [(2, .int (nI (z + 1))), (0, .ref (a 0)), (1, .int (nI y))]) hx hb dX3_findGoals_50 hl (k := 2) rfl (zz_inc z 1) (by decide) rfl (fun ls hl => ?_)
              refine lv_goto (tgt := 15) hx hb dX3_findGoals_53 (by decide) ?_
              exact ih_15 (z + 1) (upd gg2 ((y * 8) + z) (gl T nt up y z)) _ _ _ (by first | assumption | omega) (gY_s hq2 hk8 (by omega)) (by omega) hP hD hS (lv_sub hl [1, 2, 0] rfl)
        exact J_15 _ 0 gg _ _ _ (by first | assumption | omega) hq (Nat.lt_succ_self _) hP hD hS (lv_sub hl [1, 2, 0] rfl)
  exact J_2 _ 0 go _ _ _ (by first | assumption | omega) (fun i k _ h => by omega) (Nat.lt_succ_self _) hP hD hS (lv_sub hl [1, 0] rfl)

set_option maxHeartbeats 4000000 in
set_option maxRecDepth 100000 in
theorem c_X3_trialKeepsGoals (l : Launch) (dC : Nat → ClassId) (dI : Nat → Nat → Nat) (cI cZ cJ : ClassId) (a : Nat → Nat) (nk : Nat) (pa : Nat → Int32) (fa : Nat → Int32) (nc : Nat) (fo : Nat → Int32) (th : Nat → Int32) (tg : Nat → Int32) (nt : Nat) (tb : Nat → Int32) (te : Nat → Int32) (tk : Nat → Int32) (tt : Nat → Int32) (nu : Nat) (ub : Nat → Int32) (ue : Nat → Int32) (uk : Nat → Int32) (ut : Nat → Int32) (re : Nat → Int32) (ro : Nat → Int32) (fu : Nat → Int32) (bl : Nat → Int32) (go : Nat → Int32) (ra : Nat → Int32) (rc : Nat) (ex : Int32) (tc : Int32) (es : Int32) (wy : Int64) (up : Nat → Nat → Bool) (U : Nat → Nat → Nat) (G : Nat → Nat → Int32) (v : Nat → Bool) (hk8 : nk ≤ 8) (hnc : nc ≤ 48) (hnu : nu ≤ 24) (hT2 : rT nu ub ue uk ut U) (hO2 : okT nk nu U) (hF : rF nk fa up) (hre : ∀ j, j < 48 → re j = bI (v j)) (hgo : gO nc nk go G) : Met l yX3_trialKeepsGoals wsX3_trialKeepsGoals ({ frames := 2, cells := 0, slots := 0, locals := 49 } : Room) (va_Pc [.ref (a 0)] (zPre (dC, dI) [(cI, .int), (cZ, .boolean), (cJ, .long)] (w3 a cI cZ nk pa fa nc fo th tg nt tb te tk tt nu ub ue uk ut re ro fu bl go ra rc ex tc es wy))) (va_Qi (fun (r : Int32) (_ : Unit) => r = bI (kpA v th nk nc (gl U nu up) G)) (fun _ _ => True) (fun _ => False)) 0 0 (fun _ => False) := by
  refine Met.ofW (cc := cX3_trialKeepsGoals) (maxL := 3) (ret := (some .boolean)) (by decide) rfl ?_
  intro p e s m args below meth c s₁ B hml hv
  obtain ⟨hav, hP, hK, hn⟩ := hv
  have hx := B.exec
  have hb := B.bytes
  have hr := B.returns
  have hts := atoms_spec (ws := wsX3_trialKeepsGoals) B.pre
  have hown : s.vm.findClass RX3 = some m.cls := findClass_of_methodNamed B.named
  have hlocks := B.notSynchronized
  have hS : va_S (fun _ => False) s.heap s.heap [] := va_S.rf
  generalize hQ : MQ below (va_Qi (fun (r : Int32) (_ : Unit) => r = bI (kpA v th nk nc (gl U nu up) G)) (fun _ _ => True) (fun _ => False)) args s 0 0 (fun _ => False) = Q
  refine W.eq (g2 := entryFrame m ([.ref (a 0)] : List Value).toArray 3) (by rw [hav]) ?_
  have hl := lv_entry ([.ref (a 0)]) (n := 3) (Nat.le_of_ble_eq_true rfl)
  rw [lg_entry_eq]
  generalize (lg_sl ([.ref (a 0)]) ++ List.replicate (3 - (lg_sl ([.ref (a 0)])).length) Slot.unset).toArray = ls at hl ⊢
  have hl : lv_has ls 3 [(0, .ref (a 0))] := hl
  obtain ⟨H, hH⟩ : ∃ H, H = s.heap := ⟨_, rfl⟩
  obtain ⟨locs, hlo⟩ : ∃ q : List Loc, q = [] := ⟨_, rfl⟩
  have hP : va_P (dC, dI) vwCl (w3 a cI cZ nk pa fa nc fo th tg nt tb te tk tt nu ub ue uk ut re ro fu bl go ra rc ex tc es wy) H := by rw [hH]; exact hP
  have hS : va_S (fun _ => False) s.heap H locs := by rw [hH, hlo]; exact hS
  refine zz_hl hH hlo ?_
  refine lv_iconst (v := 0) hx hb dX3_trialKeepsGoals_0 (by decide) ?_
  refine lv_istore_n (lv' := [(1, .int 0), (0, .ref (a 0))]) hx hb dX3_trialKeepsGoals_1 rfl hl (by decide) rfl (fun ls hl => ?_)
  have J_2 : ∀ (n9 : Nat) (y : Nat) (H : Heap) (locs : List Loc) (ls : Array Slot), (y ≤ nc) → (∀ i, i < y → kp v th nk (gl U nu up) G i = true) → nc - y < n9 → va_P (dC, dI) vwCl (w3 a cI cZ nk pa fa nc fo th tg nt tb te tk tt nu ub ue uk ut re ro fu bl go ra rc ex tc es wy) H → va_S (fun _ => False) s.heap H locs → lv_has ls 3 [(0, .ref (a 0)), (1, .int (nI y))] → W p l e (headSpec wsX3_trialKeepsGoals ({ frames := 2, cells := 0, slots := 0, locals := 49 } : Room)).room s m args below meth c H locs 0 0 Q (F0 m 2 ls []) := by
    intro n9
    induction n9 with
    | zero => intro y H locs ls hy ha hmu; exact absurd hmu (Nat.not_lt_zero _)
    | succ n9 ih_2 =>
      intro y H locs ls hy ha hmu hP hS hl
      refine lv_iload_n hx hb dX3_trialKeepsGoals_2 rfl (lv_at hl 1 rfl) ?_
      refine lv_aload_n hx hb dX3_trialKeepsGoals_3 rfl (lv_at hl 0 rfl) ?_
      refine va_get (D := (dC, dI)) (ci := 3) (v := .ref (a 4)) (C := RX3) (T := TX3) (N := 15) hx hb hts (by decide +kernel) hown hK hP 0 rfl rfl 1 (by decide) (hts (.fieldLink RX3 19 "HandlerOptimizer" "code" "LHandlerOptimizer$Code;") (by decide +kernel)) (fun _ h9 => h9) rfl dX3_trialKeepsGoals_4 ?_
      refine va_getN (D := (dC, dI)) (ci := 0) (v := .int (nI nc)) (C := RX0) (T := TX0) (N := 4) hx hb hts (by decide +kernel) hown hK hP 4 rfl rfl 3 (by decide) (va_Nw.use rfl (hn (.fieldLinkNest RX3 99 "HandlerOptimizer$Code" "count" "I" "HandlerOptimizer") (by decide +kernel))) (fun _ h9 => h9) rfl dX3_trialKeepsGoals_7 ?_
      refine lv_icmp_ge (tgt := 76) hx hb dX3_trialKeepsGoals_10 (by decide) (fun c_1 => ?_) (fun c_1 => ?_)
      · skip
        have c_1 := (zz_get (a := y) (b := nc) (by omega) (by omega)).mp c_1
        refine lv_iconst (v := 1) hx hb dX3_trialKeepsGoals_76 (by decide) ?_
        rw [← hQ]
        exact W.zret (v := 1) hx hb hr rfl (fun t ht hW => ⟨⟨1, (), rfl, (zb_t (al_iff.mpr (fun i hi => ha i (by omega)))), trivial⟩, hS.F ht⟩) hS.2.2 dX3_trialKeepsGoals_77
      · skip
        have c_1 := (zz_gef (a := y) (b := nc) (by omega) (by omega)).mp c_1
        refine lv_iconst (v := 0) hx hb dX3_trialKeepsGoals_13 (by decide) ?_
        refine lv_istore_n (lv' := [(2, .int 0), (0, .ref (a 0)), (1, .int (nI y))]) hx hb dX3_trialKeepsGoals_14 rfl hl (by decide) rfl (fun ls hl => ?_)
        have J_15 : ∀ (n9 : Nat) (z : Nat) (H : Heap) (locs : List Loc) (ls : Array Slot), (z ≤ nk) → (∀ k, k < z → (!(v y && bt (th y) k) || decide (gl U nu up y k = G y k)) = true) → nk - z < n9 → va_P (dC, dI) vwCl (w3 a cI cZ nk pa fa nc fo th tg nt tb te tk tt nu ub ue uk ut re ro fu bl go ra rc ex tc es wy) H → va_S (fun _ => False) s.heap H locs → lv_has ls 3 [(0, .ref (a 0)), (1, .int (nI y)), (2, .int (nI z))] → W p l e (headSpec wsX3_trialKeepsGoals ({ frames := 2, cells := 0, slots := 0, locals := 49 } : Room)).room s m args below meth c H locs 0 0 Q (F0 m 15 ls []) := by
          intro n9
          induction n9 with
          | zero => intro z H locs ls hz hb2 hmu; exact absurd hmu (Nat.not_lt_zero _)
          | succ n9 ih_15 =>
            intro z H locs ls hz hb2 hmu hP hS hl
            refine lv_iload_n hx hb dX3_trialKeepsGoals_15 rfl (lv_at hl 2 rfl) ?_
            refine lv_aload_n hx hb dX3_trialKeepsGoals_16 rfl (lv_at hl 0 rfl) ?_
            refine va_get (D := (dC, dI)) (ci := 3) (v := .ref (a 1)) (C := RX3) (T := TX3) (N := 15) hx hb hts (by decide +kernel) hown hK hP 0 rfl rfl 0 (by decide) (hts (.fieldLink RX3 12 "HandlerOptimizer" "kinds" "LHandlerOptimizer$Kinds;") (by decide +kernel)) (fun _ h9 => h9) rfl dX3_trialKeepsGoals_17 ?_
            refine va_getN (D := (dC, dI)) (ci := 1) (v := .int (nI nk)) (C := RX1) (T := TX1) (N := 3) hx hb hts (by decide +kernel) hown hK hP 1 rfl rfl 2 (by decide) (va_Nw.use rfl (hn (.fieldLinkNest RX3 76 "HandlerOptimizer$Kinds" "count" "I" "HandlerOptimizer") (by decide +kernel))) (fun _ h9 => h9) rfl dX3_trialKeepsGoals_20 ?_
            refine lv_icmp_ge (tgt := 70) hx hb dX3_trialKeepsGoals_23 (by decide) (fun c_2 => ?_) (fun c_2 => ?_)
            · skip
              have c_2 := (zz_get (a := z) (b := nk) (by omega) (by omega)).mp c_2
              refine lv_iinc (v := nI (y + 1)) (lv' := [(1, .int (nI (y + 1))), (0, .ref (a 0)), (2, .int (nI z))]) hx hb dX3_trialKeepsGoals_70 hl (k := 1) rfl (zz_inc y 1) (by decide) rfl (fun ls hl => ?_)
              refine lv_goto (tgt := 2) hx hb dX3_trialKeepsGoals_73 (by decide) ?_
              exact ih_2 (y + 1) _ _ _ (by first | assumption | omega) (lt_s ha (al_iff.mpr (fun k hk => hb2 k (by omega)))) (by omega) hP hS (lv_sub hl [1, 0] rfl)
            · skip
              have c_2 := (zz_gef (a := z) (b := nk) (by omega) (by omega)).mp c_2
              refine lv_aload_n hx hb dX3_trialKeepsGoals_26 rfl (lv_at hl 0 rfl) ?_
              refine lv_iload_n hx hb dX3_trialKeepsGoals_27 rfl (lv_at hl 1 rfl) ?_
              refine lv_iload_n hx hb dX3_trialKeepsGoals_28 rfl (lv_at hl 2 rfl) ?_
              refine va_calli (va_runV (As := [.int (nI y), .int (nI z)]) (rest := []) ⟨hx, hb, hml, hown, hts⟩ (c_X3_isThrown l dC dI cI cZ cJ a nk pa fa nc fo th tg nt tb te tk tt nu ub ue uk ut re ro fu bl go ra rc ex tc es wy y z v (by omega) (by omega) (by first | assumption | omega)) (cwV 2 hts gX3_trialKeepsGoals_X3_isThrown rfl rfl rfl (by decide +kernel) ⟨Nat.le_of_ble_eq_true rfl, Nat.le_of_ble_eq_true rfl⟩) ⟨zPre_blind, va_recv hK hP (ci := 3) (q0 := 0) rfl rfl, zPre_at hP hK hn⟩ rfl rfl hl.1 rfl (lv_room (Nat.le_of_ble_eq_true rfl)) dX3_trialKeepsGoals_29 ⟨Nat.le_of_ble_eq_true rfl, Nat.le_of_ble_eq_true rfl⟩) hS (fun _ _ h => h.elim) (fun _ h => h.elim) (fun r_3 u_9 t H locs ht hvm hw hB hz1 hk1 hS => ?_)
              have hP := zkeep hP hk1
              subst hw
              refine lv_if_eq (tgt := 64) hx hb dX3_trialKeepsGoals_32 (by decide) (fun c_4 => ?_) (fun c_4 => ?_)
              · skip
                have c9 := zb_0.mp c_4
                refine lv_iinc (v := nI (z + 1)) (lv' := [(2, .int (nI (z + 1))), (0, .ref (a 0)), (1, .int (nI y))]) hx hb dX3_trialKeepsGoals_64 hl (k := 2) rfl (zz_inc z 1) (by decide) rfl (fun ls hl => ?_)
                refine lv_goto (tgt := 15) hx hb dX3_trialKeepsGoals_67 (by decide) ?_
                exact ih_15 (z + 1) _ _ _ (by first | assumption | omega) (lt_s hb2 (by simp [*])) (by omega) hP hS (lv_sub hl [1, 2, 0] rfl)
              · skip
                have c9 := zb_1.mp c_4
                refine lv_aload_n hx hb dX3_trialKeepsGoals_35 rfl (lv_at hl 0 rfl) ?_
                refine va_get (D := (dC, dI)) (ci := 3) (v := .ref (a 13)) (C := RX3) (T := TX3) (N := 15) hx hb hts (by decide +kernel) hown hK hP 0 rfl rfl 3 (by decide) (hts (.fieldLink RX3 30 "HandlerOptimizer" "trial" "LHandlerOptimizer$Table;") (by decide +kernel)) (fun _ h9 => h9) rfl dX3_trialKeepsGoals_36 ?_
                refine lv_aload_n hx hb dX3_trialKeepsGoals_39 rfl (lv_at hl 0 rfl) ?_
                refine va_get (D := (dC, dI)) (ci := 3) (v := .ref (a 1)) (C := RX3) (T := TX3) (N := 15) hx hb hts (by decide +kernel) hown hK hP 0 rfl rfl 0 (by decide) (hts (.fieldLink RX3 12 "HandlerOptimizer" "kinds" "LHandlerOptimizer$Kinds;") (by decide +kernel)) (fun _ h9 => h9) rfl dX3_trialKeepsGoals_40 ?_
                refine lv_iload_n hx hb dX3_trialKeepsGoals_43 rfl (lv_at hl 1 rfl) ?_
                refine lv_iload_n hx hb dX3_trialKeepsGoals_44 rfl (lv_at hl 2 rfl) ?_
                have hPc := hP.sub (ws' := wT (a 13) (a 14) (a 15) (a 16) (a 17) cI nu ub ue uk ut ++ wK (a 1) (a 2) (a 3) cI nk pa fa) [13, 14, 15, 16, 17, 1, 2, 3] rfl
                refine va_calli (va_runVN (As := [.ref (a 1), .int (nI y), .int (nI z)]) (rest := []) ⟨hx, hb, hml, hown, hts⟩ (c_X2_goal l dC dI cI cZ cJ (a 13) (a 14) (a 15) (a 16) (a 17) nu ub ue uk ut (a 1) (a 2) (a 3) nk pa fa y z U up (by omega) (by first | assumption | omega) (by first | assumption | omega) (by first | assumption | omega) (by first | assumption | omega) (by first | assumption | omega) (by first | assumption | omega)) ⟨va_cnB 3 hts gX3_trialKeepsGoals_X2_goal_n259 rfl rfl rfl (hn (.methodLinkNest RX3 259 yX2_goal "HandlerOptimizer") (by decide +kernel)) (hts (.initialized RX2) (by decide +kernel)) (by decide +kernel) ⟨Nat.le_of_ble_eq_true rfl, Nat.le_of_ble_eq_true rfl⟩, hts (.instanceMethod yX2_goal) (by decide +kernel), hts (.selects RX2 yX2_goal yX2_goal) (by decide +kernel)⟩ ⟨zPre_blind, va_recv hK hPc (ci := 2) (q0 := 0) rfl rfl, zPre_at hPc hK hn⟩ rfl rfl hl.1 rfl (lv_room (Nat.le_of_ble_eq_true rfl)) dX3_trialKeepsGoals_45 ⟨Nat.le_of_ble_eq_true rfl, Nat.le_of_ble_eq_true rfl⟩) hS (fun _ _ h => h.elim) (fun _ h => h.elim) (fun r_5 u_9 t H locs ht hvm hw hB hz1 hk1 hS => ?_)
                have hP := zkeep hP hk1
                subst hw
                refine lv_aload_n hx hb dX3_trialKeepsGoals_48 rfl (lv_at hl 0 rfl) ?_
                refine va_get (D := (dC, dI)) (ci := 3) (v := .ref (a 22)) (C := RX3) (T := TX3) (N := 15) hx hb hts (by decide +kernel) hown hK hP 0 rfl rfl 9 (by decide) (hts (.fieldLink RX3 47 "HandlerOptimizer" "goals" "[I") (by decide +kernel)) (fun _ h9 => h9) rfl dX3_trialKeepsGoals_49 ?_
                refine lv_iload_n hx hb dX3_trialKeepsGoals_52 rfl (lv_at hl 1 rfl) ?_
                refine lv_bipush (v := 8) hx hb dX3_trialKeepsGoals_53 (by decide) ?_
                refine lv_imul hx hb dX3_trialKeepsGoals_55 ?_
                refine zz_top (y := nI (y * 8)) (zz_mul _ _) ?_
                refine lv_iload_n hx hb dX3_trialKeepsGoals_56 rfl (lv_at hl 2 rfl) ?_
                refine lv_iadd hx hb dX3_trialKeepsGoals_57 ?_
                refine zz_top (y := nI ((y * 8) + z)) (nI_add _ _) ?_
                refine va_iald hx hb hK hP 22 0 rfl rfl (vp_in_nI (n := (y * 8) + z) (by omega) (by decide)) dX3_trialKeepsGoals_58 ?_
                refine zz_top (y := go ((y * 8) + z)) (congrArg _ (nI_clamp (by omega))) ?_
                refine zz_top (y := G y z) (hgo y (by omega) z (by omega)) ?_
                refine lv_icmp_eq (tgt := 64) hx hb dX3_trialKeepsGoals_59 (by decide) (fun c_6 => ?_) (fun c_6 => ?_)
                · skip
                  skip
                  refine lv_iinc (v := nI (z + 1)) (lv' := [(2, .int (nI (z + 1))), (0, .ref (a 0)), (1, .int (nI y))]) hx hb dX3_trialKeepsGoals_64 hl (k := 2) rfl (zz_inc z 1) (by decide) rfl (fun ls hl => ?_)
                  refine lv_goto (tgt := 15) hx hb dX3_trialKeepsGoals_67 (by decide) ?_
                  exact ih_15 (z + 1) _ _ _ (by first | assumption | omega) (lt_s hb2 (by simp [*])) (by omega) hP hS (lv_sub hl [1, 2, 0] rfl)
                · skip
                  skip
                  refine lv_iconst (v := 0) hx hb dX3_trialKeepsGoals_62 (by decide) ?_
                  rw [← hQ]
                  exact W.zret (v := 0) hx hb hr rfl (fun t ht hW => ⟨⟨0, (), rfl, (zb_f (al_f (k := y) (by omega) (al_f (k := z) (by omega) (by simp [*])))), trivial⟩, hS.F ht⟩) hS.2.2 dX3_trialKeepsGoals_63
        exact J_15 _ 0 _ _ _ (by first | assumption | omega) lt_0 (Nat.lt_succ_self _) hP hS (lv_sub hl [1, 2, 0] rfl)
  exact J_2 _ 0 _ _ _ (by first | assumption | omega) lt_0 (Nat.lt_succ_self _) hP hS (lv_sub hl [1, 0] rfl)

set_option maxHeartbeats 4000000 in
set_option maxRecDepth 100000 in
theorem c_X3_joinInPlaceOf (l : Launch) (dC : Nat → ClassId) (dI : Nat → Nat → Nat) (cI cZ cJ : ClassId) (a : Nat → Nat) (nk : Nat) (pa : Nat → Int32) (fa : Nat → Int32) (nc : Nat) (fo : Nat → Int32) (th : Nat → Int32) (tg : Nat → Int32) (nt : Nat) (tb : Nat → Int32) (te : Nat → Int32) (tk : Nat → Int32) (tt : Nat → Int32) (nu : Nat) (ub : Nat → Int32) (ue : Nat → Int32) (uk : Nat → Int32) (ut : Nat → Int32) (re : Nat → Int32) (ro : Nat → Int32) (fu : Nat → Int32) (bl : Nat → Int32) (go : Nat → Int32) (ra : Nat → Int32) (rc : Nat) (ex : Int32) (tc : Int32) (es : Int32) (wy : Int64) (x1 : Nat) (x2 : Nat) (T : Nat → Nat → Nat) (up : Nat → Nat → Bool) (G : Nat → Nat → Int32) (v : Nat → Bool) (sz : Nat) (hg : g3 nk fa up nt tb te tk tt T) (hc : okC nk nc fo th tg) (h1 : x1 < nt) (h2 : x2 < nt) (hre : ∀ j, j < 48 → re j = bI (v j)) (hgo : gO nc nk go G) : Met l yX3_joinInPlaceOf wsX3_joinInPlaceOf ({ frames := 3, cells := 0, slots := 0, locals := 71 } : Room) (va_Pc [.ref (a 0), .int (nI x1), .int (nI x2)] (zWr (dC, dI) [(cI, .int), (cZ, .boolean), (cJ, .long)] (w3 a cI cZ nk pa fa nc fo th tg nt tb te tk tt nu ub ue uk ut re ro fu bl go ra rc ex tc es wy) sz)) (va_Qi (fun (r : Int32) (u : Nat × (Nat → Int32) × (Nat → Int32) × (Nat → Int32) × (Nat → Int32) × Nat × (Nat → Int32) × (Nat → Int32) × (Nat → Int32) × (Nat → Int32)) => match u with | (nt9, tb9, te9, tk9, tt9, nu9, ub9, ue9, uk9, ut9) => r = bI (kq v th nk nc up G T nt x1 x2) ∧ nt9 = (if (kq v th nk nc up G T nt x1 x2) then nt - 1 else nt) ∧ g3 nk fa up nt9 tb9 te9 tk9 tt9 (if (kq v th nk nc up G T nt x1 x2) then jT T up nk x1 x2 else T)) (fun u t => match u with | (nt9, tb9, te9, tk9, tt9, nu9, ub9, ue9, uk9, ut9) => zWo (dC, dI) [(cI, .int), (cZ, .boolean), (cJ, .long)] (w3 a cI cZ nk pa fa nc fo th tg nt9 tb9 te9 tk9 tt9 nu9 ub9 ue9 uk9 ut9 re ro fu bl go ra rc ex tc es wy) (va_A (w3 a cI cZ nk pa fa nc fo th tg nt tb te tk tt nu ub ue uk ut re ro fu bl go ra rc ex tc es wy) sz) t) (va_A (w3 a cI cZ nk pa fa nc fo th tg nt tb te tk tt nu ub ue uk ut re ro fu bl go ra rc ex tc es wy) sz)) 0 0 (va_A (w3 a cI cZ nk pa fa nc fo th tg nt tb te tk tt nu ub ue uk ut re ro fu bl go ra rc ex tc es wy) sz) := by
  refine Met.ofW (cc := cX3_joinInPlaceOf) (maxL := 3) (ret := (some .boolean)) (by decide) rfl ?_
  intro p e s m args below meth c s₁ B hml hv
  obtain ⟨hav, hsz, ⟨hP, hK, hn⟩, hD0⟩ := hv
  have hx := B.exec
  have hb := B.bytes
  have hr := B.returns
  have hts := atoms_spec (ws := wsX3_joinInPlaceOf) B.pre
  have hown : s.vm.findClass RX3 = some m.cls := findClass_of_methodNamed B.named
  have hlocks := B.notSynchronized
  subst hsz
  have hD := hD0.self (sz := s.heap.size)
  generalize hAe : (va_A (w3 a cI cZ nk pa fa nc fo th tg nt tb te tk tt nu ub ue uk ut re ro fu bl go ra rc ex tc es wy) s.heap.size) = A at hD ⊢
  have hA : ∀ q : Nat, s.heap.size ≤ q → A q := fun q h => by rw [← hAe]; exact Or.inr h
  have hS : va_S A s.heap s.heap [] := va_S.rf
  generalize hQ : MQ below (va_Qi (fun (r : Int32) (u : Nat × (Nat → Int32) × (Nat → Int32) × (Nat → Int32) × (Nat → Int32) × Nat × (Nat → Int32) × (Nat → Int32) × (Nat → Int32) × (Nat → Int32)) => match u with | (nt9, tb9, te9, tk9, tt9, nu9, ub9, ue9, uk9, ut9) => r = bI (kq v th nk nc up G T nt x1 x2) ∧ nt9 = (if (kq v th nk nc up G T nt x1 x2) then nt - 1 else nt) ∧ g3 nk fa up nt9 tb9 te9 tk9 tt9 (if (kq v th nk nc up G T nt x1 x2) then jT T up nk x1 x2 else T)) (fun u t => match u with | (nt9, tb9, te9, tk9, tt9, nu9, ub9, ue9, uk9, ut9) => zWo (dC, dI) [(cI, .int), (cZ, .boolean), (cJ, .long)] (w3 a cI cZ nk pa fa nc fo th tg nt9 tb9 te9 tk9 tt9 nu9 ub9 ue9 uk9 ut9 re ro fu bl go ra rc ex tc es wy) A t) A) args s 0 0 A = Q
  refine W.eq (g2 := entryFrame m ([.ref (a 0), .int (nI x1), .int (nI x2)] : List Value).toArray 3) (by rw [hav]) ?_
  have hl := lv_entry ([.ref (a 0), .int (nI x1), .int (nI x2)]) (n := 3) (Nat.le_of_ble_eq_true rfl)
  rw [lg_entry_eq]
  generalize (lg_sl ([.ref (a 0), .int (nI x1), .int (nI x2)]) ++ List.replicate (3 - (lg_sl ([.ref (a 0), .int (nI x1), .int (nI x2)])).length) Slot.unset).toArray = ls at hl ⊢
  have hl : lv_has ls 3 [(0, .ref (a 0)), (1, .int (nI x1)), (2, .int (nI x2))] := hl
  obtain ⟨H, hH⟩ : ∃ H, H = s.heap := ⟨_, rfl⟩
  obtain ⟨locs, hlo⟩ : ∃ q : List Loc, q = [] := ⟨_, rfl⟩
  have hP : va_P (dC, dI) vwCl (w3 a cI cZ nk pa fa nc fo th tg nt tb te tk tt nu ub ue uk ut re ro fu bl go ra rc ex tc es wy) H := by rw [hH]; exact hP
  have hS : va_S A s.heap H locs := by rw [hH, hlo]; exact hS
  refine zz_hl hH hlo ?_
  obtain ⟨hk01, hk8, hnt, hT, hO, hF, hU⟩ := id hg
  obtain ⟨hnc, hC⟩ := id hc
  obtain ⟨o10, o11, o12, o13⟩ := hO x1 h1
  obtain ⟨o20, o21, o22, o23⟩ := hO x2 h2
  refine lv_aload_n hx hb dX3_joinInPlaceOf_0 rfl (lv_at hl 0 rfl) ?_
  refine va_get (D := (dC, dI)) (ci := 3) (v := .ref (a 13)) (C := RX3) (T := TX3) (N := 15) hx hb hts (by decide +kernel) hown hK hP 0 rfl rfl 3 (by decide) (hts (.fieldLink RX3 30 "HandlerOptimizer" "trial" "LHandlerOptimizer$Table;") (by decide +kernel)) (fun _ h9 => h9) rfl dX3_joinInPlaceOf_1 ?_
  refine lv_aload_n hx hb dX3_joinInPlaceOf_4 rfl (lv_at hl 0 rfl) ?_
  refine va_get (D := (dC, dI)) (ci := 3) (v := .ref (a 8)) (C := RX3) (T := TX3) (N := 15) hx hb hts (by decide +kernel) hown hK hP 0 rfl rfl 2 (by decide) (hts (.fieldLink RX3 26 "HandlerOptimizer" "table" "LHandlerOptimizer$Table;") (by decide +kernel)) (fun _ h9 => h9) rfl dX3_joinInPlaceOf_5 ?_
  have hPc := hP.sub (ws' := wT (a 13) (a 14) (a 15) (a 16) (a 17) cI nu ub ue uk ut ++ wT (a 8) (a 9) (a 10) (a 11) (a 12) cI nt tb te tk tt) [13, 14, 15, 16, 17, 8, 9, 10, 11, 12] rfl
  have hDc := hD.sub (ws' := wT (a 13) (a 14) (a 15) (a 16) (a 17) cI nu ub ue uk ut ++ wT (a 8) (a 9) (a 10) (a 11) (a 12) cI nt tb te tk tt) [13, 14, 15, 16, 17, 8, 9, 10, 11, 12] (by decide) rfl
  have hFc := va_free (wc := wT (a 13) (a 14) (a 15) (a 16) (a 17) cI nu ub ue uk ut ++ wT (a 8) (a 9) (a 10) (a 11) (a 12) cI nt tb te tk tt) hD hS hA [13, 14, 15, 16, 17, 8, 9, 10, 11, 12] rfl
  refine va_callv (va_runVN (As := [.ref (a 8)]) (rest := []) ⟨hx, hb, hml, hown, hts⟩ (c_X2_copyAll l dC dI cI cZ cJ (a 13) (a 14) (a 15) (a 16) (a 17) nu ub ue uk ut (a 8) (a 9) (a 10) (a 11) (a 12) nt tb te tk tt T H.size (by first | assumption | omega) (by first | assumption | omega)) ⟨va_cnB 1 hts gX3_joinInPlaceOf_X2_copyAll_n269 rfl rfl rfl (hn (.methodLinkNest RX3 269 yX2_copyAll "HandlerOptimizer") (by decide +kernel)) (hts (.initialized RX2) (by decide +kernel)) (by decide +kernel) ⟨Nat.le_of_ble_eq_true rfl, Nat.le_of_ble_eq_true rfl⟩, hts (.instanceMethod yX2_copyAll) (by decide +kernel), hts (.selects RX2 yX2_copyAll yX2_copyAll) (by decide +kernel)⟩ ⟨zWr_blind, va_recv hK hPc (ci := 2) (q0 := 0) rfl rfl, zWr_at hPc hK hn (hDc.weaken (fun _ _ _ _ => trivial))⟩ rfl rfl hl.1 rfl (lv_room (Nat.le_of_ble_eq_true rfl)) dX3_joinInPlaceOf_8 ⟨Nat.le_of_ble_eq_true rfl, Nat.le_of_ble_eq_true rfl⟩) hS (fun q _ h => hFc q h) hFc (fun u_9 t H1 locs ht hvm hw hB hz1 hk1 hS => ?_)
  obtain ⟨ub_n, ue_n, uk_n, ut_n⟩ := u_9
  dsimp only at hw hB
  obtain ⟨hP1, -, hD1⟩ := hB
  rw [ht] at hP1
  obtain ⟨hP, hD⟩ := va_join (wr := [(a 0, .inr (3, [.ref (a 1), .ref (a 4), .ref (a 8), .ref (a 13), .ref (a 18), .ref (a 19), .int (nI rc), .ref (a 20), .ref (a 21), .ref (a 22), .ref (a 23), .int ex, .int tc, .int es, .long wy]))] ++ wK (a 1) (a 2) (a 3) cI nk pa fa ++ wC (a 4) (a 5) (a 6) (a 7) cI nc fo th tg ++ [(a 18, .inl (cZ, 48, .inl re)), (a 19, .inl (cI, 48, .inl ro)), (a 20, .inl (cI, 24, .inl fu)), (a 21, .inl (cI, 24, .inl bl)), (a 22, .inl (cI, 384, .inl go)), (a 23, .inl (cI, 49, .inl ra))]) (w1 := wT (a 13) (a 14) (a 15) (a 16) (a 17) cI nt ub_n ue_n uk_n ut_n ++ wT (a 8) (a 9) (a 10) (a 11) (a 12) cI nt tb te tk tt) hP hD [13, 14, 15, 16, 17, 8, 9, 10, 11, 12] [0, 1, 2, 3, 4, 5, 6, 7, 18, 19, 20, 21, 22, 23] rfl rfl (by decide) (by decide) hk1 hFc hP1 hD1
  generalize H1 = H at hP hS ⊢
  have hP := hP.sub (ws' := w3 a cI cZ nk pa fa nc fo th tg nt tb te tk tt nt ub_n ue_n uk_n ut_n re ro fu bl go ra rc ex tc es wy) [0, 1, 2, 3, 4, 5, 6, 7, 19, 20, 21, 22, 23, 14, 15, 16, 17, 18, 8, 9, 10, 11, 12, 13] rfl
  have hD := hD.sub (ws' := w3 a cI cZ nk pa fa nc fo th tg nt tb te tk tt nt ub_n ue_n uk_n ut_n re ro fu bl go ra rc ex tc es wy) [0, 1, 2, 3, 4, 5, 6, 7, 19, 20, 21, 22, 23, 14, 15, 16, 17, 18, 8, 9, 10, 11, 12, 13] (by decide) rfl
  have hP : va_P (dC, dI) vwCl (w3 a cI cZ nk pa fa nc fo th tg nt tb te tk tt nt ub_n ue_n uk_n ut_n re ro fu bl go ra rc ex tc es wy) H := hP
  have hD : va_D A (w3 a cI cZ nk pa fa nc fo th tg nt tb te tk tt nt ub_n ue_n uk_n ut_n re ro fu bl go ra rc ex tc es wy) := hD
  have hTu := hw
  refine lv_aload_n hx hb dX3_joinInPlaceOf_11 rfl (lv_at hl 0 rfl) ?_
  refine va_get (D := (dC, dI)) (ci := 3) (v := .ref (a 13)) (C := RX3) (T := TX3) (N := 15) hx hb hts (by decide +kernel) hown hK hP 0 rfl rfl 3 (by decide) (hts (.fieldLink RX3 30 "HandlerOptimizer" "trial" "LHandlerOptimizer$Table;") (by decide +kernel)) (fun _ h9 => h9) rfl dX3_joinInPlaceOf_12 ?_
  refine va_getN (D := (dC, dI)) (ci := 2) (v := .ref (a 14)) (C := RX2) (T := TX2) (N := 5) hx hb hts (by decide +kernel) hown hK hP 13 rfl rfl 0 (by decide) (va_Nw.use rfl (hn (.fieldLinkNest RX3 135 "HandlerOptimizer$Table" "begins" "[I" "HandlerOptimizer") (by decide +kernel))) (fun _ h9 => h9) rfl dX3_joinInPlaceOf_15 ?_
  refine lv_iload_n hx hb dX3_joinInPlaceOf_18 rfl (lv_at hl 1 rfl) ?_
  refine lv_aload_n hx hb dX3_joinInPlaceOf_19 rfl (lv_at hl 0 rfl) ?_
  refine va_get (D := (dC, dI)) (ci := 3) (v := .ref (a 8)) (C := RX3) (T := TX3) (N := 15) hx hb hts (by decide +kernel) hown hK hP 0 rfl rfl 2 (by decide) (hts (.fieldLink RX3 26 "HandlerOptimizer" "table" "LHandlerOptimizer$Table;") (by decide +kernel)) (fun _ h9 => h9) rfl dX3_joinInPlaceOf_20 ?_
  refine va_getN (D := (dC, dI)) (ci := 2) (v := .ref (a 9)) (C := RX2) (T := TX2) (N := 5) hx hb hts (by decide +kernel) hown hK hP 8 rfl rfl 0 (by decide) (va_Nw.use rfl (hn (.fieldLinkNest RX3 135 "HandlerOptimizer$Table" "begins" "[I" "HandlerOptimizer") (by decide +kernel))) (fun _ h9 => h9) rfl dX3_joinInPlaceOf_23 ?_
  refine lv_iload_n hx hb dX3_joinInPlaceOf_26 rfl (lv_at hl 1 rfl) ?_
  refine va_iald hx hb hK hP 9 0 rfl rfl (vp_in_nI (n := x1) (by omega) (by decide)) dX3_joinInPlaceOf_27 ?_
  refine zz_top (y := tb x1) (congrArg _ (nI_clamp (by omega))) ?_
  refine zz_top (y := nI (T 0 x1)) ((hT x1 h1).1) ?_
  refine lv_aload_n hx hb dX3_joinInPlaceOf_28 rfl (lv_at hl 0 rfl) ?_
  refine va_get (D := (dC, dI)) (ci := 3) (v := .ref (a 8)) (C := RX3) (T := TX3) (N := 15) hx hb hts (by decide +kernel) hown hK hP 0 rfl rfl 2 (by decide) (hts (.fieldLink RX3 26 "HandlerOptimizer" "table" "LHandlerOptimizer$Table;") (by decide +kernel)) (fun _ h9 => h9) rfl dX3_joinInPlaceOf_29 ?_
  refine va_getN (D := (dC, dI)) (ci := 2) (v := .ref (a 9)) (C := RX2) (T := TX2) (N := 5) hx hb hts (by decide +kernel) hown hK hP 8 rfl rfl 0 (by decide) (va_Nw.use rfl (hn (.fieldLinkNest RX3 135 "HandlerOptimizer$Table" "begins" "[I" "HandlerOptimizer") (by decide +kernel))) (fun _ h9 => h9) rfl dX3_joinInPlaceOf_32 ?_
  refine lv_iload_n hx hb dX3_joinInPlaceOf_35 rfl (lv_at hl 2 rfl) ?_
  refine va_iald hx hb hK hP 9 0 rfl rfl (vp_in_nI (n := x2) (by omega) (by decide)) dX3_joinInPlaceOf_36 ?_
  refine zz_top (y := tb x2) (congrArg _ (nI_clamp (by omega))) ?_
  refine zz_top (y := nI (T 0 x2)) ((hT x2 h2).1) ?_
  refine va_mmin hx hb (by rw [hml]; exact hl.1.symm) (own := RX3) hown (hts (.methodLink RX3 273 Lib.Math.min.name) (by decide +kernel)) (hts (.static Lib.Math.min.name) (by decide +kernel)) (hts (.initialized "java/lang/Math") (by decide +kernel)) (hts (.code Lib.Math.min.name Lib.Math.min.code 2 (some .int)) (by decide +kernel)) (Nat.le_of_ble_eq_true rfl) (Nat.le_of_ble_eq_true rfl) (Nat.zero_le _) (Nat.zero_le _) dX3_joinInPlaceOf_37 ?_
  refine zz_top (y := nI (min (T 0 x1) (T 0 x2))) (zz_min (by omega) (by omega)) ?_
  refine va_iast hx hb hK hP hD hS 14 0 rfl rfl (vp_in_nI (n := x1) (by omega) (by decide)) dX3_joinInPlaceOf_40 (fun H locs hP hD hS => ?_)
  rw [nI_clamp (n := x1) (by omega)] at hP hD
  have hP : va_P (dC, dI) vwCl (w3 a cI cZ nk pa fa nc fo th tg nt tb te tk tt nt (upd ub_n x1 (nI (min (T 0 x1) (T 0 x2)))) ue_n uk_n ut_n re ro fu bl go ra rc ex tc es wy) H := hP
  have hD : va_D A (w3 a cI cZ nk pa fa nc fo th tg nt tb te tk tt nt (upd ub_n x1 (nI (min (T 0 x1) (T 0 x2)))) ue_n uk_n ut_n re ro fu bl go ra rc ex tc es wy) := hD
  refine lv_aload_n hx hb dX3_joinInPlaceOf_41 rfl (lv_at hl 0 rfl) ?_
  refine va_get (D := (dC, dI)) (ci := 3) (v := .ref (a 13)) (C := RX3) (T := TX3) (N := 15) hx hb hts (by decide +kernel) hown hK hP 0 rfl rfl 3 (by decide) (hts (.fieldLink RX3 30 "HandlerOptimizer" "trial" "LHandlerOptimizer$Table;") (by decide +kernel)) (fun _ h9 => h9) rfl dX3_joinInPlaceOf_42 ?_
  refine va_getN (D := (dC, dI)) (ci := 2) (v := .ref (a 15)) (C := RX2) (T := TX2) (N := 5) hx hb hts (by decide +kernel) hown hK hP 13 rfl rfl 1 (by decide) (va_Nw.use rfl (hn (.fieldLinkNest RX3 138 "HandlerOptimizer$Table" "ends" "[I" "HandlerOptimizer") (by decide +kernel))) (fun _ h9 => h9) rfl dX3_joinInPlaceOf_45 ?_
  refine lv_iload_n hx hb dX3_joinInPlaceOf_48 rfl (lv_at hl 1 rfl) ?_
  refine lv_aload_n hx hb dX3_joinInPlaceOf_49 rfl (lv_at hl 0 rfl) ?_
  refine va_get (D := (dC, dI)) (ci := 3) (v := .ref (a 8)) (C := RX3) (T := TX3) (N := 15) hx hb hts (by decide +kernel) hown hK hP 0 rfl rfl 2 (by decide) (hts (.fieldLink RX3 26 "HandlerOptimizer" "table" "LHandlerOptimizer$Table;") (by decide +kernel)) (fun _ h9 => h9) rfl dX3_joinInPlaceOf_50 ?_
  refine va_getN (D := (dC, dI)) (ci := 2) (v := .ref (a 10)) (C := RX2) (T := TX2) (N := 5) hx hb hts (by decide +kernel) hown hK hP 8 rfl rfl 1 (by decide) (va_Nw.use rfl (hn (.fieldLinkNest RX3 138 "HandlerOptimizer$Table" "ends" "[I" "HandlerOptimizer") (by decide +kernel))) (fun _ h9 => h9) rfl dX3_joinInPlaceOf_53 ?_
  refine lv_iload_n hx hb dX3_joinInPlaceOf_56 rfl (lv_at hl 1 rfl) ?_
  refine va_iald hx hb hK hP 10 0 rfl rfl (vp_in_nI (n := x1) (by omega) (by decide)) dX3_joinInPlaceOf_57 ?_
  refine zz_top (y := te x1) (congrArg _ (nI_clamp (by omega))) ?_
  refine zz_top (y := nI (T 1 x1)) ((hT x1 h1).2.1) ?_
  refine lv_aload_n hx hb dX3_joinInPlaceOf_58 rfl (lv_at hl 0 rfl) ?_
  refine va_get (D := (dC, dI)) (ci := 3) (v := .ref (a 8)) (C := RX3) (T := TX3) (N := 15) hx hb hts (by decide +kernel) hown hK hP 0 rfl rfl 2 (by decide) (hts (.fieldLink RX3 26 "HandlerOptimizer" "table" "LHandlerOptimizer$Table;") (by decide +kernel)) (fun _ h9 => h9) rfl dX3_joinInPlaceOf_59 ?_
  refine va_getN (D := (dC, dI)) (ci := 2) (v := .ref (a 10)) (C := RX2) (T := TX2) (N := 5) hx hb hts (by decide +kernel) hown hK hP 8 rfl rfl 1 (by decide) (va_Nw.use rfl (hn (.fieldLinkNest RX3 138 "HandlerOptimizer$Table" "ends" "[I" "HandlerOptimizer") (by decide +kernel))) (fun _ h9 => h9) rfl dX3_joinInPlaceOf_62 ?_
  refine lv_iload_n hx hb dX3_joinInPlaceOf_65 rfl (lv_at hl 2 rfl) ?_
  refine va_iald hx hb hK hP 10 0 rfl rfl (vp_in_nI (n := x2) (by omega) (by decide)) dX3_joinInPlaceOf_66 ?_
  refine zz_top (y := te x2) (congrArg _ (nI_clamp (by omega))) ?_
  refine zz_top (y := nI (T 1 x2)) ((hT x2 h2).2.1) ?_
  refine va_mmax hx hb (by rw [hml]; exact hl.1.symm) (own := RX3) hown (hts (.methodLink RX3 278 Lib.Math.max.name) (by decide +kernel)) (hts (.static Lib.Math.max.name) (by decide +kernel)) (hts (.initialized "java/lang/Math") (by decide +kernel)) (hts (.code Lib.Math.max.name Lib.Math.max.code 2 (some .int)) (by decide +kernel)) (Nat.le_of_ble_eq_true rfl) (Nat.le_of_ble_eq_true rfl) (Nat.zero_le _) (Nat.zero_le _) dX3_joinInPlaceOf_67 ?_
  refine zz_top (y := nI (max (T 1 x1) (T 1 x2))) (zz_max (by omega) (by omega)) ?_
  refine va_iast hx hb hK hP hD hS 15 0 rfl rfl (vp_in_nI (n := x1) (by omega) (by decide)) dX3_joinInPlaceOf_70 (fun H locs hP hD hS => ?_)
  rw [nI_clamp (n := x1) (by omega)] at hP hD
  have hP : va_P (dC, dI) vwCl (w3 a cI cZ nk pa fa nc fo th tg nt tb te tk tt nt (upd ub_n x1 (nI (min (T 0 x1) (T 0 x2)))) (upd ue_n x1 (nI (max (T 1 x1) (T 1 x2)))) uk_n ut_n re ro fu bl go ra rc ex tc es wy) H := hP
  have hD : va_D A (w3 a cI cZ nk pa fa nc fo th tg nt tb te tk tt nt (upd ub_n x1 (nI (min (T 0 x1) (T 0 x2)))) (upd ue_n x1 (nI (max (T 1 x1) (T 1 x2)))) uk_n ut_n re ro fu bl go ra rc ex tc es wy) := hD
  refine lv_aload_n hx hb dX3_joinInPlaceOf_71 rfl (lv_at hl 0 rfl) ?_
  refine va_get (D := (dC, dI)) (ci := 3) (v := .ref (a 13)) (C := RX3) (T := TX3) (N := 15) hx hb hts (by decide +kernel) hown hK hP 0 rfl rfl 3 (by decide) (hts (.fieldLink RX3 30 "HandlerOptimizer" "trial" "LHandlerOptimizer$Table;") (by decide +kernel)) (fun _ h9 => h9) rfl dX3_joinInPlaceOf_72 ?_
  refine va_getN (D := (dC, dI)) (ci := 2) (v := .ref (a 16)) (C := RX2) (T := TX2) (N := 5) hx hb hts (by decide +kernel) hown hK hP 13 rfl rfl 2 (by decide) (va_Nw.use rfl (hn (.fieldLinkNest RX3 141 "HandlerOptimizer$Table" "kinds" "[I" "HandlerOptimizer") (by decide +kernel))) (fun _ h9 => h9) rfl dX3_joinInPlaceOf_75 ?_
  refine lv_iload_n hx hb dX3_joinInPlaceOf_78 rfl (lv_at hl 1 rfl) ?_
  refine lv_aload_n hx hb dX3_joinInPlaceOf_79 rfl (lv_at hl 0 rfl) ?_
  refine va_get (D := (dC, dI)) (ci := 3) (v := .ref (a 1)) (C := RX3) (T := TX3) (N := 15) hx hb hts (by decide +kernel) hown hK hP 0 rfl rfl 0 (by decide) (hts (.fieldLink RX3 12 "HandlerOptimizer" "kinds" "LHandlerOptimizer$Kinds;") (by decide +kernel)) (fun _ h9 => h9) rfl dX3_joinInPlaceOf_80 ?_
  refine lv_aload_n hx hb dX3_joinInPlaceOf_83 rfl (lv_at hl 0 rfl) ?_
  refine va_get (D := (dC, dI)) (ci := 3) (v := .ref (a 8)) (C := RX3) (T := TX3) (N := 15) hx hb hts (by decide +kernel) hown hK hP 0 rfl rfl 2 (by decide) (hts (.fieldLink RX3 26 "HandlerOptimizer" "table" "LHandlerOptimizer$Table;") (by decide +kernel)) (fun _ h9 => h9) rfl dX3_joinInPlaceOf_84 ?_
  refine va_getN (D := (dC, dI)) (ci := 2) (v := .ref (a 11)) (C := RX2) (T := TX2) (N := 5) hx hb hts (by decide +kernel) hown hK hP 8 rfl rfl 2 (by decide) (va_Nw.use rfl (hn (.fieldLinkNest RX3 141 "HandlerOptimizer$Table" "kinds" "[I" "HandlerOptimizer") (by decide +kernel))) (fun _ h9 => h9) rfl dX3_joinInPlaceOf_87 ?_
  refine lv_iload_n hx hb dX3_joinInPlaceOf_90 rfl (lv_at hl 1 rfl) ?_
  refine va_iald hx hb hK hP 11 0 rfl rfl (vp_in_nI (n := x1) (by omega) (by decide)) dX3_joinInPlaceOf_91 ?_
  refine zz_top (y := tk x1) (congrArg _ (nI_clamp (by omega))) ?_
  refine zz_top (y := nI (T 2 x1)) ((hT x1 h1).2.2.1) ?_
  refine lv_aload_n hx hb dX3_joinInPlaceOf_92 rfl (lv_at hl 0 rfl) ?_
  refine va_get (D := (dC, dI)) (ci := 3) (v := .ref (a 8)) (C := RX3) (T := TX3) (N := 15) hx hb hts (by decide +kernel) hown hK hP 0 rfl rfl 2 (by decide) (hts (.fieldLink RX3 26 "HandlerOptimizer" "table" "LHandlerOptimizer$Table;") (by decide +kernel)) (fun _ h9 => h9) rfl dX3_joinInPlaceOf_93 ?_
  refine va_getN (D := (dC, dI)) (ci := 2) (v := .ref (a 11)) (C := RX2) (T := TX2) (N := 5) hx hb hts (by decide +kernel) hown hK hP 8 rfl rfl 2 (by decide) (va_Nw.use rfl (hn (.fieldLinkNest RX3 141 "HandlerOptimizer$Table" "kinds" "[I" "HandlerOptimizer") (by decide +kernel))) (fun _ h9 => h9) rfl dX3_joinInPlaceOf_96 ?_
  refine lv_iload_n hx hb dX3_joinInPlaceOf_99 rfl (lv_at hl 2 rfl) ?_
  refine va_iald hx hb hK hP 11 0 rfl rfl (vp_in_nI (n := x2) (by omega) (by decide)) dX3_joinInPlaceOf_100 ?_
  refine zz_top (y := tk x2) (congrArg _ (nI_clamp (by omega))) ?_
  refine zz_top (y := nI (T 2 x2)) ((hT x2 h2).2.2.1) ?_
  have hPc := hP.sub (ws' := wK (a 1) (a 2) (a 3) cI nk pa fa) [1, 2, 3] rfl
  refine va_calli (va_runVN (As := [.int (nI (T 2 x1)), .int (nI (T 2 x2))]) (rest := [.int (nI x1), .ref (a 16)]) ⟨hx, hb, hml, hown, hts⟩ (c_X1_lowestAbove l dC dI cI cZ cJ (a 1) (a 2) (a 3) nk pa fa (T 2 x1) (T 2 x2) up (by first | assumption | omega) (by first | assumption | omega) (by first | assumption | omega) (by first | assumption | omega) (by first | assumption | omega)) ⟨va_cnB 2 hts gX3_joinInPlaceOf_X1_lowestAbove_n83 rfl rfl rfl (hn (.methodLinkNest RX3 83 yX1_lowestAbove "HandlerOptimizer") (by decide +kernel)) (hts (.initialized RX1) (by decide +kernel)) (by decide +kernel) ⟨Nat.le_of_ble_eq_true rfl, Nat.le_of_ble_eq_true rfl⟩, hts (.instanceMethod yX1_lowestAbove) (by decide +kernel), hts (.selects RX1 yX1_lowestAbove yX1_lowestAbove) (by decide +kernel)⟩ ⟨zPre_blind, va_recv hK hPc (ci := 1) (q0 := 0) rfl rfl, zPre_at hPc hK hn⟩ rfl rfl hl.1 rfl (lv_room (Nat.le_of_ble_eq_true rfl)) dX3_joinInPlaceOf_101 ⟨Nat.le_of_ble_eq_true rfl, Nat.le_of_ble_eq_true rfl⟩) hS (fun _ _ h => h.elim) (fun _ h => h.elim) (fun r_6 u_9 t H locs ht hvm hw hB hz1 hk1 hS => ?_)
  have hP := zkeep hP hk1
  subst hw
  refine va_iast hx hb hK hP hD hS 16 0 rfl rfl (vp_in_nI (n := x1) (by omega) (by decide)) dX3_joinInPlaceOf_104 (fun H locs hP hD hS => ?_)
  rw [nI_clamp (n := x1) (by omega)] at hP hD
  have hP : va_P (dC, dI) vwCl (w3 a cI cZ nk pa fa nc fo th tg nt tb te tk tt nt (upd ub_n x1 (nI (min (T 0 x1) (T 0 x2)))) (upd ue_n x1 (nI (max (T 1 x1) (T 1 x2)))) (upd uk_n x1 (nI (lw up nk (T 2 x1) (T 2 x2)))) ut_n re ro fu bl go ra rc ex tc es wy) H := hP
  have hD : va_D A (w3 a cI cZ nk pa fa nc fo th tg nt tb te tk tt nt (upd ub_n x1 (nI (min (T 0 x1) (T 0 x2)))) (upd ue_n x1 (nI (max (T 1 x1) (T 1 x2)))) (upd uk_n x1 (nI (lw up nk (T 2 x1) (T 2 x2)))) ut_n re ro fu bl go ra rc ex tc es wy) := hD
  refine lv_aload_n hx hb dX3_joinInPlaceOf_105 rfl (lv_at hl 0 rfl) ?_
  refine va_get (D := (dC, dI)) (ci := 3) (v := .ref (a 13)) (C := RX3) (T := TX3) (N := 15) hx hb hts (by decide +kernel) hown hK hP 0 rfl rfl 3 (by decide) (hts (.fieldLink RX3 30 "HandlerOptimizer" "trial" "LHandlerOptimizer$Table;") (by decide +kernel)) (fun _ h9 => h9) rfl dX3_joinInPlaceOf_106 ?_
  refine lv_iload_n hx hb dX3_joinInPlaceOf_109 rfl (lv_at hl 2 rfl) ?_
  have hPc := hP.sub (ws' := wT (a 13) (a 14) (a 15) (a 16) (a 17) cI nt (upd ub_n x1 (nI (min (T 0 x1) (T 0 x2)))) (upd ue_n x1 (nI (max (T 1 x1) (T 1 x2)))) (upd uk_n x1 (nI (lw up nk (T 2 x1) (T 2 x2)))) ut_n) [13, 14, 15, 16, 17] rfl
  have hDc := hD.sub (ws' := wT (a 13) (a 14) (a 15) (a 16) (a 17) cI nt (upd ub_n x1 (nI (min (T 0 x1) (T 0 x2)))) (upd ue_n x1 (nI (max (T 1 x1) (T 1 x2)))) (upd uk_n x1 (nI (lw up nk (T 2 x1) (T 2 x2)))) ut_n) [13, 14, 15, 16, 17] (by decide) rfl
  have hFc := va_free (wc := wT (a 13) (a 14) (a 15) (a 16) (a 17) cI nt (upd ub_n x1 (nI (min (T 0 x1) (T 0 x2)))) (upd ue_n x1 (nI (max (T 1 x1) (T 1 x2)))) (upd uk_n x1 (nI (lw up nk (T 2 x1) (T 2 x2)))) ut_n) hD hS hA [13, 14, 15, 16, 17] rfl
  refine va_callv (va_runVN (As := [.int (nI x2)]) (rest := []) ⟨hx, hb, hml, hown, hts⟩ (c_X2_delete l dC dI cI cZ cJ (a 13) (a 14) (a 15) (a 16) (a 17) nt (upd ub_n x1 (nI (min (T 0 x1) (T 0 x2)))) (upd ue_n x1 (nI (max (T 1 x1) (T 1 x2)))) (upd uk_n x1 (nI (lw up nk (T 2 x1) (T 2 x2)))) ut_n x2 (jS T up nk x1 x2) H.size (h2) (hnt) (rT_js hTu)) ⟨va_cnB 1 hts gX3_joinInPlaceOf_X2_delete_n131 rfl rfl rfl (hn (.methodLinkNest RX3 131 yX2_delete "HandlerOptimizer") (by decide +kernel)) (hts (.initialized RX2) (by decide +kernel)) (by decide +kernel) ⟨Nat.le_of_ble_eq_true rfl, Nat.le_of_ble_eq_true rfl⟩, hts (.instanceMethod yX2_delete) (by decide +kernel), hts (.selects RX2 yX2_delete yX2_delete) (by decide +kernel)⟩ ⟨zWr_blind, va_recv hK hPc (ci := 2) (q0 := 0) rfl rfl, zWr_at hPc hK hn (hDc.weaken (fun _ _ _ _ => trivial))⟩ rfl rfl hl.1 rfl (lv_room (Nat.le_of_ble_eq_true rfl)) dX3_joinInPlaceOf_110 ⟨Nat.le_of_ble_eq_true rfl, Nat.le_of_ble_eq_true rfl⟩) hS (fun q _ h => hFc q h) hFc (fun u_9 t H1 locs ht hvm hw hB hz1 hk1 hS => ?_)
  obtain ⟨ub_m, ue_m, uk_m, ut_m⟩ := u_9
  dsimp only at hw hB
  obtain ⟨hP1, -, hD1⟩ := hB
  rw [ht] at hP1
  obtain ⟨hP, hD⟩ := va_join (wr := [(a 0, .inr (3, [.ref (a 1), .ref (a 4), .ref (a 8), .ref (a 13), .ref (a 18), .ref (a 19), .int (nI rc), .ref (a 20), .ref (a 21), .ref (a 22), .ref (a 23), .int ex, .int tc, .int es, .long wy]))] ++ wK (a 1) (a 2) (a 3) cI nk pa fa ++ wC (a 4) (a 5) (a 6) (a 7) cI nc fo th tg ++ wT (a 8) (a 9) (a 10) (a 11) (a 12) cI nt tb te tk tt ++ [(a 18, .inl (cZ, 48, .inl re)), (a 19, .inl (cI, 48, .inl ro)), (a 20, .inl (cI, 24, .inl fu)), (a 21, .inl (cI, 24, .inl bl)), (a 22, .inl (cI, 384, .inl go)), (a 23, .inl (cI, 49, .inl ra))]) (w1 := wT (a 13) (a 14) (a 15) (a 16) (a 17) cI (nt - 1) ub_m ue_m uk_m ut_m) hP hD [13, 14, 15, 16, 17] [0, 1, 2, 3, 4, 5, 6, 7, 8, 9, 10, 11, 12, 18, 19, 20, 21, 22, 23] rfl rfl (by decide) (by decide) hk1 hFc hP1 hD1
  generalize H1 = H at hP hS ⊢
  have hP := hP.sub (ws' := w3 a cI cZ nk pa fa nc fo th tg nt tb te tk tt (nt - 1) ub_m ue_m uk_m ut_m re ro fu bl go ra rc ex tc es wy) [0, 1, 2, 3, 4, 5, 6, 7, 8, 9, 10, 11, 12, 19, 20, 21, 22, 23, 13, 14, 15, 16, 17, 18] rfl
  have hD := hD.sub (ws' := w3 a cI cZ nk pa fa nc fo th tg nt tb te tk tt (nt - 1) ub_m ue_m uk_m ut_m re ro fu bl go ra rc ex tc es wy) [0, 1, 2, 3, 4, 5, 6, 7, 8, 9, 10, 11, 12, 19, 20, 21, 22, 23, 13, 14, 15, 16, 17, 18] (by decide) rfl
  have hP : va_P (dC, dI) vwCl (w3 a cI cZ nk pa fa nc fo th tg nt tb te tk tt (nt - 1) ub_m ue_m uk_m ut_m re ro fu bl go ra rc ex tc es wy) H := hP
  have hD : va_D A (w3 a cI cZ nk pa fa nc fo th tg nt tb te tk tt (nt - 1) ub_m ue_m uk_m ut_m re ro fu bl go ra rc ex tc es wy) := hD
  have hTj : rT (nt - 1) ub_m ue_m uk_m ut_m (jT T up nk x1 x2) := hw
  refine lv_aload_n hx hb dX3_joinInPlaceOf_113 rfl (lv_at hl 0 rfl) ?_
  refine va_calli (va_runV (As := []) (rest := []) ⟨hx, hb, hml, hown, hts⟩ (c_X3_trialKeepsGoals l dC dI cI cZ cJ a nk pa fa nc fo th tg nt tb te tk tt (nt - 1) ub_m ue_m uk_m ut_m re ro fu bl go ra rc ex tc es wy up (jT T up nk x1 x2) G v (by first | assumption | omega) (by first | assumption | omega) (by omega) (by first | assumption | omega) (okT_jt hO h1 h2 hk01) (by first | assumption | omega) (by first | assumption | omega) (by first | assumption | omega)) (cwV 0 hts gX3_joinInPlaceOf_X3_trialKeepsGoals rfl rfl rfl (by decide +kernel) ⟨Nat.le_of_ble_eq_true rfl, Nat.le_of_ble_eq_true rfl⟩) ⟨zPre_blind, va_recv hK hP (ci := 3) (q0 := 0) rfl rfl, zPre_at hP hK hn⟩ rfl rfl hl.1 rfl (lv_room (Nat.le_of_ble_eq_true rfl)) dX3_joinInPlaceOf_114 ⟨Nat.le_of_ble_eq_true rfl, Nat.le_of_ble_eq_true rfl⟩) hS (fun _ _ h => h.elim) (fun _ h => h.elim) (fun r_12 u_9 t H locs ht hvm hw hB hz1 hk1 hS => ?_)
  have hP := zkeep hP hk1
  subst hw
  refine lv_if_ne (tgt := 122) hx hb dX3_joinInPlaceOf_117 (by decide) (fun c_13 => ?_) (fun c_13 => ?_)
  · skip
    have c9 : (kq v th nk nc up G T nt x1 x2) = true := zb_1.mp c_13
    refine lv_aload_n hx hb dX3_joinInPlaceOf_122 rfl (lv_at hl 0 rfl) ?_
    refine va_get (D := (dC, dI)) (ci := 3) (v := .ref (a 8)) (C := RX3) (T := TX3) (N := 15) hx hb hts (by decide +kernel) hown hK hP 0 rfl rfl 2 (by decide) (hts (.fieldLink RX3 26 "HandlerOptimizer" "table" "LHandlerOptimizer$Table;") (by decide +kernel)) (fun _ h9 => h9) rfl dX3_joinInPlaceOf_123 ?_
    refine lv_aload_n hx hb dX3_joinInPlaceOf_126 rfl (lv_at hl 0 rfl) ?_
    refine va_get (D := (dC, dI)) (ci := 3) (v := .ref (a 13)) (C := RX3) (T := TX3) (N := 15) hx hb hts (by decide +kernel) hown hK hP 0 rfl rfl 3 (by decide) (hts (.fieldLink RX3 30 "HandlerOptimizer" "trial" "LHandlerOptimizer$Table;") (by decide +kernel)) (fun _ h9 => h9) rfl dX3_joinInPlaceOf_127 ?_
    have hPc := hP.sub (ws' := wT (a 8) (a 9) (a 10) (a 11) (a 12) cI nt tb te tk tt ++ wT (a 13) (a 14) (a 15) (a 16) (a 17) cI (nt - 1) ub_m ue_m uk_m ut_m) [8, 9, 10, 11, 12, 13, 14, 15, 16, 17] rfl
    have hDc := hD.sub (ws' := wT (a 8) (a 9) (a 10) (a 11) (a 12) cI nt tb te tk tt ++ wT (a 13) (a 14) (a 15) (a 16) (a 17) cI (nt - 1) ub_m ue_m uk_m ut_m) [8, 9, 10, 11, 12, 13, 14, 15, 16, 17] (by decide) rfl
    have hFc := va_free (wc := wT (a 8) (a 9) (a 10) (a 11) (a 12) cI nt tb te tk tt ++ wT (a 13) (a 14) (a 15) (a 16) (a 17) cI (nt - 1) ub_m ue_m uk_m ut_m) hD hS hA [8, 9, 10, 11, 12, 13, 14, 15, 16, 17] rfl
    refine va_callv (va_runVN (As := [.ref (a 13)]) (rest := []) ⟨hx, hb, hml, hown, hts⟩ (c_X2_copyAll l dC dI cI cZ cJ (a 8) (a 9) (a 10) (a 11) (a 12) nt tb te tk tt (a 13) (a 14) (a 15) (a 16) (a 17) (nt - 1) ub_m ue_m uk_m ut_m (jT T up nk x1 x2) H.size (by omega) (hTj)) ⟨va_cnB 1 hts gX3_joinInPlaceOf_X2_copyAll_n269 rfl rfl rfl (hn (.methodLinkNest RX3 269 yX2_copyAll "HandlerOptimizer") (by decide +kernel)) (hts (.initialized RX2) (by decide +kernel)) (by decide +kernel) ⟨Nat.le_of_ble_eq_true rfl, Nat.le_of_ble_eq_true rfl⟩, hts (.instanceMethod yX2_copyAll) (by decide +kernel), hts (.selects RX2 yX2_copyAll yX2_copyAll) (by decide +kernel)⟩ ⟨zWr_blind, va_recv hK hPc (ci := 2) (q0 := 0) rfl rfl, zWr_at hPc hK hn (hDc.weaken (fun _ _ _ _ => trivial))⟩ rfl rfl hl.1 rfl (lv_room (Nat.le_of_ble_eq_true rfl)) dX3_joinInPlaceOf_130 ⟨Nat.le_of_ble_eq_true rfl, Nat.le_of_ble_eq_true rfl⟩) hS (fun q _ h => hFc q h) hFc (fun u_9 t H1 locs ht hvm hw hB hz1 hk1 hS => ?_)
    obtain ⟨tb_m, te_m, tk_m, tt_m⟩ := u_9
    dsimp only at hw hB
    obtain ⟨hP1, -, hD1⟩ := hB
    rw [ht] at hP1
    obtain ⟨hP, hD⟩ := va_join (wr := [(a 0, .inr (3, [.ref (a 1), .ref (a 4), .ref (a 8), .ref (a 13), .ref (a 18), .ref (a 19), .int (nI rc), .ref (a 20), .ref (a 21), .ref (a 22), .ref (a 23), .int ex, .int tc, .int es, .long wy]))] ++ wK (a 1) (a 2) (a 3) cI nk pa fa ++ wC (a 4) (a 5) (a 6) (a 7) cI nc fo th tg ++ [(a 18, .inl (cZ, 48, .inl re)), (a 19, .inl (cI, 48, .inl ro)), (a 20, .inl (cI, 24, .inl fu)), (a 21, .inl (cI, 24, .inl bl)), (a 22, .inl (cI, 384, .inl go)), (a 23, .inl (cI, 49, .inl ra))]) (w1 := wT (a 8) (a 9) (a 10) (a 11) (a 12) cI (nt - 1) tb_m te_m tk_m tt_m ++ wT (a 13) (a 14) (a 15) (a 16) (a 17) cI (nt - 1) ub_m ue_m uk_m ut_m) hP hD [8, 9, 10, 11, 12, 13, 14, 15, 16, 17] [0, 1, 2, 3, 4, 5, 6, 7, 18, 19, 20, 21, 22, 23] rfl rfl (by decide) (by decide) hk1 hFc hP1 hD1
    generalize H1 = H at hP hS ⊢
    have hP := hP.sub (ws' := w3 a cI cZ nk pa fa nc fo th tg (nt - 1) tb_m te_m tk_m tt_m (nt - 1) ub_m ue_m uk_m ut_m re ro fu bl go ra rc ex tc es wy) [0, 1, 2, 3, 4, 5, 6, 7, 14, 15, 16, 17, 18, 19, 20, 21, 22, 23, 8, 9, 10, 11, 12, 13] rfl
    have hD := hD.sub (ws' := w3 a cI cZ nk pa fa nc fo th tg (nt - 1) tb_m te_m tk_m tt_m (nt - 1) ub_m ue_m uk_m ut_m re ro fu bl go ra rc ex tc es wy) [0, 1, 2, 3, 4, 5, 6, 7, 14, 15, 16, 17, 18, 19, 20, 21, 22, 23, 8, 9, 10, 11, 12, 13] (by decide) rfl
    have hP : va_P (dC, dI) vwCl (w3 a cI cZ nk pa fa nc fo th tg (nt - 1) tb_m te_m tk_m tt_m (nt - 1) ub_m ue_m uk_m ut_m re ro fu bl go ra rc ex tc es wy) H := hP
    have hD : va_D A (w3 a cI cZ nk pa fa nc fo th tg (nt - 1) tb_m te_m tk_m tt_m (nt - 1) ub_m ue_m uk_m ut_m re ro fu bl go ra rc ex tc es wy) := hD
    have hTt := hw
    refine lv_iconst (v := 1) hx hb dX3_joinInPlaceOf_133 (by decide) ?_
    rw [← hQ]
    have hP9 := hP
    have hD9 := hD
    exact W.zret (v := 1) hx hb hr rfl (fun t ht hW => ⟨⟨1, (nt - 1, tb_m, te_m, tk_m, tt_m, nt - 1, ub_m, ue_m, uk_m, ut_m), rfl, (by rw [c9]; exact ⟨rfl, rfl, hk01, hk8, by omega, hTt, okT_jt hO h1 h2 hk01, hF, hU⟩), (by rw [ht]; exact hP9), va_K.moved hW.alike hK, hD9⟩, hS.F ht⟩) hS.2.2 dX3_joinInPlaceOf_134
  · skip
    have c9 : (kq v th nk nc up G T nt x1 x2) = false := zb_0.mp c_13
    refine lv_iconst (v := 0) hx hb dX3_joinInPlaceOf_120 (by decide) ?_
    rw [← hQ]
    have hP9 := hP
    have hD9 := hD
    exact W.zret (v := 0) hx hb hr rfl (fun t ht hW => ⟨⟨0, (nt, tb, te, tk, tt, nt - 1, ub_m, ue_m, uk_m, ut_m), rfl, (by rw [c9]; exact ⟨rfl, rfl, hg⟩), (by rw [ht]; exact hP9), va_K.moved hW.alike hK, hD9⟩, hS.F ht⟩) hS.2.2 dX3_joinInPlaceOf_121

set_option maxHeartbeats 4000000 in
set_option maxRecDepth 100000 in
theorem c_X3_joinFirstPair (l : Launch) (dC : Nat → ClassId) (dI : Nat → Nat → Nat) (cI cZ cJ : ClassId) (a : Nat → Nat) (nk : Nat) (pa : Nat → Int32) (fa : Nat → Int32) (nc : Nat) (fo : Nat → Int32) (th : Nat → Int32) (tg : Nat → Int32) (nt : Nat) (tb : Nat → Int32) (te : Nat → Int32) (tk : Nat → Int32) (tt : Nat → Int32) (nu : Nat) (ub : Nat → Int32) (ue : Nat → Int32) (uk : Nat → Int32) (ut : Nat → Int32) (re : Nat → Int32) (ro : Nat → Int32) (fu : Nat → Int32) (bl : Nat → Int32) (go : Nat → Int32) (ra : Nat → Int32) (rc : Nat) (ex : Int32) (tc : Int32) (es : Int32) (wy : Int64) (T : Nat → Nat → Nat) (up : Nat → Nat → Bool) (G : Nat → Nat → Int32) (v : Nat → Bool) (sz : Nat) (hg : g3 nk fa up nt tb te tk tt T) (hc : okC nk nc fo th tg) (hre : ∀ j, j < 48 → re j = bI (v j)) (hgo : gO nc nk go G) : Met l yX3_joinFirstPair wsX3_joinFirstPair ({ frames := 4, cells := 0, slots := 0, locals := 93 } : Room) (va_Pc [.ref (a 0)] (zWr (dC, dI) [(cI, .int), (cZ, .boolean), (cJ, .long)] (w3 a cI cZ nk pa fa nc fo th tg nt tb te tk tt nu ub ue uk ut re ro fu bl go ra rc ex tc es wy) sz)) (va_Qi (fun (r : Int32) (u : Nat × (Nat → Int32) × (Nat → Int32) × (Nat → Int32) × (Nat → Int32) × Nat × (Nat → Int32) × (Nat → Int32) × (Nat → Int32) × (Nat → Int32)) => match u with | (nt9, tb9, te9, tk9, tt9, nu9, ub9, ue9, uk9, ut9) => r = bI (jN v th nk nc up G (T, nt)).isSome ∧ ∃ D, ((jN v th nk nc up G (T, nt)).getD (T, nt)) = (D, nt9) ∧ g3 nk fa up nt9 tb9 te9 tk9 tt9 D) (fun u t => match u with | (nt9, tb9, te9, tk9, tt9, nu9, ub9, ue9, uk9, ut9) => zWo (dC, dI) [(cI, .int), (cZ, .boolean), (cJ, .long)] (w3 a cI cZ nk pa fa nc fo th tg nt9 tb9 te9 tk9 tt9 nu9 ub9 ue9 uk9 ut9 re ro fu bl go ra rc ex tc es wy) (va_A (w3 a cI cZ nk pa fa nc fo th tg nt tb te tk tt nu ub ue uk ut re ro fu bl go ra rc ex tc es wy) sz) t) (va_A (w3 a cI cZ nk pa fa nc fo th tg nt tb te tk tt nu ub ue uk ut re ro fu bl go ra rc ex tc es wy) sz)) 0 0 (va_A (w3 a cI cZ nk pa fa nc fo th tg nt tb te tk tt nu ub ue uk ut re ro fu bl go ra rc ex tc es wy) sz) := by
  refine Met.ofW (cc := cX3_joinFirstPair) (maxL := 3) (ret := (some .boolean)) (by decide) rfl ?_
  intro p e s m args below meth c s₁ B hml hv
  obtain ⟨hav, hsz, ⟨hP, hK, hn⟩, hD0⟩ := hv
  have hx := B.exec
  have hb := B.bytes
  have hr := B.returns
  have hts := atoms_spec (ws := wsX3_joinFirstPair) B.pre
  have hown : s.vm.findClass RX3 = some m.cls := findClass_of_methodNamed B.named
  have hlocks := B.notSynchronized
  subst hsz
  have hD := hD0.self (sz := s.heap.size)
  generalize hAe : (va_A (w3 a cI cZ nk pa fa nc fo th tg nt tb te tk tt nu ub ue uk ut re ro fu bl go ra rc ex tc es wy) s.heap.size) = A at hD ⊢
  have hA : ∀ q : Nat, s.heap.size ≤ q → A q := fun q h => by rw [← hAe]; exact Or.inr h
  have hS : va_S A s.heap s.heap [] := va_S.rf
  generalize hQ : MQ below (va_Qi (fun (r : Int32) (u : Nat × (Nat → Int32) × (Nat → Int32) × (Nat → Int32) × (Nat → Int32) × Nat × (Nat → Int32) × (Nat → Int32) × (Nat → Int32) × (Nat → Int32)) => match u with | (nt9, tb9, te9, tk9, tt9, nu9, ub9, ue9, uk9, ut9) => r = bI (jN v th nk nc up G (T, nt)).isSome ∧ ∃ D, ((jN v th nk nc up G (T, nt)).getD (T, nt)) = (D, nt9) ∧ g3 nk fa up nt9 tb9 te9 tk9 tt9 D) (fun u t => match u with | (nt9, tb9, te9, tk9, tt9, nu9, ub9, ue9, uk9, ut9) => zWo (dC, dI) [(cI, .int), (cZ, .boolean), (cJ, .long)] (w3 a cI cZ nk pa fa nc fo th tg nt9 tb9 te9 tk9 tt9 nu9 ub9 ue9 uk9 ut9 re ro fu bl go ra rc ex tc es wy) A t) A) args s 0 0 A = Q
  refine W.eq (g2 := entryFrame m ([.ref (a 0)] : List Value).toArray 3) (by rw [hav]) ?_
  have hl := lv_entry ([.ref (a 0)]) (n := 3) (Nat.le_of_ble_eq_true rfl)
  rw [lg_entry_eq]
  generalize (lg_sl ([.ref (a 0)]) ++ List.replicate (3 - (lg_sl ([.ref (a 0)])).length) Slot.unset).toArray = ls at hl ⊢
  have hl : lv_has ls 3 [(0, .ref (a 0))] := hl
  obtain ⟨H, hH⟩ : ∃ H, H = s.heap := ⟨_, rfl⟩
  obtain ⟨locs, hlo⟩ : ∃ q : List Loc, q = [] := ⟨_, rfl⟩
  have hP : va_P (dC, dI) vwCl (w3 a cI cZ nk pa fa nc fo th tg nt tb te tk tt nu ub ue uk ut re ro fu bl go ra rc ex tc es wy) H := by rw [hH]; exact hP
  have hS : va_S A s.heap H locs := by rw [hH, hlo]; exact hS
  refine zz_hl hH hlo ?_
  obtain ⟨hk01, hk8, hnt, hT, hO, hF, hU⟩ := id hg
  obtain ⟨hnc, hC⟩ := id hc
  refine lv_iconst (v := 0) hx hb dX3_joinFirstPair_0 (by decide) ?_
  refine lv_istore_n (lv' := [(1, .int 0), (0, .ref (a 0))]) hx hb dX3_joinFirstPair_1 rfl hl (by decide) rfl (fun ls hl => ?_)
  have J_2 : ∀ (n9 : Nat) (y : Nat) (gb : Nat → Int32) (ge : Nat → Int32) (gk : Nat → Int32) (gt : Nat → Int32) (gn : Nat) (hb1 : Nat → Int32) (he1 : Nat → Int32) (hk9 : Nat → Int32) (ht1 : Nat → Int32) (H : Heap) (locs : List Loc) (ls : Array Slot), (y ≤ nt) → (g3 nk fa up nt gb ge gk gt T) → (∀ m, m < y * 24 → pj v th nk nc up G T nt m = false) → nt - y < n9 → va_P (dC, dI) vwCl (w3 a cI cZ nk pa fa nc fo th tg nt gb ge gk gt gn hb1 he1 hk9 ht1 re ro fu bl go ra rc ex tc es wy) H → va_D A (w3 a cI cZ nk pa fa nc fo th tg nt gb ge gk gt gn hb1 he1 hk9 ht1 re ro fu bl go ra rc ex tc es wy) → va_S A s.heap H locs → lv_has ls 3 [(0, .ref (a 0)), (1, .int (nI y))] → W p l e (headSpec wsX3_joinFirstPair ({ frames := 4, cells := 0, slots := 0, locals := 93 } : Room)).room s m args below meth c H locs 0 0 Q (F0 m 2 ls []) := by
    intro n9
    induction n9 with
    | zero => intro y gb ge gk gt gn hb1 he1 hk9 ht1 H locs ls hy hgg hp9 hmu; exact absurd hmu (Nat.not_lt_zero _)
    | succ n9 ih_2 =>
      intro y gb ge gk gt gn hb1 he1 hk9 ht1 H locs ls hy hgg hp9 hmu hP hD hS hl
      refine lv_iload_n hx hb dX3_joinFirstPair_2 rfl (lv_at hl 1 rfl) ?_
      refine lv_aload_n hx hb dX3_joinFirstPair_3 rfl (lv_at hl 0 rfl) ?_
      refine va_get (D := (dC, dI)) (ci := 3) (v := .ref (a 8)) (C := RX3) (T := TX3) (N := 15) hx hb hts (by decide +kernel) hown hK hP 0 rfl rfl 2 (by decide) (hts (.fieldLink RX3 26 "HandlerOptimizer" "table" "LHandlerOptimizer$Table;") (by decide +kernel)) (fun _ h9 => h9) rfl dX3_joinFirstPair_4 ?_
      refine va_getN (D := (dC, dI)) (ci := 2) (v := .int (nI nt)) (C := RX2) (T := TX2) (N := 5) hx hb hts (by decide +kernel) hown hK hP 8 rfl rfl 4 (by decide) (va_Nw.use rfl (hn (.fieldLinkNest RX3 134 "HandlerOptimizer$Table" "count" "I" "HandlerOptimizer") (by decide +kernel))) (fun _ h9 => h9) rfl dX3_joinFirstPair_7 ?_
      refine lv_icmp_ge (tgt := 81) hx hb dX3_joinFirstPair_10 (by decide) (fun c_1 => ?_) (fun c_1 => ?_)
      · skip
        have c_1 := (zz_get (a := y) (b := nt) (by omega) (by omega)).mp c_1
        refine lv_iconst (v := 0) hx hb dX3_joinFirstPair_81 (by decide) ?_
        rw [← hQ]
        have hP9 := hP
        have hD9 := hD
        exact W.zret (v := 0) hx hb hr rfl (fun t ht hW => ⟨⟨0, (nt, gb, ge, gk, gt, gn, hb1, he1, hk9, ht1), rfl, (by rw [jN_none (v := v) (th := th) (nc := nc) (G := G) (fun m hm => hp9 m (by omega))]; exact ⟨rfl, T, rfl, hgg⟩), (by rw [ht]; exact hP9), va_K.moved hW.alike hK, hD9⟩, hS.F ht⟩) hS.2.2 dX3_joinFirstPair_82
      · skip
        have c_1 := (zz_gef (a := y) (b := nt) (by omega) (by omega)).mp c_1
        refine lv_iload_n hx hb dX3_joinFirstPair_13 rfl (lv_at hl 1 rfl) ?_
        refine lv_iconst (v := 1) hx hb dX3_joinFirstPair_14 (by decide) ?_
        refine lv_iadd hx hb dX3_joinFirstPair_15 ?_
        refine zz_top (y := nI (y + 1)) (nI_add _ _) ?_
        refine lv_istore_n (lv' := [(2, .int (nI (y + 1))), (0, .ref (a 0)), (1, .int (nI y))]) hx hb dX3_joinFirstPair_16 rfl hl (by decide) rfl (fun ls hl => ?_)
        have J_17 : ∀ (n9 : Nat) (z : Nat) (gb2 : Nat → Int32) (ge2 : Nat → Int32) (gk2 : Nat → Int32) (gt2 : Nat → Int32) (gn2 : Nat) (hb12 : Nat → Int32) (he12 : Nat → Int32) (hk92 : Nat → Int32) (ht12 : Nat → Int32) (H : Heap) (locs : List Loc) (ls : Array Slot), (y < z) → (z ≤ nt) → (g3 nk fa up nt gb2 ge2 gk2 gt2 T) → (∀ m, m < y * 24 + z → pj v th nk nc up G T nt m = false) → nt - z < n9 → va_P (dC, dI) vwCl (w3 a cI cZ nk pa fa nc fo th tg nt gb2 ge2 gk2 gt2 gn2 hb12 he12 hk92 ht12 re ro fu bl go ra rc ex tc es wy) H → va_D A (w3 a cI cZ nk pa fa nc fo th tg nt gb2 ge2 gk2 gt2 gn2 hb12 he12 hk92 ht12 re ro fu bl go ra rc ex tc es wy) → va_S A s.heap H locs → lv_has ls 3 [(0, .ref (a 0)), (1, .int (nI y)), (2, .int (nI z))] → W p l e (headSpec wsX3_joinFirstPair ({ frames := 4, cells := 0, slots := 0, locals := 93 } : Room)).room s m args below meth c H locs 0 0 Q (F0 m 17 ls []) := by
          intro n9
          induction n9 with
          | zero => intro z gb2 ge2 gk2 gt2 gn2 hb12 he12 hk92 ht12 H locs ls hz hz2 hgg2 hp8 hmu; exact absurd hmu (Nat.not_lt_zero _)
          | succ n9 ih_17 =>
            intro z gb2 ge2 gk2 gt2 gn2 hb12 he12 hk92 ht12 H locs ls hz hz2 hgg2 hp8 hmu hP hD hS hl
            refine lv_iload_n hx hb dX3_joinFirstPair_17 rfl (lv_at hl 2 rfl) ?_
            refine lv_aload_n hx hb dX3_joinFirstPair_18 rfl (lv_at hl 0 rfl) ?_
            refine va_get (D := (dC, dI)) (ci := 3) (v := .ref (a 8)) (C := RX3) (T := TX3) (N := 15) hx hb hts (by decide +kernel) hown hK hP 0 rfl rfl 2 (by decide) (hts (.fieldLink RX3 26 "HandlerOptimizer" "table" "LHandlerOptimizer$Table;") (by decide +kernel)) (fun _ h9 => h9) rfl dX3_joinFirstPair_19 ?_
            refine va_getN (D := (dC, dI)) (ci := 2) (v := .int (nI nt)) (C := RX2) (T := TX2) (N := 5) hx hb hts (by decide +kernel) hown hK hP 8 rfl rfl 4 (by decide) (va_Nw.use rfl (hn (.fieldLinkNest RX3 134 "HandlerOptimizer$Table" "count" "I" "HandlerOptimizer") (by decide +kernel))) (fun _ h9 => h9) rfl dX3_joinFirstPair_22 ?_
            refine lv_icmp_ge (tgt := 75) hx hb dX3_joinFirstPair_25 (by decide) (fun c_2 => ?_) (fun c_2 => ?_)
            · skip
              have c_2 := (zz_get (a := z) (b := nt) (by omega) (by omega)).mp c_2
              refine lv_iinc (v := nI (y + 1)) (lv' := [(1, .int (nI (y + 1))), (0, .ref (a 0)), (2, .int (nI z))]) hx hb dX3_joinFirstPair_75 hl (k := 1) rfl (zz_inc y 1) (by decide) rfl (fun ls hl => ?_)
              refine lv_goto (tgt := 2) hx hb dX3_joinFirstPair_78 (by decide) ?_
              exact ih_2 (y + 1) gb2 ge2 gk2 gt2 gn2 hb12 he12 hk92 ht12 _ _ _ (by first | assumption | omega) hgg2 (fun m hm => by
                  by_cases d : m < y * 24 + z
                  · exact hp8 m d
                  · have e1 : m = y * 24 + (m - y * 24) := by omega
                    rw [e1, pj_at (by omega), decide_eq_false (p := m - y * 24 < nt) (by omega)]; simp) (by omega) hP hD hS (lv_sub hl [1, 0] rfl)
            · skip
              have c_2 := (zz_gef (a := z) (b := nt) (by omega) (by omega)).mp c_2
              obtain ⟨-, -, -, hTg, -, -, -⟩ := id hgg2
              obtain ⟨-, -, -, oz⟩ := hO z (by omega)
              obtain ⟨-, -, -, oy⟩ := hO y (by omega)
              refine lv_aload_n hx hb dX3_joinFirstPair_28 rfl (lv_at hl 0 rfl) ?_
              refine va_get (D := (dC, dI)) (ci := 3) (v := .ref (a 8)) (C := RX3) (T := TX3) (N := 15) hx hb hts (by decide +kernel) hown hK hP 0 rfl rfl 2 (by decide) (hts (.fieldLink RX3 26 "HandlerOptimizer" "table" "LHandlerOptimizer$Table;") (by decide +kernel)) (fun _ h9 => h9) rfl dX3_joinFirstPair_29 ?_
              refine va_getN (D := (dC, dI)) (ci := 2) (v := .ref (a 12)) (C := RX2) (T := TX2) (N := 5) hx hb hts (by decide +kernel) hown hK hP 8 rfl rfl 3 (by decide) (va_Nw.use rfl (hn (.fieldLinkNest RX3 143 "HandlerOptimizer$Table" "targets" "[I" "HandlerOptimizer") (by decide +kernel))) (fun _ h9 => h9) rfl dX3_joinFirstPair_32 ?_
              refine lv_iload_n hx hb dX3_joinFirstPair_35 rfl (lv_at hl 1 rfl) ?_
              refine va_iald hx hb hK hP 12 0 rfl rfl (vp_in_nI (n := y) (by omega) (by decide)) dX3_joinFirstPair_36 ?_
              refine zz_top (y := gt2 y) (congrArg _ (nI_clamp (by omega))) ?_
              refine zz_top (y := nI (T 3 y)) ((hTg y (by omega)).2.2.2) ?_
              refine lv_aload_n hx hb dX3_joinFirstPair_37 rfl (lv_at hl 0 rfl) ?_
              refine va_get (D := (dC, dI)) (ci := 3) (v := .ref (a 8)) (C := RX3) (T := TX3) (N := 15) hx hb hts (by decide +kernel) hown hK hP 0 rfl rfl 2 (by decide) (hts (.fieldLink RX3 26 "HandlerOptimizer" "table" "LHandlerOptimizer$Table;") (by decide +kernel)) (fun _ h9 => h9) rfl dX3_joinFirstPair_38 ?_
              refine va_getN (D := (dC, dI)) (ci := 2) (v := .ref (a 12)) (C := RX2) (T := TX2) (N := 5) hx hb hts (by decide +kernel) hown hK hP 8 rfl rfl 3 (by decide) (va_Nw.use rfl (hn (.fieldLinkNest RX3 143 "HandlerOptimizer$Table" "targets" "[I" "HandlerOptimizer") (by decide +kernel))) (fun _ h9 => h9) rfl dX3_joinFirstPair_41 ?_
              refine lv_iload_n hx hb dX3_joinFirstPair_44 rfl (lv_at hl 2 rfl) ?_
              refine va_iald hx hb hK hP 12 0 rfl rfl (vp_in_nI (n := z) (by omega) (by decide)) dX3_joinFirstPair_45 ?_
              refine zz_top (y := gt2 z) (congrArg _ (nI_clamp (by omega))) ?_
              refine zz_top (y := nI (T 3 z)) ((hTg z (by omega)).2.2.2) ?_
              refine lv_icmp_ne (tgt := 69) hx hb dX3_joinFirstPair_46 (by decide) (fun c_3 => ?_) (fun c_3 => ?_)
              · skip
                have c7 := (zz_net (a := T 3 y) (b := T 3 z) (by omega) (by omega)).mp c_3
                have hg9 := hgg2
                have hpf : (decide (y < z) && decide (z < nt) && decide (T 3 y = T 3 z) && ((kq v th nk nc up G T nt y z) || (kq v th nk nc up G T nt z y))) = false := by rw [decide_eq_false c7]; simp
                refine lv_iinc (v := nI (z + 1)) (lv' := [(2, .int (nI (z + 1))), (0, .ref (a 0)), (1, .int (nI y))]) hx hb dX3_joinFirstPair_69 hl (k := 2) rfl (zz_inc z 1) (by decide) rfl (fun ls hl => ?_)
                refine lv_goto (tgt := 17) hx hb dX3_joinFirstPair_72 (by decide) ?_
                exact ih_17 (z + 1) gb2 ge2 gk2 gt2 gn2 hb12 he12 hk92 ht12 _ _ _ (by first | assumption | omega) (by first | assumption | omega) hg9 (fun m hm => by
                    by_cases d : m < y * 24 + z
                    · exact hp8 m d
                    · have e1 : m = y * 24 + z := by omega
                      rw [e1, pj_at (by omega)]; exact hpf) (by omega) hP hD hS (lv_sub hl [1, 2, 0] rfl)
              · skip
                have c7 := (zz_nef (a := T 3 y) (b := T 3 z) (by omega) (by omega)).mp c_3
                refine lv_aload_n hx hb dX3_joinFirstPair_49 rfl (lv_at hl 0 rfl) ?_
                refine lv_iload_n hx hb dX3_joinFirstPair_50 rfl (lv_at hl 1 rfl) ?_
                refine lv_iload_n hx hb dX3_joinFirstPair_51 rfl (lv_at hl 2 rfl) ?_
                have hDc := hD
                have hFc := va_free (wc := w3 a cI cZ nk pa fa nc fo th tg nt gb2 ge2 gk2 gt2 gn2 hb12 he12 hk92 ht12 re ro fu bl go ra rc ex tc es wy) hD hS hA [0, 1, 2, 3, 4, 5, 6, 7, 8, 9, 10, 11, 12, 13, 14, 15, 16, 17, 18, 19, 20, 21, 22, 23] rfl
                refine va_calli (va_runV (As := [.int (nI y), .int (nI z)]) (rest := []) ⟨hx, hb, hml, hown, hts⟩ (c_X3_joinInPlaceOf l dC dI cI cZ cJ a nk pa fa nc fo th tg nt gb2 ge2 gk2 gt2 gn2 hb12 he12 hk92 ht12 re ro fu bl go ra rc ex tc es wy y z T up G v H.size (hgg2) (by first | assumption | omega) (by omega) (by omega) (by first | assumption | omega) (by first | assumption | omega)) (cwV 2 hts gX3_joinFirstPair_X3_joinInPlaceOf rfl rfl rfl (by decide +kernel) ⟨Nat.le_of_ble_eq_true rfl, Nat.le_of_ble_eq_true rfl⟩) ⟨zWr_blind, va_recv hK hP (ci := 3) (q0 := 0) rfl rfl, zWr_at hP hK hn (hDc.weaken (fun _ _ _ _ => trivial))⟩ rfl rfl hl.1 rfl (lv_room (Nat.le_of_ble_eq_true rfl)) dX3_joinFirstPair_52 ⟨Nat.le_of_ble_eq_true rfl, Nat.le_of_ble_eq_true rfl⟩) hS (fun q _ h => hFc q h) hFc (fun r_4 u_9 t H1 locs ht hvm hw hB hz1 hk1 hS => ?_)
                obtain ⟨nt_n, tb_n, te_n, tk_n, tt_n, nu_n, ub_n, ue_n, uk_n, ut_n⟩ := u_9
                dsimp only at hw hB
                obtain ⟨hP1, -, hD1⟩ := hB
                rw [ht] at hP1
                obtain ⟨hP, hD⟩ := va_join (wr := []) (w1 := w3 a cI cZ nk pa fa nc fo th tg nt_n tb_n te_n tk_n tt_n nu_n ub_n ue_n uk_n ut_n re ro fu bl go ra rc ex tc es wy) hP hD [0, 1, 2, 3, 4, 5, 6, 7, 8, 9, 10, 11, 12, 13, 14, 15, 16, 17, 18, 19, 20, 21, 22, 23] [] rfl rfl (by decide) (by decide) hk1 hFc hP1 hD1
                generalize H1 = H at hP hS ⊢
                have hP : va_P (dC, dI) vwCl (w3 a cI cZ nk pa fa nc fo th tg nt_n tb_n te_n tk_n tt_n nu_n ub_n ue_n uk_n ut_n re ro fu bl go ra rc ex tc es wy) H := hP
                have hD : va_D A (w3 a cI cZ nk pa fa nc fo th tg nt_n tb_n te_n tk_n tt_n nu_n ub_n ue_n uk_n ut_n re ro fu bl go ra rc ex tc es wy) := hD
                obtain ⟨hw0, hw⟩ := hw
                subst hw0
                refine lv_if_ne (tgt := 67) hx hb dX3_joinFirstPair_55 (by decide) (fun c_15 => ?_) (fun c_15 => ?_)
                · skip
                  have c9 : (kq v th nk nc up G T nt y z) = true := zb_1.mp c_15
                  obtain ⟨hw1, hw2⟩ := hw
                  rw [if_pos c9] at hw1 hw2
                  have hJ := jN_some (v := v) (th := th) (nc := nc) (G := G) (by omega) hnt hz c7 (by rw [c9]; rfl) hp8
                  rw [if_pos c9] at hJ
                  refine lv_iconst (v := 1) hx hb dX3_joinFirstPair_67 (by decide) ?_
                  rw [← hQ]
                  have hP9 := hP
                  have hD9 := hD
                  exact W.zret (v := 1) hx hb hr rfl (fun t ht hW => ⟨⟨1, (nt_n, tb_n, te_n, tk_n, tt_n, nu_n, ub_n, ue_n, uk_n, ut_n), rfl, (by rw [hJ]; exact ⟨rfl, _, by rw [hw1]; rfl, hw2⟩), (by rw [ht]; exact hP9), va_K.moved hW.alike hK, hD9⟩, hS.F ht⟩) hS.2.2 dX3_joinFirstPair_68
                · skip
                  have c9 : (kq v th nk nc up G T nt y z) = false := zb_0.mp c_15
                  obtain ⟨hw1, hw2⟩ := hw
                  rw [if_neg (by rw [c9]; exact Bool.false_ne_true)] at hw1 hw2
                  have hw0 := hw1.symm
                  subst hw0
                  have hg9 := hw2
                  refine lv_aload_n hx hb dX3_joinFirstPair_58 rfl (lv_at hl 0 rfl) ?_
                  refine lv_iload_n hx hb dX3_joinFirstPair_59 rfl (lv_at hl 2 rfl) ?_
                  refine lv_iload_n hx hb dX3_joinFirstPair_60 rfl (lv_at hl 1 rfl) ?_
                  have hDc := hD
                  have hFc := va_free (wc := w3 a cI cZ nk pa fa nc fo th tg nt tb_n te_n tk_n tt_n nu_n ub_n ue_n uk_n ut_n re ro fu bl go ra rc ex tc es wy) hD hS hA [0, 1, 2, 3, 4, 5, 6, 7, 8, 9, 10, 11, 12, 13, 14, 15, 16, 17, 18, 19, 20, 21, 22, 23] rfl
                  refine va_calli (va_runV (As := [.int (nI z), .int (nI y)]) (rest := []) ⟨hx, hb, hml, hown, hts⟩ (c_X3_joinInPlaceOf l dC dI cI cZ cJ a nk pa fa nc fo th tg nt tb_n te_n tk_n tt_n nu_n ub_n ue_n uk_n ut_n re ro fu bl go ra rc ex tc es wy z y T up G v H.size (hg9) (by first | assumption | omega) (by omega) (by omega) (by first | assumption | omega) (by first | assumption | omega)) (cwV 2 hts gX3_joinFirstPair_X3_joinInPlaceOf rfl rfl rfl (by decide +kernel) ⟨Nat.le_of_ble_eq_true rfl, Nat.le_of_ble_eq_true rfl⟩) ⟨zWr_blind, va_recv hK hP (ci := 3) (q0 := 0) rfl rfl, zWr_at hP hK hn (hDc.weaken (fun _ _ _ _ => trivial))⟩ rfl rfl hl.1 rfl (lv_room (Nat.le_of_ble_eq_true rfl)) dX3_joinFirstPair_61 ⟨Nat.le_of_ble_eq_true rfl, Nat.le_of_ble_eq_true rfl⟩) hS (fun q _ h => hFc q h) hFc (fun r_16 u_9 t H1 locs ht hvm hw hB hz1 hk1 hS => ?_)
                  obtain ⟨nt_n, tb_n, te_n, tk_n, tt_n, nu_n, ub_n, ue_n, uk_n, ut_n⟩ := u_9
                  dsimp only at hw hB
                  obtain ⟨hP1, -, hD1⟩ := hB
                  rw [ht] at hP1
                  obtain ⟨hP, hD⟩ := va_join (wr := []) (w1 := w3 a cI cZ nk pa fa nc fo th tg nt_n tb_n te_n tk_n tt_n nu_n ub_n ue_n uk_n ut_n re ro fu bl go ra rc ex tc es wy) hP hD [0, 1, 2, 3, 4, 5, 6, 7, 8, 9, 10, 11, 12, 13, 14, 15, 16, 17, 18, 19, 20, 21, 22, 23] [] rfl rfl (by decide) (by decide) hk1 hFc hP1 hD1
                  generalize H1 = H at hP hS ⊢
                  have hP : va_P (dC, dI) vwCl (w3 a cI cZ nk pa fa nc fo th tg nt_n tb_n te_n tk_n tt_n nu_n ub_n ue_n uk_n ut_n re ro fu bl go ra rc ex tc es wy) H := hP
                  have hD : va_D A (w3 a cI cZ nk pa fa nc fo th tg nt_n tb_n te_n tk_n tt_n nu_n ub_n ue_n uk_n ut_n re ro fu bl go ra rc ex tc es wy) := hD
                  obtain ⟨hw0, hw⟩ := hw
                  subst hw0
                  refine lv_if_eq (tgt := 69) hx hb dX3_joinFirstPair_64 (by decide) (fun c_27 => ?_) (fun c_27 => ?_)
                  · skip
                    have c8 : (kq v th nk nc up G T nt z y) = false := zb_0.mp c_27
                    obtain ⟨hw1, hw2⟩ := hw
                    rw [if_neg (by rw [c8]; exact Bool.false_ne_true)] at hw1 hw2
                    have hw0 := hw1.symm
                    subst hw0
                    have hg9 := hw2
                    have hpf : (decide (y < z) && decide (z < nt) && decide (T 3 y = T 3 z) && ((kq v th nk nc up G T nt y z) || (kq v th nk nc up G T nt z y))) = false := by rw [c9, c8]; simp
                    refine lv_iinc (v := nI (z + 1)) (lv' := [(2, .int (nI (z + 1))), (0, .ref (a 0)), (1, .int (nI y))]) hx hb dX3_joinFirstPair_69 hl (k := 2) rfl (zz_inc z 1) (by decide) rfl (fun ls hl => ?_)
                    refine lv_goto (tgt := 17) hx hb dX3_joinFirstPair_72 (by decide) ?_
                    exact ih_17 (z + 1) tb_n te_n tk_n tt_n nu_n ub_n ue_n uk_n ut_n _ _ _ (by first | assumption | omega) (by first | assumption | omega) hg9 (fun m hm => by
                        by_cases d : m < y * 24 + z
                        · exact hp8 m d
                        · have e1 : m = y * 24 + z := by omega
                          rw [e1, pj_at (by omega)]; exact hpf) (by omega) hP hD hS (lv_sub hl [1, 2, 0] rfl)
                  · skip
                    have c8 : (kq v th nk nc up G T nt z y) = true := zb_1.mp c_27
                    obtain ⟨hw1, hw2⟩ := hw
                    rw [if_pos c8] at hw1 hw2
                    have hJ := jN_some (v := v) (th := th) (nc := nc) (G := G) (by omega) hnt hz c7 (by rw [c8]; simp) hp8
                    rw [if_neg (by rw [c9]; exact Bool.false_ne_true)] at hJ
                    refine lv_iconst (v := 1) hx hb dX3_joinFirstPair_67 (by decide) ?_
                    rw [← hQ]
                    have hP9 := hP
                    have hD9 := hD
                    exact W.zret (v := 1) hx hb hr rfl (fun t ht hW => ⟨⟨1, (nt_n, tb_n, te_n, tk_n, tt_n, nu_n, ub_n, ue_n, uk_n, ut_n), rfl, (by rw [hJ]; exact ⟨rfl, _, by rw [hw1]; rfl, hw2⟩), (by rw [ht]; exact hP9), va_K.moved hW.alike hK, hD9⟩, hS.F ht⟩) hS.2.2 dX3_joinFirstPair_68
        exact J_17 _ (y + 1) gb ge gk gt gn hb1 he1 hk9 ht1 _ _ _ (by first | assumption | omega) (by first | assumption | omega) hgg (fun m hm => by
            by_cases d : m < y * 24
            · exact hp9 m d
            · have e1 : m = y * 24 + (m - y * 24) := by omega
              rw [e1, pj_at (by omega), decide_eq_false (p := y < m - y * 24) (by omega)]; simp) (Nat.lt_succ_self _) hP hD hS (lv_sub hl [1, 2, 0] rfl)
  exact J_2 _ 0 tb te tk tt nu ub ue uk ut _ _ _ (by first | assumption | omega) hg (fun m hm => absurd hm (by omega)) (Nat.lt_succ_self _) hP hD hS (lv_sub hl [1, 0] rfl)

set_option maxHeartbeats 4000000 in
set_option maxRecDepth 100000 in
theorem c_X3_join (l : Launch) (dC : Nat → ClassId) (dI : Nat → Nat → Nat) (cI cZ cJ : ClassId) (a : Nat → Nat) (nk : Nat) (pa : Nat → Int32) (fa : Nat → Int32) (nc : Nat) (fo : Nat → Int32) (th : Nat → Int32) (tg : Nat → Int32) (nt : Nat) (tb : Nat → Int32) (te : Nat → Int32) (tk : Nat → Int32) (tt : Nat → Int32) (nu : Nat) (ub : Nat → Int32) (ue : Nat → Int32) (uk : Nat → Int32) (ut : Nat → Int32) (re : Nat → Int32) (ro : Nat → Int32) (fu : Nat → Int32) (bl : Nat → Int32) (go : Nat → Int32) (ra : Nat → Int32) (rc : Nat) (ex : Int32) (tc : Int32) (es : Int32) (wy : Int64) (T : Nat → Nat → Nat) (up : Nat → Nat → Bool) (sz : Nat) (hg : g3 nk fa up nt tb te tk tt T) (hc : okC nk nc fo th tg) : Met l yX3_join wsX3_join ({ frames := 5, cells := 0, slots := 0, locals := 115 } : Room) (va_Pc [.ref (a 0)] (zWr (dC, dI) [(cI, .int), (cZ, .boolean), (cJ, .long)] (w3 a cI cZ nk pa fa nc fo th tg nt tb te tk tt nu ub ue uk ut re ro fu bl go ra rc ex tc es wy) sz)) (va_Qi (fun (r : Int32) (u : (Nat → Int32) × (Nat → Int32) × Nat × (Nat → Int32) × Nat × (Nat → Int32) × (Nat → Int32) × (Nat → Int32) × (Nat → Int32) × Nat × (Nat → Int32) × (Nat → Int32) × (Nat → Int32) × (Nat → Int32)) => match u with | (re9, ro9, rc9, go9, nt9, tb9, te9, tk9, tt9, nu9, ub9, ue9, uk9, ut9) => r = nI ((jR nk nc fo th tg up (T, nt)).2) ∧ nt9 = (jR nk nc fo th tg up (T, nt)).1.2 ∧ g3 nk fa up nt9 tb9 te9 tk9 tt9 (jR nk nc fo th tg up (T, nt)).1.1) (fun u t => match u with | (re9, ro9, rc9, go9, nt9, tb9, te9, tk9, tt9, nu9, ub9, ue9, uk9, ut9) => zWo (dC, dI) [(cI, .int), (cZ, .boolean), (cJ, .long)] (w3 a cI cZ nk pa fa nc fo th tg nt9 tb9 te9 tk9 tt9 nu9 ub9 ue9 uk9 ut9 re9 ro9 fu bl go9 ra rc9 ex tc es wy) (va_A (w3 a cI cZ nk pa fa nc fo th tg nt tb te tk tt nu ub ue uk ut re ro fu bl go ra rc ex tc es wy) sz) t) (va_A (w3 a cI cZ nk pa fa nc fo th tg nt tb te tk tt nu ub ue uk ut re ro fu bl go ra rc ex tc es wy) sz)) 0 0 (va_A (w3 a cI cZ nk pa fa nc fo th tg nt tb te tk tt nu ub ue uk ut re ro fu bl go ra rc ex tc es wy) sz) := by
  refine Met.ofW (cc := cX3_join) (maxL := 2) (ret := (some .int)) (by decide) rfl ?_
  intro p e s m args below meth c s₁ B hml hv
  obtain ⟨hav, hsz, ⟨hP, hK, hn⟩, hD0⟩ := hv
  have hx := B.exec
  have hb := B.bytes
  have hr := B.returns
  have hts := atoms_spec (ws := wsX3_join) B.pre
  have hown : s.vm.findClass RX3 = some m.cls := findClass_of_methodNamed B.named
  have hlocks := B.notSynchronized
  subst hsz
  have hD := hD0.self (sz := s.heap.size)
  generalize hAe : (va_A (w3 a cI cZ nk pa fa nc fo th tg nt tb te tk tt nu ub ue uk ut re ro fu bl go ra rc ex tc es wy) s.heap.size) = A at hD ⊢
  have hA : ∀ q : Nat, s.heap.size ≤ q → A q := fun q h => by rw [← hAe]; exact Or.inr h
  have hS : va_S A s.heap s.heap [] := va_S.rf
  generalize hQ : MQ below (va_Qi (fun (r : Int32) (u : (Nat → Int32) × (Nat → Int32) × Nat × (Nat → Int32) × Nat × (Nat → Int32) × (Nat → Int32) × (Nat → Int32) × (Nat → Int32) × Nat × (Nat → Int32) × (Nat → Int32) × (Nat → Int32) × (Nat → Int32)) => match u with | (re9, ro9, rc9, go9, nt9, tb9, te9, tk9, tt9, nu9, ub9, ue9, uk9, ut9) => r = nI ((jR nk nc fo th tg up (T, nt)).2) ∧ nt9 = (jR nk nc fo th tg up (T, nt)).1.2 ∧ g3 nk fa up nt9 tb9 te9 tk9 tt9 (jR nk nc fo th tg up (T, nt)).1.1) (fun u t => match u with | (re9, ro9, rc9, go9, nt9, tb9, te9, tk9, tt9, nu9, ub9, ue9, uk9, ut9) => zWo (dC, dI) [(cI, .int), (cZ, .boolean), (cJ, .long)] (w3 a cI cZ nk pa fa nc fo th tg nt9 tb9 te9 tk9 tt9 nu9 ub9 ue9 uk9 ut9 re9 ro9 fu bl go9 ra rc9 ex tc es wy) A t) A) args s 0 0 A = Q
  refine W.eq (g2 := entryFrame m ([.ref (a 0)] : List Value).toArray 2) (by rw [hav]) ?_
  have hl := lv_entry ([.ref (a 0)]) (n := 2) (Nat.le_of_ble_eq_true rfl)
  rw [lg_entry_eq]
  generalize (lg_sl ([.ref (a 0)]) ++ List.replicate (2 - (lg_sl ([.ref (a 0)])).length) Slot.unset).toArray = ls at hl ⊢
  have hl : lv_has ls 2 [(0, .ref (a 0))] := hl
  obtain ⟨H, hH⟩ : ∃ H, H = s.heap := ⟨_, rfl⟩
  obtain ⟨locs, hlo⟩ : ∃ q : List Loc, q = [] := ⟨_, rfl⟩
  have hP : va_P (dC, dI) vwCl (w3 a cI cZ nk pa fa nc fo th tg nt tb te tk tt nu ub ue uk ut re ro fu bl go ra rc ex tc es wy) H := by rw [hH]; exact hP
  have hS : va_S A s.heap H locs := by rw [hH, hlo]; exact hS
  refine zz_hl hH hlo ?_
  obtain ⟨hk01, hk8, hnt, hT, hO, hF, hU⟩ := id hg
  obtain ⟨hnc, hC⟩ := id hc
  refine lv_aload_n hx hb dX3_join_0 rfl (lv_at hl 0 rfl) ?_
  have hDc := hD
  have hFc := va_free (wc := w3 a cI cZ nk pa fa nc fo th tg nt tb te tk tt nu ub ue uk ut re ro fu bl go ra rc ex tc es wy) hD hS hA [0, 1, 2, 3, 4, 5, 6, 7, 8, 9, 10, 11, 12, 13, 14, 15, 16, 17, 18, 19, 20, 21, 22, 23] rfl
  refine va_callv (va_runV (As := []) (rest := []) ⟨hx, hb, hml, hown, hts⟩ (c_X3_findReached l dC dI cI cZ cJ a nk pa fa nc fo th tg nt tb te tk tt nu ub ue uk ut re ro fu bl go ra rc ex tc es wy T up H.size (by first | assumption | omega) (by first | assumption | omega)) (cwV 0 hts gX3_join_X3_findReached rfl rfl rfl (by decide +kernel) ⟨Nat.le_of_ble_eq_true rfl, Nat.le_of_ble_eq_true rfl⟩) ⟨zWr_blind, va_recv hK hP (ci := 3) (q0 := 0) rfl rfl, zWr_at hP hK hn (hDc.weaken (fun _ _ _ _ => trivial))⟩ rfl rfl hl.1 rfl (lv_room (Nat.le_of_ble_eq_true rfl)) dX3_join_1 ⟨Nat.le_of_ble_eq_true rfl, Nat.le_of_ble_eq_true rfl⟩) hS (fun q _ h => hFc q h) hFc (fun u_9 t H1 locs ht hvm hw hB hz1 hk1 hS => ?_)
  obtain ⟨re_n, ro_n, rc_n⟩ := u_9
  dsimp only at hw hB
  obtain ⟨hP1, -, hD1⟩ := hB
  rw [ht] at hP1
  obtain ⟨hP, hD⟩ := va_join (wr := []) (w1 := w3 a cI cZ nk pa fa nc fo th tg nt tb te tk tt nu ub ue uk ut re_n ro_n fu bl go ra rc_n ex tc es wy) hP hD [0, 1, 2, 3, 4, 5, 6, 7, 8, 9, 10, 11, 12, 13, 14, 15, 16, 17, 18, 19, 20, 21, 22, 23] [] rfl rfl (by decide) (by decide) hk1 hFc hP1 hD1
  generalize H1 = H at hP hS ⊢
  have hP : va_P (dC, dI) vwCl (w3 a cI cZ nk pa fa nc fo th tg nt tb te tk tt nu ub ue uk ut re_n ro_n fu bl go ra rc_n ex tc es wy) H := hP
  have hD : va_D A (w3 a cI cZ nk pa fa nc fo th tg nt tb te tk tt nu ub ue uk ut re_n ro_n fu bl go ra rc_n ex tc es wy) := hD
  have hre := hw
  refine lv_aload_n hx hb dX3_join_4 rfl (lv_at hl 0 rfl) ?_
  have hDc := hD
  have hFc := va_free (wc := w3 a cI cZ nk pa fa nc fo th tg nt tb te tk tt nu ub ue uk ut re_n ro_n fu bl go ra rc_n ex tc es wy) hD hS hA [0, 1, 2, 3, 4, 5, 6, 7, 8, 9, 10, 11, 12, 13, 14, 15, 16, 17, 18, 19, 20, 21, 22, 23] rfl
  refine va_callv (va_runV (As := []) (rest := []) ⟨hx, hb, hml, hown, hts⟩ (c_X3_findGoals l dC dI cI cZ cJ a nk pa fa nc fo th tg nt tb te tk tt nu ub ue uk ut re_n ro_n fu bl go ra rc_n ex tc es wy T up H.size (by first | assumption | omega) (by first | assumption | omega)) (cwV 0 hts gX3_join_X3_findGoals rfl rfl rfl (by decide +kernel) ⟨Nat.le_of_ble_eq_true rfl, Nat.le_of_ble_eq_true rfl⟩) ⟨zWr_blind, va_recv hK hP (ci := 3) (q0 := 0) rfl rfl, zWr_at hP hK hn (hDc.weaken (fun _ _ _ _ => trivial))⟩ rfl rfl hl.1 rfl (lv_room (Nat.le_of_ble_eq_true rfl)) dX3_join_5 ⟨Nat.le_of_ble_eq_true rfl, Nat.le_of_ble_eq_true rfl⟩) hS (fun q _ h => hFc q h) hFc (fun u_9 t H1 locs ht hvm hw hB hz1 hk1 hS => ?_)
  obtain ⟨go_n, rfl⟩ : ∃ z, z = u_9 := ⟨_, rfl⟩
  obtain ⟨hP1, -, hD1⟩ := hB
  rw [ht] at hP1
  obtain ⟨hP, hD⟩ := va_join (wr := []) (w1 := w3 a cI cZ nk pa fa nc fo th tg nt tb te tk tt nu ub ue uk ut re_n ro_n fu bl go_n ra rc_n ex tc es wy) hP hD [0, 1, 2, 3, 4, 5, 6, 7, 8, 9, 10, 11, 12, 13, 14, 15, 16, 17, 18, 19, 20, 21, 22, 23] [] rfl rfl (by decide) (by decide) hk1 hFc hP1 hD1
  generalize H1 = H at hP hS ⊢
  have hP : va_P (dC, dI) vwCl (w3 a cI cZ nk pa fa nc fo th tg nt tb te tk tt nu ub ue uk ut re_n ro_n fu bl go_n ra rc_n ex tc es wy) H := hP
  have hD : va_D A (w3 a cI cZ nk pa fa nc fo th tg nt tb te tk tt nu ub ue uk ut re_n ro_n fu bl go_n ra rc_n ex tc es wy) := hD
  have hgo := hw
  refine lv_iconst (v := 0) hx hb dX3_join_8 (by decide) ?_
  refine lv_istore_n (lv' := [(1, .int 0), (0, .ref (a 0))]) hx hb dX3_join_9 rfl hl (by decide) rfl (fun ls hl => ?_)
  have J_10 : ∀ (n9 : Nat) (y : Nat) (gn0 : Nat) (D : Nat → Nat → Nat) (gb : Nat → Int32) (ge : Nat → Int32) (gk : Nat → Int32) (gt : Nat → Int32) (gn : Nat) (hb1 : Nat → Int32) (he1 : Nat → Int32) (hk9 : Nat → Int32) (ht1 : Nat → Int32) (H : Heap) (locs : List Loc) (ls : Array Slot), (y ≤ 24) → (g3 nk fa up gn0 gb ge gk gt D) → (jR nk nc fo th tg up (T, nt) = jLp (jN (RB nk nc fo th tg T nt up) th nk nc up (gl T nt up)) (24 - y) ((D, gn0), y)) → 24 - y < n9 → va_P (dC, dI) vwCl (w3 a cI cZ nk pa fa nc fo th tg gn0 gb ge gk gt gn hb1 he1 hk9 ht1 re_n ro_n fu bl go_n ra rc_n ex tc es wy) H → va_D A (w3 a cI cZ nk pa fa nc fo th tg gn0 gb ge gk gt gn hb1 he1 hk9 ht1 re_n ro_n fu bl go_n ra rc_n ex tc es wy) → va_S A s.heap H locs → lv_has ls 2 [(0, .ref (a 0)), (1, .int (nI y))] → W p l e (headSpec wsX3_join ({ frames := 5, cells := 0, slots := 0, locals := 115 } : Room)).room s m args below meth c H locs 0 0 Q (F0 m 10 ls []) := by
    intro n9
    induction n9 with
    | zero => intro y gn0 D gb ge gk gt gn hb1 he1 hk9 ht1 H locs ls hy hgg hq hmu; exact absurd hmu (Nat.not_lt_zero _)
    | succ n9 ih_10 =>
      intro y gn0 D gb ge gk gt gn hb1 he1 hk9 ht1 H locs ls hy hgg hq hmu hP hD hS hl
      refine lv_iload_n hx hb dX3_join_10 rfl (lv_at hl 1 rfl) ?_
      refine lv_bipush (v := 24) hx hb dX3_join_11 (by decide) ?_
      refine lv_icmp_ge (tgt := 29) hx hb dX3_join_13 (by decide) (fun c_7 => ?_) (fun c_7 => ?_)
      · skip
        have hg9 := hgg
        have hq9 : jR nk nc fo th tg up (T, nt) = ((D, gn0), y) := by rw [hq, show 24 - y = 0 from by have := (zz_get (a := y) (b := 24) (by omega) (by omega)).mp c_7; omega]; rfl
        refine lv_iload_n hx hb dX3_join_29 rfl (lv_at hl 1 rfl) ?_
        rw [← hQ]
        have hP9 := hP
        have hD9 := hD
        exact W.iret (v := nI y) hx hb hr (fun t ht hW => ⟨⟨nI y, (re_n, ro_n, rc_n, go_n, gn0, gb, ge, gk, gt, gn, hb1, he1, hk9, ht1), rfl, (by rw [hq9]; exact ⟨rfl, rfl, hg9⟩), (by rw [ht]; exact hP9), va_K.moved hW.alike hK, hD9⟩, hS.F ht⟩) hS.2.2 dX3_join_30
      · skip
        have c_7 := (zz_gef (a := y) (b := 24) (by omega) (by omega)).mp c_7
        refine lv_aload_n hx hb dX3_join_16 rfl (lv_at hl 0 rfl) ?_
        have hDc := hD
        have hFc := va_free (wc := w3 a cI cZ nk pa fa nc fo th tg gn0 gb ge gk gt gn hb1 he1 hk9 ht1 re_n ro_n fu bl go_n ra rc_n ex tc es wy) hD hS hA [0, 1, 2, 3, 4, 5, 6, 7, 8, 9, 10, 11, 12, 13, 14, 15, 16, 17, 18, 19, 20, 21, 22, 23] rfl
        refine va_calli (va_runV (As := []) (rest := []) ⟨hx, hb, hml, hown, hts⟩ (c_X3_joinFirstPair l dC dI cI cZ cJ a nk pa fa nc fo th tg gn0 gb ge gk gt gn hb1 he1 hk9 ht1 re_n ro_n fu bl go_n ra rc_n ex tc es wy D up (gl T nt up) (RB nk nc fo th tg T nt up) H.size (hgg) (by first | assumption | omega) (hre) (hgo)) (cwV 0 hts gX3_join_X3_joinFirstPair rfl rfl rfl (by decide +kernel) ⟨Nat.le_of_ble_eq_true rfl, Nat.le_of_ble_eq_true rfl⟩) ⟨zWr_blind, va_recv hK hP (ci := 3) (q0 := 0) rfl rfl, zWr_at hP hK hn (hDc.weaken (fun _ _ _ _ => trivial))⟩ rfl rfl hl.1 rfl (lv_room (Nat.le_of_ble_eq_true rfl)) dX3_join_17 ⟨Nat.le_of_ble_eq_true rfl, Nat.le_of_ble_eq_true rfl⟩) hS (fun q _ h => hFc q h) hFc (fun r_8 u_9 t H1 locs ht hvm hw hB hz1 hk1 hS => ?_)
        obtain ⟨nt_n, tb_n, te_n, tk_n, tt_n, nu_n, ub_n, ue_n, uk_n, ut_n⟩ := u_9
        dsimp only at hw hB
        obtain ⟨hP1, -, hD1⟩ := hB
        rw [ht] at hP1
        obtain ⟨hP, hD⟩ := va_join (wr := []) (w1 := w3 a cI cZ nk pa fa nc fo th tg nt_n tb_n te_n tk_n tt_n nu_n ub_n ue_n uk_n ut_n re_n ro_n fu bl go_n ra rc_n ex tc es wy) hP hD [0, 1, 2, 3, 4, 5, 6, 7, 8, 9, 10, 11, 12, 13, 14, 15, 16, 17, 18, 19, 20, 21, 22, 23] [] rfl rfl (by decide) (by decide) hk1 hFc hP1 hD1
        generalize H1 = H at hP hS ⊢
        have hP : va_P (dC, dI) vwCl (w3 a cI cZ nk pa fa nc fo th tg nt_n tb_n te_n tk_n tt_n nu_n ub_n ue_n uk_n ut_n re_n ro_n fu bl go_n ra rc_n ex tc es wy) H := hP
        have hD : va_D A (w3 a cI cZ nk pa fa nc fo th tg nt_n tb_n te_n tk_n tt_n nu_n ub_n ue_n uk_n ut_n re_n ro_n fu bl go_n ra rc_n ex tc es wy) := hD
        obtain ⟨hw0, hw⟩ := hw
        subst hw0
        refine lv_if_eq (tgt := 29) hx hb dX3_join_20 (by decide) (fun c_19 => ?_) (fun c_19 => ?_)
        · skip
          have c9 := zb_0.mp c_19
          obtain ⟨D9, hw1, hg9⟩ := hw
          have hn9 := Option.not_isSome_iff_eq_none.mp (by rw [c9]; exact Bool.false_ne_true)
          rw [hn9] at hw1
          obtain ⟨rfl, rfl⟩ := Prod.mk.inj hw1
          have hq9 : jR nk nc fo th tg up (T, nt) = ((D, gn0), y) := by rw [hq, show 24 - y = (24 - (y + 1)) + 1 from by omega]; simp only [jLp]; rw [hn9]
          refine lv_iload_n hx hb dX3_join_29 rfl (lv_at hl 1 rfl) ?_
          rw [← hQ]
          have hP9 := hP
          have hD9 := hD
          exact W.iret (v := nI y) hx hb hr (fun t ht hW => ⟨⟨nI y, (re_n, ro_n, rc_n, go_n, gn0, tb_n, te_n, tk_n, tt_n, nu_n, ub_n, ue_n, uk_n, ut_n), rfl, (by rw [hq9]; exact ⟨rfl, rfl, hg9⟩), (by rw [ht]; exact hP9), va_K.moved hW.alike hK, hD9⟩, hS.F ht⟩) hS.2.2 dX3_join_30
        · skip
          have c9 := zb_1.mp c_19
          obtain ⟨D9, hw1, hg9⟩ := hw
          obtain ⟨q9, hsm0⟩ := Option.isSome_iff_exists.mp c9
          have hsm : (jN (RB nk nc fo th tg T nt up) th nk nc up (gl T nt up)) (D, gn0) = some (D9, nt_n) := by rw [hsm0] at hw1 ⊢; exact congrArg some hw1
          refine lv_iinc (v := nI (y + 1)) (lv' := [(1, .int (nI (y + 1))), (0, .ref (a 0))]) hx hb dX3_join_23 hl (k := 1) rfl (zz_inc y 1) (by decide) rfl (fun ls hl => ?_)
          refine lv_goto (tgt := 10) hx hb dX3_join_26 (by decide) ?_
          exact ih_10 (y + 1) nt_n D9 tb_n te_n tk_n tt_n nu_n ub_n ue_n uk_n ut_n _ _ _ (by first | assumption | omega) hg9 (by rw [hq, show 24 - y = (24 - (y + 1)) + 1 from by omega]; simp only [jLp]; rw [hsm]) (by omega) hP hD hS (lv_sub hl [1, 0] rfl)
  exact J_10 _ 0 nt T tb te tk tt nu ub ue uk ut _ _ _ (by first | assumption | omega) hg rfl (Nat.lt_succ_self _) hP hD hS (lv_sub hl [1, 0] rfl)

set_option maxHeartbeats 4000000 in
set_option maxRecDepth 100000 in
theorem c_X3_improve (l : Launch) (dC : Nat → ClassId) (dI : Nat → Nat → Nat) (cI cZ cJ : ClassId) (a : Nat → Nat) (nk : Nat) (pa : Nat → Int32) (fa : Nat → Int32) (nc : Nat) (fo : Nat → Int32) (th : Nat → Int32) (tg : Nat → Int32) (nt : Nat) (tb : Nat → Int32) (te : Nat → Int32) (tk : Nat → Int32) (tt : Nat → Int32) (nu : Nat) (ub : Nat → Int32) (ue : Nat → Int32) (uk : Nat → Int32) (ut : Nat → Int32) (re : Nat → Int32) (ro : Nat → Int32) (fu : Nat → Int32) (bl : Nat → Int32) (go : Nat → Int32) (ra : Nat → Int32) (rc : Nat) (ex : Int32) (tc : Int32) (es : Int32) (wy : Int64) (T : Nat → Nat → Nat) (up : Nat → Nat → Bool) (sz : Nat) (hg : g3 nk fa up nt tb te tk tt T) (hc : okC nk nc fo th tg) : Met l yX3_improve wsX3_improve ({ frames := 6, cells := 0, slots := 0, locals := 137 } : Room) (va_Pc [.ref (a 0)] (zWr (dC, dI) [(cI, .int), (cZ, .boolean), (cJ, .long)] (w3 a cI cZ nk pa fa nc fo th tg nt tb te tk tt nu ub ue uk ut re ro fu bl go ra rc ex tc es wy) sz)) (va_Qi (fun (r : Int32) (u : (Nat → Int32) × (Nat → Int32) × Nat × (Nat → Int32) × (Nat → Int32) × (Nat → Int32) × Nat × (Nat → Int32) × (Nat → Int32) × (Nat → Int32) × (Nat → Int32) × Nat × (Nat → Int32) × (Nat → Int32) × (Nat → Int32) × (Nat → Int32)) => match u with | (re9, ro9, rc9, fu9, bl9, go9, nt9, tb9, te9, tk9, tt9, nu9, ub9, ue9, uk9, ut9) => r = nI ((iL (rR nk nc fo th tg up) 26 ((T, nt), 0)).2) ∧ nt9 = (iL (rR nk nc fo th tg up) 26 ((T, nt), 0)).1.2 ∧ g3 nk fa up nt9 tb9 te9 tk9 tt9 (iL (rR nk nc fo th tg up) 26 ((T, nt), 0)).1.1) (fun u t => match u with | (re9, ro9, rc9, fu9, bl9, go9, nt9, tb9, te9, tk9, tt9, nu9, ub9, ue9, uk9, ut9) => zWo (dC, dI) [(cI, .int), (cZ, .boolean), (cJ, .long)] (w3 a cI cZ nk pa fa nc fo th tg nt9 tb9 te9 tk9 tt9 nu9 ub9 ue9 uk9 ut9 re9 ro9 fu9 bl9 go9 ra rc9 ex tc es wy) (va_A (w3 a cI cZ nk pa fa nc fo th tg nt tb te tk tt nu ub ue uk ut re ro fu bl go ra rc ex tc es wy) sz) t) (va_A (w3 a cI cZ nk pa fa nc fo th tg nt tb te tk tt nu ub ue uk ut re ro fu bl go ra rc ex tc es wy) sz)) 0 0 (va_A (w3 a cI cZ nk pa fa nc fo th tg nt tb te tk tt nu ub ue uk ut re ro fu bl go ra rc ex tc es wy) sz) := by
  refine Met.ofW (cc := cX3_improve) (maxL := 2) (ret := (some .int)) (by decide) rfl ?_
  intro p e s m args below meth c s₁ B hml hv
  obtain ⟨hav, hsz, ⟨hP, hK, hn⟩, hD0⟩ := hv
  have hx := B.exec
  have hb := B.bytes
  have hr := B.returns
  have hts := atoms_spec (ws := wsX3_improve) B.pre
  have hown : s.vm.findClass RX3 = some m.cls := findClass_of_methodNamed B.named
  have hlocks := B.notSynchronized
  subst hsz
  have hD := hD0.self (sz := s.heap.size)
  generalize hAe : (va_A (w3 a cI cZ nk pa fa nc fo th tg nt tb te tk tt nu ub ue uk ut re ro fu bl go ra rc ex tc es wy) s.heap.size) = A at hD ⊢
  have hA : ∀ q : Nat, s.heap.size ≤ q → A q := fun q h => by rw [← hAe]; exact Or.inr h
  have hS : va_S A s.heap s.heap [] := va_S.rf
  generalize hQ : MQ below (va_Qi (fun (r : Int32) (u : (Nat → Int32) × (Nat → Int32) × Nat × (Nat → Int32) × (Nat → Int32) × (Nat → Int32) × Nat × (Nat → Int32) × (Nat → Int32) × (Nat → Int32) × (Nat → Int32) × Nat × (Nat → Int32) × (Nat → Int32) × (Nat → Int32) × (Nat → Int32)) => match u with | (re9, ro9, rc9, fu9, bl9, go9, nt9, tb9, te9, tk9, tt9, nu9, ub9, ue9, uk9, ut9) => r = nI ((iL (rR nk nc fo th tg up) 26 ((T, nt), 0)).2) ∧ nt9 = (iL (rR nk nc fo th tg up) 26 ((T, nt), 0)).1.2 ∧ g3 nk fa up nt9 tb9 te9 tk9 tt9 (iL (rR nk nc fo th tg up) 26 ((T, nt), 0)).1.1) (fun u t => match u with | (re9, ro9, rc9, fu9, bl9, go9, nt9, tb9, te9, tk9, tt9, nu9, ub9, ue9, uk9, ut9) => zWo (dC, dI) [(cI, .int), (cZ, .boolean), (cJ, .long)] (w3 a cI cZ nk pa fa nc fo th tg nt9 tb9 te9 tk9 tt9 nu9 ub9 ue9 uk9 ut9 re9 ro9 fu9 bl9 go9 ra rc9 ex tc es wy) A t) A) args s 0 0 A = Q
  refine W.eq (g2 := entryFrame m ([.ref (a 0)] : List Value).toArray 2) (by rw [hav]) ?_
  have hl := lv_entry ([.ref (a 0)]) (n := 2) (Nat.le_of_ble_eq_true rfl)
  rw [lg_entry_eq]
  generalize (lg_sl ([.ref (a 0)]) ++ List.replicate (2 - (lg_sl ([.ref (a 0)])).length) Slot.unset).toArray = ls at hl ⊢
  have hl : lv_has ls 2 [(0, .ref (a 0))] := hl
  obtain ⟨H, hH⟩ : ∃ H, H = s.heap := ⟨_, rfl⟩
  obtain ⟨locs, hlo⟩ : ∃ q : List Loc, q = [] := ⟨_, rfl⟩
  have hP : va_P (dC, dI) vwCl (w3 a cI cZ nk pa fa nc fo th tg nt tb te tk tt nu ub ue uk ut re ro fu bl go ra rc ex tc es wy) H := by rw [hH]; exact hP
  have hS : va_S A s.heap H locs := by rw [hH, hlo]; exact hS
  refine zz_hl hH hlo ?_
  obtain ⟨hk01, hk8, hnt, hT, hO, hF, hU⟩ := id hg
  obtain ⟨hnc, hC⟩ := id hc
  refine lv_iconst (v := 0) hx hb dX3_improve_0 (by decide) ?_
  refine lv_istore_n (lv' := [(1, .int 0), (0, .ref (a 0))]) hx hb dX3_improve_1 rfl hl (by decide) rfl (fun ls hl => ?_)
  have J_2 : ∀ (n9 : Nat) (y : Nat) (gn0 : Nat) (D : Nat → Nat → Nat) (gb : Nat → Int32) (ge : Nat → Int32) (gk : Nat → Int32) (gt : Nat → Int32) (gn : Nat) (hb1 : Nat → Int32) (he1 : Nat → Int32) (hk9 : Nat → Int32) (ht1 : Nat → Int32) (gre : Nat → Int32) (gro : Nat → Int32) (grc : Nat) (gfu : Nat → Int32) (gbl : Nat → Int32) (gg : Nat → Int32) (H : Heap) (locs : List Loc) (ls : Array Slot), (y ≤ 26) → (g3 nk fa up gn0 gb ge gk gt D) → (iL (rR nk nc fo th tg up) 26 ((T, nt), 0) = iL (rR nk nc fo th tg up) (26 - y) ((D, gn0), y)) → 26 - y < n9 → va_P (dC, dI) vwCl (w3 a cI cZ nk pa fa nc fo th tg gn0 gb ge gk gt gn hb1 he1 hk9 ht1 gre gro gfu gbl gg ra grc ex tc es wy) H → va_D A (w3 a cI cZ nk pa fa nc fo th tg gn0 gb ge gk gt gn hb1 he1 hk9 ht1 gre gro gfu gbl gg ra grc ex tc es wy) → va_S A s.heap H locs → lv_has ls 2 [(0, .ref (a 0)), (1, .int (nI y))] → W p l e (headSpec wsX3_improve ({ frames := 6, cells := 0, slots := 0, locals := 137 } : Room)).room s m args below meth c H locs 0 0 Q (F0 m 2 ls []) := by
    intro n9
    induction n9 with
    | zero => intro y gn0 D gb ge gk gt gn hb1 he1 hk9 ht1 gre gro grc gfu gbl gg H locs ls hy hgg hq hmu; exact absurd hmu (Nat.not_lt_zero _)
    | succ n9 ih_2 =>
      intro y gn0 D gb ge gk gt gn hb1 he1 hk9 ht1 gre gro grc gfu gbl gg H locs ls hy hgg hq hmu hP hD hS hl
      refine lv_iload_n hx hb dX3_improve_2 rfl (lv_at hl 1 rfl) ?_
      refine lv_bipush (v := 26) hx hb dX3_improve_3 (by decide) ?_
      refine lv_icmp_ge (tgt := 31) hx hb dX3_improve_5 (by decide) (fun c_1 => ?_) (fun c_1 => ?_)
      · skip
        have hg9 := hgg
        have hq9 : iL (rR nk nc fo th tg up) 26 ((T, nt), 0) = ((D, gn0), y) := by rw [hq, show 26 - y = 0 from by have := (zz_get (a := y) (b := 26) (by omega) (by omega)).mp c_1; omega]; rfl
        refine lv_iload_n hx hb dX3_improve_31 rfl (lv_at hl 1 rfl) ?_
        rw [← hQ]
        have hP9 := hP
        have hD9 := hD
        exact W.iret (v := nI y) hx hb hr (fun t ht hW => ⟨⟨nI y, (gre, gro, grc, gfu, gbl, gg, gn0, gb, ge, gk, gt, gn, hb1, he1, hk9, ht1), rfl, (by rw [hq9]; exact ⟨rfl, rfl, hg9⟩), (by rw [ht]; exact hP9), va_K.moved hW.alike hK, hD9⟩, hS.F ht⟩) hS.2.2 dX3_improve_32
      · skip
        have c_1 := (zz_gef (a := y) (b := 26) (by omega) (by omega)).mp c_1
        refine lv_aload_n hx hb dX3_improve_8 rfl (lv_at hl 0 rfl) ?_
        have hDc := hD
        have hFc := va_free (wc := w3 a cI cZ nk pa fa nc fo th tg gn0 gb ge gk gt gn hb1 he1 hk9 ht1 gre gro gfu gbl gg ra grc ex tc es wy) hD hS hA [0, 1, 2, 3, 4, 5, 6, 7, 8, 9, 10, 11, 12, 13, 14, 15, 16, 17, 18, 19, 20, 21, 22, 23] rfl
        refine va_calli (va_runV (As := []) (rest := []) ⟨hx, hb, hml, hown, hts⟩ (c_X3_drop l dC dI cI cZ cJ a nk pa fa nc fo th tg gn0 gb ge gk gt gn hb1 he1 hk9 ht1 gre gro gfu gbl gg ra grc ex tc es wy D up H.size (hgg) (by first | assumption | omega)) (cwV 0 hts gX3_improve_X3_drop rfl rfl rfl (by decide +kernel) ⟨Nat.le_of_ble_eq_true rfl, Nat.le_of_ble_eq_true rfl⟩) ⟨zWr_blind, va_recv hK hP (ci := 3) (q0 := 0) rfl rfl, zWr_at hP hK hn (hDc.weaken (fun _ _ _ _ => trivial))⟩ rfl rfl hl.1 rfl (lv_room (Nat.le_of_ble_eq_true rfl)) dX3_improve_9 ⟨Nat.le_of_ble_eq_true rfl, Nat.le_of_ble_eq_true rfl⟩) hS (fun q _ h => hFc q h) hFc (fun r_2 u_9 t H1 locs ht hvm hw hB hz1 hk1 hS => ?_)
        obtain ⟨re_n, ro_n, rc_n, fu_n, bl_n, nt_d, tb_d, te_d, tk_d, tt_d⟩ := u_9
        dsimp only at hw hB
        obtain ⟨hP1, -, hD1⟩ := hB
        rw [ht] at hP1
        obtain ⟨hP, hD⟩ := va_join (wr := []) (w1 := w3 a cI cZ nk pa fa nc fo th tg nt_d tb_d te_d tk_d tt_d gn hb1 he1 hk9 ht1 re_n ro_n fu_n bl_n gg ra rc_n ex tc es wy) hP hD [0, 1, 2, 3, 4, 5, 6, 7, 8, 9, 10, 11, 12, 13, 14, 15, 16, 17, 18, 19, 20, 21, 22, 23] [] rfl rfl (by decide) (by decide) hk1 hFc hP1 hD1
        generalize H1 = H at hP hS ⊢
        have hP : va_P (dC, dI) vwCl (w3 a cI cZ nk pa fa nc fo th tg nt_d tb_d te_d tk_d tt_d gn hb1 he1 hk9 ht1 re_n ro_n fu_n bl_n gg ra rc_n ex tc es wy) H := hP
        have hD : va_D A (w3 a cI cZ nk pa fa nc fo th tg nt_d tb_d te_d tk_d tt_d gn hb1 he1 hk9 ht1 re_n ro_n fu_n bl_n gg ra rc_n ex tc es wy) := hD
        obtain ⟨hw0, hw⟩ := hw
        subst hw0
        obtain ⟨hd1, hd2⟩ := hw
        obtain ⟨D1, hD1⟩ : ∃ q, q = (dR nk nc fo th tg up (D, gn0)).1 := ⟨_, rfl⟩
        rw [← hD1] at hd2
        have hdp : dR nk nc fo th tg up (D, gn0) = (D1, nt_d) := by rw [hD1, hd1]
        refine lv_aload_n hx hb dX3_improve_12 rfl (lv_at hl 0 rfl) ?_
        have hDc := hD
        have hFc := va_free (wc := w3 a cI cZ nk pa fa nc fo th tg nt_d tb_d te_d tk_d tt_d gn hb1 he1 hk9 ht1 re_n ro_n fu_n bl_n gg ra rc_n ex tc es wy) hD hS hA [0, 1, 2, 3, 4, 5, 6, 7, 8, 9, 10, 11, 12, 13, 14, 15, 16, 17, 18, 19, 20, 21, 22, 23] rfl
        refine va_calli (va_runV (As := []) (rest := [.int (nI (gn0 - (dR nk nc fo th tg up (D, gn0)).2))]) ⟨hx, hb, hml, hown, hts⟩ (c_X3_shrink l dC dI cI cZ cJ a nk pa fa nc fo th tg nt_d tb_d te_d tk_d tt_d gn hb1 he1 hk9 ht1 re_n ro_n fu_n bl_n gg ra rc_n ex tc es wy D1 up H.size (hd2) (by first | assumption | omega)) (cwV 0 hts gX3_improve_X3_shrink rfl rfl rfl (by decide +kernel) ⟨Nat.le_of_ble_eq_true rfl, Nat.le_of_ble_eq_true rfl⟩) ⟨zWr_blind, va_recv hK hP (ci := 3) (q0 := 0) rfl rfl, zWr_at hP hK hn (hDc.weaken (fun _ _ _ _ => trivial))⟩ rfl rfl hl.1 rfl (lv_room (Nat.le_of_ble_eq_true rfl)) dX3_improve_13 ⟨Nat.le_of_ble_eq_true rfl, Nat.le_of_ble_eq_true rfl⟩) hS (fun q _ h => hFc q h) hFc (fun r_13 u_9 t H1 locs ht hvm hw hB hz1 hk1 hS => ?_)
        obtain ⟨re_s, ro_s, rc_s, fu_s, bl_s, tb_s, te_s⟩ := u_9
        dsimp only at hw hB
        obtain ⟨hP1, -, hD1⟩ := hB
        rw [ht] at hP1
        obtain ⟨hP, hD⟩ := va_join (wr := []) (w1 := w3 a cI cZ nk pa fa nc fo th tg nt_d tb_s te_s tk_d tt_d gn hb1 he1 hk9 ht1 re_s ro_s fu_s bl_s gg ra rc_s ex tc es wy) hP hD [0, 1, 2, 3, 4, 5, 6, 7, 8, 9, 10, 11, 12, 13, 14, 15, 16, 17, 18, 19, 20, 21, 22, 23] [] rfl rfl (by decide) (by decide) hk1 hFc hP1 hD1
        generalize H1 = H at hP hS ⊢
        have hP : va_P (dC, dI) vwCl (w3 a cI cZ nk pa fa nc fo th tg nt_d tb_s te_s tk_d tt_d gn hb1 he1 hk9 ht1 re_s ro_s fu_s bl_s gg ra rc_s ex tc es wy) H := hP
        have hD : va_D A (w3 a cI cZ nk pa fa nc fo th tg nt_d tb_s te_s tk_d tt_d gn hb1 he1 hk9 ht1 re_s ro_s fu_s bl_s gg ra rc_s ex tc es wy) := hD
        obtain ⟨hw0, hw⟩ := hw
        subst hw0
        obtain ⟨D2, hD2⟩ : ∃ q, q = (sR nk nc fo th tg up (D1, nt_d)).1 := ⟨_, rfl⟩
        rw [← hD2] at hw
        have hs2 := hw
        have hsp : sR nk nc fo th tg up (D1, nt_d) = (D2, nt_d) := by rw [hD2]; rfl
        refine lv_iadd hx hb dX3_improve_16 ?_
        refine zz_top (y := nI ((gn0 - (dR nk nc fo th tg up (D, gn0)).2) + (sRc nk nc fo th tg up (D1, nt_d)))) (nI_add _ _) ?_
        refine lv_aload_n hx hb dX3_improve_17 rfl (lv_at hl 0 rfl) ?_
        have hDc := hD
        have hFc := va_free (wc := w3 a cI cZ nk pa fa nc fo th tg nt_d tb_s te_s tk_d tt_d gn hb1 he1 hk9 ht1 re_s ro_s fu_s bl_s gg ra rc_s ex tc es wy) hD hS hA [0, 1, 2, 3, 4, 5, 6, 7, 8, 9, 10, 11, 12, 13, 14, 15, 16, 17, 18, 19, 20, 21, 22, 23] rfl
        refine va_calli (va_runV (As := []) (rest := [.int (nI ((gn0 - (dR nk nc fo th tg up (D, gn0)).2) + (sRc nk nc fo th tg up (D1, nt_d))))]) ⟨hx, hb, hml, hown, hts⟩ (c_X3_join l dC dI cI cZ cJ a nk pa fa nc fo th tg nt_d tb_s te_s tk_d tt_d gn hb1 he1 hk9 ht1 re_s ro_s fu_s bl_s gg ra rc_s ex tc es wy D2 up H.size (hs2) (by first | assumption | omega)) (cwV 0 hts gX3_improve_X3_join rfl rfl rfl (by decide +kernel) ⟨Nat.le_of_ble_eq_true rfl, Nat.le_of_ble_eq_true rfl⟩) ⟨zWr_blind, va_recv hK hP (ci := 3) (q0 := 0) rfl rfl, zWr_at hP hK hn (hDc.weaken (fun _ _ _ _ => trivial))⟩ rfl rfl hl.1 rfl (lv_room (Nat.le_of_ble_eq_true rfl)) dX3_improve_18 ⟨Nat.le_of_ble_eq_true rfl, Nat.le_of_ble_eq_true rfl⟩) hS (fun q _ h => hFc q h) hFc (fun r_21 u_9 t H1 locs ht hvm hw hB hz1 hk1 hS => ?_)
        obtain ⟨re_j, ro_j, rc_j, go_j, nt_n, tb_n, te_n, tk_n, tt_n, nu_n, ub_n, ue_n, uk_n, ut_n⟩ := u_9
        dsimp only at hw hB
        obtain ⟨hP1, -, hD1⟩ := hB
        rw [ht] at hP1
        obtain ⟨hP, hD⟩ := va_join (wr := []) (w1 := w3 a cI cZ nk pa fa nc fo th tg nt_n tb_n te_n tk_n tt_n nu_n ub_n ue_n uk_n ut_n re_j ro_j fu_s bl_s go_j ra rc_j ex tc es wy) hP hD [0, 1, 2, 3, 4, 5, 6, 7, 8, 9, 10, 11, 12, 13, 14, 15, 16, 17, 18, 19, 20, 21, 22, 23] [] rfl rfl (by decide) (by decide) hk1 hFc hP1 hD1
        generalize H1 = H at hP hS ⊢
        have hP : va_P (dC, dI) vwCl (w3 a cI cZ nk pa fa nc fo th tg nt_n tb_n te_n tk_n tt_n nu_n ub_n ue_n uk_n ut_n re_j ro_j fu_s bl_s go_j ra rc_j ex tc es wy) H := hP
        have hD : va_D A (w3 a cI cZ nk pa fa nc fo th tg nt_n tb_n te_n tk_n tt_n nu_n ub_n ue_n uk_n ut_n re_j ro_j fu_s bl_s go_j ra rc_j ex tc es wy) := hD
        obtain ⟨hw0, hw⟩ := hw
        subst hw0
        obtain ⟨hj1, hj2⟩ := hw
        obtain ⟨D9, hD9⟩ : ∃ q, q = (jR nk nc fo th tg up (D2, nt_d)).1.1 := ⟨_, rfl⟩
        rw [← hD9] at hj2
        have hg9 := hj2
        have hr9 : (rR nk nc fo th tg up (D, gn0)).1 = (D9, nt_n) := by simp only [rR]; rw [hdp, hsp, hD9, hj1]
        have hr8 : (rR nk nc fo th tg up (D, gn0)).2 = (gn0 - (dR nk nc fo th tg up (D, gn0)).2) + sRc nk nc fo th tg up (D1, nt_d) + (jR nk nc fo th tg up (D2, nt_d)).2 := by simp only [rR]; rw [hdp, hsp]
        have b1 := sRc_le (nk := nk) (nc := nc) (fo := fo) (th := th) (tg := tg) (up := up) (s := (D1, nt_d))
        have b2 := jLp_le (f := jN (RB nk nc fo th tg D2 nt_d up) th nk nc up (gl D2 nt_d up)) (n := 24) (s := ((D2, nt_d), 0))
        have b3 : (jR nk nc fo th tg up (D2, nt_d)).2 ≤ 24 := by simpa [jR] using b2
        have b4 : gn0 ≤ 24 := hgg.2.2.1
        have b5 : nt_d ≤ 24 := hd2.2.2.1
        refine lv_iadd hx hb dX3_improve_21 ?_
        refine zz_top (y := nI (((gn0 - (dR nk nc fo th tg up (D, gn0)).2) + (sRc nk nc fo th tg up (D1, nt_d))) + ((jR nk nc fo th tg up (D2, nt_d)).2))) (nI_add _ _) ?_
        refine lv_if_le (tgt := 31) hx hb dX3_improve_22 (by decide) (fun c_36 => ?_) (fun c_36 => ?_)
        · skip
          have c9 := (zz_let (a := gn0 - (dR nk nc fo th tg up (D, gn0)).2 + sRc nk nc fo th tg up (D1, nt_d) + (jR nk nc fo th tg up (D2, nt_d)).2) (b := 0) (by simp only at b1; omega) (by omega)).mp c_36
          have hq9 : iL (rR nk nc fo th tg up) 26 ((T, nt), 0) = ((D9, nt_n), y) := by rw [hq, show 26 - y = (26 - (y + 1)) + 1 from by omega]; simp only [iL]; rw [if_pos (by rw [hr8]; omega), hr9]
          refine lv_iload_n hx hb dX3_improve_31 rfl (lv_at hl 1 rfl) ?_
          rw [← hQ]
          have hP9 := hP
          have hD9 := hD
          exact W.iret (v := nI y) hx hb hr (fun t ht hW => ⟨⟨nI y, (re_j, ro_j, rc_j, fu_s, bl_s, go_j, nt_n, tb_n, te_n, tk_n, tt_n, nu_n, ub_n, ue_n, uk_n, ut_n), rfl, (by rw [hq9]; exact ⟨rfl, rfl, hg9⟩), (by rw [ht]; exact hP9), va_K.moved hW.alike hK, hD9⟩, hS.F ht⟩) hS.2.2 dX3_improve_32
        · skip
          have c9 := (zz_lef (a := gn0 - (dR nk nc fo th tg up (D, gn0)).2 + sRc nk nc fo th tg up (D1, nt_d) + (jR nk nc fo th tg up (D2, nt_d)).2) (b := 0) (by simp only at b1; omega) (by omega)).mp c_36
          have hne : ¬ (rR nk nc fo th tg up (D, gn0)).2 = 0 := by rw [hr8]; omega
          refine lv_iinc (v := nI (y + 1)) (lv' := [(1, .int (nI (y + 1))), (0, .ref (a 0))]) hx hb dX3_improve_25 hl (k := 1) rfl (zz_inc y 1) (by decide) rfl (fun ls hl => ?_)
          refine lv_goto (tgt := 2) hx hb dX3_improve_28 (by decide) ?_
          exact ih_2 (y + 1) nt_n D9 tb_n te_n tk_n tt_n nu_n ub_n ue_n uk_n ut_n re_j ro_j rc_j fu_s bl_s go_j _ _ _ (by first | assumption | omega) hg9 (by rw [hq, show 26 - y = (26 - (y + 1)) + 1 from by omega]; simp only [iL]; rw [if_neg hne, hr9]) (by omega) hP hD hS (lv_sub hl [1, 0] rfl)
  exact J_2 _ 0 nt T tb te tk tt nu ub ue uk ut re ro rc fu bl go _ _ _ (by first | assumption | omega) hg rfl (Nat.lt_succ_self _) hP hD hS (lv_sub hl [1, 0] rfl)

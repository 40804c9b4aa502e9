theorem zx_X3_addKind_15 : ∀ w ∈ (vx_atS RX3 69 "java/lang/IllegalStateException" ["java/lang/RuntimeException", "java/lang/Exception"]).filter goodWord, w ∈ wsX3_addKind := fun w h => List.mem_cons_of_mem _ (List.mem_append_left _ (List.mem_append_right _ h))

set_option maxHeartbeats 4000000 in
set_option maxRecDepth 100000 in
theorem c_X3_addKind (l : Launch) (dC : Nat → ClassId) (dI : Nat → Nat → Nat) (cI cZ cJ : ClassId) (a : Nat → Nat) (nk : Nat) (pa : Nat → Int32) (fa : Nat → Int32) (nc : Nat) (fo : Nat → Int32) (th : Nat → Int32) (tg : Nat → Int32) (nt : Nat) (tb : Nat → Int32) (te : Nat → Int32) (tk : Nat → Int32) (tt : Nat → Int32) (nu : Nat) (ub : Nat → Int32) (ue : Nat → Int32) (uk : Nat → Int32) (ut : Nat → Int32) (re : Nat → Int32) (ro : Nat → Int32) (fu : Nat → Int32) (bl : Nat → Int32) (go : Nat → Int32) (ra : Nat → Int32) (rc : Nat) (ex : Int32) (tc : Int32) (es : Int32) (wy : Int64) (x : Int32) (T : Nat → Nat → Nat) (up : Nat → Nat → Bool) (sz : Nat) (hlt : l.stackTraces = false) (hg : g3 nk fa up nt tb te tk tt T) (hc : okC nk nc fo th tg) : vx_Met l yX3_addKind wsX3_addKind ({ frames := 7, cells := 2, slots := 12, locals := 103 } : Room) (va_Pc [.ref (a 0), .int x] (zTr (dC, dI) [(cI, .int), (cZ, .boolean), (cJ, .long)] (w3 a cI cZ nk pa fa nc fo th tg nt tb te tk tt nu ub ue uk ut re ro fu bl go ra rc ex tc es wy) sz)) (va_Qi (fun (r : Int32) (fa9 : Nat → Int32) => r = nI nk ∧ (hasI x nk = true ∧ nk < 8) ∧ g3 (nk + 1) fa9 (upN up nk x.toNatClampNeg) nt tb te tk tt T ∧ okC (nk + 1) nc fo th tg) (fun fa9 t => zWo (dC, dI) [(cI, .int), (cZ, .boolean), (cJ, .long)] (w3 a cI cZ (nk + 1) (upd pa nk x) fa9 nc fo th tg nt tb te tk tt nu ub ue uk ut re ro fu bl go ra rc ex tc es wy) (va_A (w3 a cI cZ nk pa fa nc fo th tg nt tb te tk tt nu ub ue uk ut re ro fu bl go ra rc ex tc es wy) sz) t) (va_A (w3 a cI cZ nk pa fa nc fo th tg nt tb te tk tt nu ub ue uk ut re ro fu bl go ra rc ex tc es wy) sz)) (vx_X (fun (_ : Unit) => True) (fun E _ t => ((E = "java/lang/IndexOutOfBoundsException" ∧ hasI x nk = false) ∨ (E = "java/lang/IllegalStateException" ∧ (hasI x nk = true ∧ nk = 8))) ∧ zWo (dC, dI) [(cI, .int), (cZ, .boolean), (cJ, .long)] (w3 a cI cZ nk pa fa nc fo th tg nt tb te tk tt nu ub ue uk ut re ro fu bl go ra rc ex tc es wy) (va_A (w3 a cI cZ nk pa fa nc fo th tg nt tb te tk tt nu ub ue uk ut re ro fu bl go ra rc ex tc es wy) sz) t) (va_A (w3 a cI cZ nk pa fa nc fo th tg nt tb te tk tt nu ub ue uk ut re ro fu bl go ra rc ex tc es wy) sz)) 2 12 (va_A (w3 a cI cZ nk pa fa nc fo th tg nt tb te tk tt nu ub ue uk ut re ro fu bl go ra rc ex tc es wy) sz) := by
  refine vx_ofW (cc := cX3_addKind) (maxL := 2) (ret := (some .int)) (by decide) rfl ?_
  intro p e s m args below meth c s₁ B hml hxt hv
  obtain ⟨hav, ⟨hsz, ⟨hP, hK, hn⟩, hD0⟩, hzt, hzu⟩ := hv
  have hx := B.exec
  have hb := B.bytes
  have hr := B.returns
  have hts := atoms_spec (ws := wsX3_addKind) B.pre
  have hown : s.vm.findClass RX3 = some m.cls := findClass_of_methodNamed B.named
  have hlocks := B.notSynchronized
  subst hsz
  have hD := hD0.self (sz := s.heap.size)
  generalize hAe : (va_A (w3 a cI cZ nk pa fa nc fo th tg nt tb te tk tt nu ub ue uk ut re ro fu bl go ra rc ex tc es wy) s.heap.size) = A at hD hzu ⊢
  have hA : ∀ q : Nat, s.heap.size ≤ q → A q := fun q h => by rw [← hAe]; exact Or.inr h
  have hS : va_S A s.heap s.heap [] := va_S.rf
  generalize hQ : vx_MQ below (va_Qi (fun (r : Int32) (fa9 : Nat → Int32) => r = nI nk ∧ (hasI x nk = true ∧ nk < 8) ∧ g3 (nk + 1) fa9 (upN up nk x.toNatClampNeg) nt tb te tk tt T ∧ okC (nk + 1) nc fo th tg) (fun fa9 t => zWo (dC, dI) [(cI, .int), (cZ, .boolean), (cJ, .long)] (w3 a cI cZ (nk + 1) (upd pa nk x) fa9 nc fo th tg nt tb te tk tt nu ub ue uk ut re ro fu bl go ra rc ex tc es wy) A t) A) (vx_X (fun (_ : Unit) => True) (fun E _ t => ((E = "java/lang/IndexOutOfBoundsException" ∧ hasI x nk = false) ∨ (E = "java/lang/IllegalStateException" ∧ (hasI x nk = true ∧ nk = 8))) ∧ zWo (dC, dI) [(cI, .int), (cZ, .boolean), (cJ, .long)] (w3 a cI cZ nk pa fa nc fo th tg nt tb te tk tt nu ub ue uk ut re ro fu bl go ra rc ex tc es wy) A t) A) args s 2 12 A = Q
  refine W.eq (g2 := entryFrame m ([.ref (a 0), .int x] : List Value).toArray 2) (by rw [hav]) ?_
  have hl := lv_entry ([.ref (a 0), .int x]) (n := 2) (Nat.le_of_ble_eq_true rfl)
  rw [lg_entry_eq]
  generalize (lg_sl ([.ref (a 0), .int x]) ++ List.replicate (2 - (lg_sl ([.ref (a 0), .int x])).length) Slot.unset).toArray = ls at hl ⊢
  have hl : lv_has ls 2 [(0, .ref (a 0)), (1, .int x)] := hl
  obtain ⟨H, hH⟩ : ∃ H, H = s.heap := ⟨_, rfl⟩
  obtain ⟨locs, hlo⟩ : ∃ q : List Loc, q = [] := ⟨_, rfl⟩
  have hP : va_P (dC, dI) vwCl (w3 a cI cZ nk pa fa nc fo th tg nt tb te tk tt nu ub ue uk ut re ro fu bl go ra rc ex tc es wy) H := by rw [hH]; exact hP
  have hS : va_S A s.heap H locs := by rw [hH, hlo]; exact hS
  refine zz_hl hH hlo ?_
  obtain ⟨hk01, hk8, hnt, hT, hO, hF, hU⟩ := id hg
  obtain ⟨hnc, hC⟩ := id hc
  refine lv_aload_n hx hb dX3_addKind_0 rfl (lv_at hl 0 rfl) ?_
  refine lv_iload_n hx hb dX3_addKind_1 rfl (lv_at hl 1 rfl) ?_
  have hFc := va_free (wc := w3 a cI cZ nk pa fa nc fo th tg nt tb te tk tt nu ub ue uk ut re ro fu bl go ra rc ex tc es wy) hD hS hA [0, 1, 2, 3, 4, 5, 6, 7, 8, 9, 10, 11, 12, 13, 14, 15, 16, 17, 18, 19, 20, 21, 22, 23] rfl
  refine vx_callv (vx_runV (As := [.int x]) (rest := []) ⟨hx, hb, hml, hown, hts⟩ (c_X3_requireKind l dC dI cI cZ cJ a nk pa fa nc fo th tg nt tb te tk tt nu ub ue uk ut re ro fu bl go ra rc ex tc es wy x H.size hlt ) (cwV 1 hts gX3_addKind_X3_requireKind rfl rfl rfl (by decide +kernel) ⟨Nat.le_of_ble_eq_true rfl, Nat.le_of_ble_eq_true rfl⟩) ⟨zTr_blind, va_recv hK hP (ci := 3) (q0 := 0) rfl rfl, zTr_at hP hK hn (hD.weaken (fun _ _ _ _ => trivial)) hzt hzu hS hFc⟩ rfl rfl hl.1 rfl (lv_room (Nat.le_of_ble_eq_true rfl)) dX3_addKind_2 ⟨Nat.le_of_ble_eq_true rfl, Nat.le_of_ble_eq_true rfl⟩) hS (fun q _ h => hFc q h) hFc (fun q _ h => hFc q h) (fun E ce q9 u_9 t H1 locs ht hvm hpx hBX hz1 hk1 hS hc9 hv9 hcl => ?_) (fun u_9 t H1 locs ht hvm hw hB hz1 hk1 hS => ?_)
  · skip
    obtain ⟨hXE, hP1, -, hD1⟩ := hBX
    rw [ht] at hP1
    rw [← hQ]
    refine vx_widen (k := 2) (n := 12) (Nat.le_of_ble_eq_true rfl) (Nat.le_of_ble_eq_true rfl) ?_
    exact vx_out (fun x h => absurd (hxt x h) id) hlocks hc9 hv9 hcl (fun t2 ht2 hvm2 => ⟨(), trivial, ⟨(Or.inl hXE), (by rw [ht2]; exact hP1), va_K.moved hvm2 hK, hD⟩, hS.F ht2⟩) hS.2.2 (Nat.le_refl _) (Nat.le_refl _)
  obtain ⟨hP1, -, hD1⟩ := hB
  rw [ht] at hP1
  obtain ⟨hP, hD⟩ := va_join (wr := []) (w1 := w3 a cI cZ nk pa fa nc fo th tg nt tb te tk tt nu ub ue uk ut re ro fu bl go ra rc ex tc es wy) hP hD [0, 1, 2, 3, 4, 5, 6, 7, 8, 9, 10, 11, 12, 13, 14, 15, 16, 17, 18, 19, 20, 21, 22, 23] [] rfl rfl (by decide) (by decide) hk1 hFc hP1 hD1
  generalize H1 = H at hP hS ⊢
  have hP : va_P (dC, dI) vwCl (w3 a cI cZ nk pa fa nc fo th tg nt tb te tk tt nu ub ue uk ut re ro fu bl go ra rc ex tc es wy) H := hP
  have hD : va_D A (w3 a cI cZ nk pa fa nc fo th tg nt tb te tk tt nu ub ue uk ut re ro fu bl go ra rc ex tc es wy) := hD
  refine W.widen (k := 1) (n := 6) (by omega) (by omega) ?_
  have hok := hw
  obtain ⟨i, hi, rfl⟩ := hasI_at (by omega) hw
  refine lv_aload_n hx hb dX3_addKind_5 rfl (lv_at hl 0 rfl) ?_
  refine va_get (D := (dC, dI)) (ci := 3) (v := .ref (a 1)) (C := RX3) (T := TX3) (N := 15) hx hb hts (by decide +kernel) hown hK hP 0 rfl rfl 0 (by decide) (hts (.fieldLink RX3 12 "HandlerOptimizer" "kinds" "LHandlerOptimizer$Kinds;") (by decide +kernel)) (fun _ h9 => h9) rfl dX3_addKind_6 ?_
  have hPc := hP.sub (ws' := wK (a 1) (a 2) (a 3) cI nk pa fa) [1, 2, 3] rfl
  refine va_calli (va_runVN (As := []) (rest := []) ⟨hx, hb, hml, hown, hts⟩ (c_X1_isFull l dC dI cI cZ cJ (a 1) (a 2) (a 3) nk pa fa (by first | assumption | omega)) ⟨va_cnB 0 hts gX3_addKind_X1_isFull_n61 rfl rfl rfl (hn (.methodLinkNest RX3 61 yX1_isFull "HandlerOptimizer") (by decide +kernel)) (hts (.initialized RX1) (by decide +kernel)) (by decide +kernel) ⟨Nat.le_of_ble_eq_true rfl, Nat.le_of_ble_eq_true rfl⟩, hts (.instanceMethod yX1_isFull) (by decide +kernel), hts (.selects RX1 yX1_isFull yX1_isFull) (by decide +kernel)⟩ ⟨zPre_blind, va_recv hK hPc (ci := 1) (q0 := 0) rfl rfl, zPre_at hPc hK hn⟩ rfl rfl hl.1 rfl (lv_room (Nat.le_of_ble_eq_true rfl)) dX3_addKind_9 ⟨Nat.le_of_ble_eq_true rfl, Nat.le_of_ble_eq_true rfl⟩) hS (fun _ _ h => h.elim) (fun _ h => h.elim) (fun r_2 u_9 t H locs ht hvm hw hB hz1 hk1 hS => ?_)
  have hP := zkeep hP hk1
  subst hw
  refine lv_if_eq (tgt := 25) hx hb dX3_addKind_12 (by decide) (fun c_3 => ?_) (fun c_3 => ?_)
  · skip
    have c9 := of_decide_eq_false (zb_0.mp c_3)
    refine lv_aload_n hx hb dX3_addKind_25 rfl (lv_at hl 0 rfl) ?_
    refine va_get (D := (dC, dI)) (ci := 3) (v := .ref (a 1)) (C := RX3) (T := TX3) (N := 15) hx hb hts (by decide +kernel) hown hK hP 0 rfl rfl 0 (by decide) (hts (.fieldLink RX3 12 "HandlerOptimizer" "kinds" "LHandlerOptimizer$Kinds;") (by decide +kernel)) (fun _ h9 => h9) rfl dX3_addKind_26 ?_
    refine lv_iload_n hx hb dX3_addKind_29 rfl (lv_at hl 1 rfl) ?_
    have hPc := hP.sub (ws' := wK (a 1) (a 2) (a 3) cI nk pa fa) [1, 2, 3] rfl
    have hDc := hD.sub (ws' := wK (a 1) (a 2) (a 3) cI nk pa fa) [1, 2, 3] (by decide) rfl
    have hFc := va_free (wc := wK (a 1) (a 2) (a 3) cI nk pa fa) hD hS hA [1, 2, 3] rfl
    refine va_calli (va_runVN (As := [.int (nI i)]) (rest := []) ⟨hx, hb, hml, hown, hts⟩ (c_X1_append l dC dI cI cZ cJ (a 1) (a 2) (a 3) nk pa fa i up H.size (hi) (by first | assumption | omega) (by first | assumption | omega) (by first | assumption | omega)) ⟨va_cnB 1 hts gX3_addKind_X1_append_n72 rfl rfl rfl (hn (.methodLinkNest RX3 72 yX1_append "HandlerOptimizer") (by decide +kernel)) (hts (.initialized RX1) (by decide +kernel)) (by decide +kernel) ⟨Nat.le_of_ble_eq_true rfl, Nat.le_of_ble_eq_true rfl⟩, hts (.instanceMethod yX1_append) (by decide +kernel), hts (.selects RX1 yX1_append yX1_append) (by decide +kernel)⟩ ⟨zWr_blind, va_recv hK hPc (ci := 1) (q0 := 0) rfl rfl, zWr_at hPc hK hn (hDc.weaken (fun _ _ _ _ => trivial))⟩ rfl rfl hl.1 rfl (lv_room (Nat.le_of_ble_eq_true rfl)) dX3_addKind_30 ⟨Nat.le_of_ble_eq_true rfl, Nat.le_of_ble_eq_true rfl⟩) hS (fun q _ h => hFc q h) hFc (fun r_4 u_9 t H1 locs ht hvm hw hB hz1 hk1 hS => ?_)
    obtain ⟨fa_n, rfl⟩ : ∃ z, z = u_9 := ⟨_, rfl⟩
    obtain ⟨hP1, -, hD1⟩ := hB
    rw [ht] at hP1
    obtain ⟨hP, hD⟩ := va_join (wr := [(a 0, .inr (3, [.ref (a 1), .ref (a 4), .ref (a 8), .ref (a 13), .ref (a 18), .ref (a 19), .int (nI rc), .ref (a 20), .ref (a 21), .ref (a 22), .ref (a 23), .int ex, .int tc, .int es, .long wy]))] ++ wC (a 4) (a 5) (a 6) (a 7) cI nc fo th tg ++ wT (a 8) (a 9) (a 10) (a 11) (a 12) cI nt tb te tk tt ++ wT (a 13) (a 14) (a 15) (a 16) (a 17) cI nu ub ue uk ut ++ [(a 18, .inl (cZ, 48, .inl re)), (a 19, .inl (cI, 48, .inl ro)), (a 20, .inl (cI, 24, .inl fu)), (a 21, .inl (cI, 24, .inl bl)), (a 22, .inl (cI, 384, .inl go)), (a 23, .inl (cI, 49, .inl ra))]) (w1 := wK (a 1) (a 2) (a 3) cI (nk + 1) (upd pa nk (nI i)) fa_n) hP hD [1, 2, 3] [0, 4, 5, 6, 7, 8, 9, 10, 11, 12, 13, 14, 15, 16, 17, 18, 19, 20, 21, 22, 23] rfl rfl (by decide) (by decide) hk1 hFc hP1 hD1
    generalize H1 = H at hP hS ⊢
    have hP := hP.sub (ws' := w3 a cI cZ (nk + 1) (upd pa nk (nI i)) fa_n nc fo th tg nt tb te tk tt nu ub ue uk ut re ro fu bl go ra rc ex tc es wy) [0, 21, 22, 23, 1, 2, 3, 4, 5, 6, 7, 8, 9, 10, 11, 12, 13, 14, 15, 16, 17, 18, 19, 20] rfl
    have hD := hD.sub (ws' := w3 a cI cZ (nk + 1) (upd pa nk (nI i)) fa_n nc fo th tg nt tb te tk tt nu ub ue uk ut re ro fu bl go ra rc ex tc es wy) [0, 21, 22, 23, 1, 2, 3, 4, 5, 6, 7, 8, 9, 10, 11, 12, 13, 14, 15, 16, 17, 18, 19, 20] (by decide) rfl
    have hP : va_P (dC, dI) vwCl (w3 a cI cZ (nk + 1) (upd pa nk (nI i)) fa_n nc fo th tg nt tb te tk tt nu ub ue uk ut re ro fu bl go ra rc ex tc es wy) H := hP
    have hD : va_D A (w3 a cI cZ (nk + 1) (upd pa nk (nI i)) fa_n nc fo th tg nt tb te tk tt nu ub ue uk ut re ro fu bl go ra rc ex tc es wy) := hD
    obtain ⟨hw0, hw⟩ := hw
    subst hw0
    have hF9 := hw
    rw [← hQ]
    refine vx_ret ?_
    refine W.widen (k := 2) (n := 12) (by omega) (by omega) ?_
    have hP9 := hP
    have hD9 := hD
    exact W.iret (v := nI nk) hx hb hr (fun t ht hW => ⟨⟨nI nk, fa_n, rfl, (by rw [nI_clamp (by omega)]; exact ⟨rfl, ⟨hok, by omega⟩, ⟨by omega, by omega, hnt, hT, okT_up hO, hF9, okU_up hU hi⟩, okC_up hc⟩), (by rw [ht]; exact hP9), va_K.moved hW.alike hK, hD9⟩, hS.F ht⟩) hS.2.2 dX3_addKind_33
  · skip
    have c9 := of_decide_eq_true (zb_1.mp c_3)
    rw [← hQ]
    obtain ⟨sa, hstr⟩ := hzt.2 (67, "there are 8 kinds") (by decide +kernel)
    have hat := vx_hat (args := args) (s := s) (L := vx_atS RX3 69 "java/lang/IllegalStateException" ["java/lang/RuntimeException", "java/lang/Exception"]) (B := zw_l) (fun w hw => hts w (zx_X3_addKind_15 w hw)) (by decide +kernel) (zt_use hzt)
    exact vx_throwS hx hb hlt (own := RX3) (cls := "java/lang/IllegalStateException") (text := "there are 8 kinds") (names := ["java/lang/RuntimeException", "java/lang/Exception"]) (ik := 65) (is := 67) (ic := 69) (sa := sa) hown (by decide +kernel) (by decide +kernel) (hts (.classLink RX3 65 "java/lang/IllegalStateException") (by decide +kernel)) (hts (.initialized "java/lang/IllegalStateException") (by decide +kernel)) hstr hat (by decide +kernel) hzu.1 hzu.2 hS (hl.1.trans hml.symm) dX3_addKind_15 dX3_addKind_18 dX3_addKind_19 dX3_addKind_21 dX3_addKind_24 (fun x h => absurd (hxt x h) id) (Nat.le_of_ble_eq_true rfl) (Nat.le_of_ble_eq_true rfl) (Nat.le_of_ble_eq_true rfl) (Nat.le_of_ble_eq_true rfl) hlocks (fun t hvm hz hk => ⟨(), trivial, ⟨(Or.inr ⟨rfl, hok, by omega⟩), zz_keep2 hP hk, va_K.moved hvm hK, hD⟩, zz_thr hS hz hk⟩) hS.2.2 (Nat.le_of_ble_eq_true rfl) (Nat.le_of_ble_eq_true rfl)


set_option maxHeartbeats 4000000 in
set_option maxRecDepth 100000 in
theorem c_X3_isBelow (l : Launch) (dC : Nat → ClassId) (dI : Nat → Nat → Nat) (cI cZ cJ : ClassId) (a : Nat → Nat) (nk : Nat) (pa : Nat → Int32) (fa : Nat → Int32) (nc : Nat) (fo : Nat → Int32) (th : Nat → Int32) (tg : Nat → Int32) (nt : Nat) (tb : Nat → Int32) (te : Nat → Int32) (tk : Nat → Int32) (tt : Nat → Int32) (nu : Nat) (ub : Nat → Int32) (ue : Nat → Int32) (uk : Nat → Int32) (ut : Nat → Int32) (re : Nat → Int32) (ro : Nat → Int32) (fu : Nat → Int32) (bl : Nat → Int32) (go : Nat → Int32) (ra : Nat → Int32) (rc : Nat) (ex : Int32) (tc : Int32) (es : Int32) (wy : Int64) (x : Int32) (y : Int32) (T : Nat → Nat → Nat) (up : Nat → Nat → Bool) (sz : Nat) (hlt : l.stackTraces = false) (hg : g3 nk fa up nt tb te tk tt T) (hc : okC nk nc fo th tg) : vx_Met l yX3_isBelow wsX3_isBelow ({ frames := 7, cells := 2, slots := 12, locals := 103 } : Room) (va_Pc [.ref (a 0), .int x, .int y] (zTr (dC, dI) [(cI, .int), (cZ, .boolean), (cJ, .long)] (w3 a cI cZ nk pa fa nc fo th tg nt tb te tk tt nu ub ue uk ut re ro fu bl go ra rc ex tc es wy) sz)) (va_Qi (fun (r : Int32) (_ : Unit) => r = bI (!decide (x = y) && up x.toNatClampNeg y.toNatClampNeg) ∧ (hasI x nk && hasI y nk) = true) (fun _ t => zWo (dC, dI) [(cI, .int), (cZ, .boolean), (cJ, .long)] (w3 a cI cZ nk pa fa nc fo th tg nt tb te tk tt nu ub ue uk ut re ro fu bl go ra rc ex tc es wy) (va_A (w3 a cI cZ nk pa fa nc fo th tg nt tb te tk tt nu ub ue uk ut re ro fu bl go ra rc ex tc es wy) sz) t) (va_A (w3 a cI cZ nk pa fa nc fo th tg nt tb te tk tt nu ub ue uk ut re ro fu bl go ra rc ex tc es wy) sz)) (vx_X (fun (_ : Unit) => True) (fun E _ t => ((E = "java/lang/IndexOutOfBoundsException" ∧ (hasI x nk && hasI y nk) = false)) ∧ zWo (dC, dI) [(cI, .int), (cZ, .boolean), (cJ, .long)] (w3 a cI cZ nk pa fa nc fo th tg nt tb te tk tt nu ub ue uk ut re ro fu bl go ra rc ex tc es wy) (va_A (w3 a cI cZ nk pa fa nc fo th tg nt tb te tk tt nu ub ue uk ut re ro fu bl go ra rc ex tc es wy) sz) t) (va_A (w3 a cI cZ nk pa fa nc fo th tg nt tb te tk tt nu ub ue uk ut re ro fu bl go ra rc ex tc es wy) sz)) 2 12 (va_A (w3 a cI cZ nk pa fa nc fo th tg nt tb te tk tt nu ub ue uk ut re ro fu bl go ra rc ex tc es wy) sz) := by
  refine vx_ofW (cc := cX3_isBelow) (maxL := 3) (ret := (some .boolean)) (by decide) rfl ?_
  intro p e s m args below meth c s₁ B hml hxt hv
  obtain ⟨hav, ⟨hsz, ⟨hP, hK, hn⟩, hD0⟩, hzt, hzu⟩ := hv
  have hx := B.exec
  have hb := B.bytes
  have hr := B.returns
  have hts := atoms_spec (ws := wsX3_isBelow) B.pre
  have hown : s.vm.findClass RX3 = some m.cls := findClass_of_methodNamed B.named
  have hlocks := B.notSynchronized
  subst hsz
  have hD := hD0.self (sz := s.heap.size)
  generalize hAe : (va_A (w3 a cI cZ nk pa fa nc fo th tg nt tb te tk tt nu ub ue uk ut re ro fu bl go ra rc ex tc es wy) s.heap.size) = A at hD hzu ⊢
  have hA : ∀ q : Nat, s.heap.size ≤ q → A q := fun q h => by rw [← hAe]; exact Or.inr h
  have hS : va_S A s.heap s.heap [] := va_S.rf
  generalize hQ : vx_MQ below (va_Qi (fun (r : Int32) (_ : Unit) => r = bI (!decide (x = y) && up x.toNatClampNeg y.toNatClampNeg) ∧ (hasI x nk && hasI y nk) = true) (fun _ t => zWo (dC, dI) [(cI, .int), (cZ, .boolean), (cJ, .long)] (w3 a cI cZ nk pa fa nc fo th tg nt tb te tk tt nu ub ue uk ut re ro fu bl go ra rc ex tc es wy) A t) A) (vx_X (fun (_ : Unit) => True) (fun E _ t => ((E = "java/lang/IndexOutOfBoundsException" ∧ (hasI x nk && hasI y nk) = false)) ∧ zWo (dC, dI) [(cI, .int), (cZ, .boolean), (cJ, .long)] (w3 a cI cZ nk pa fa nc fo th tg nt tb te tk tt nu ub ue uk ut re ro fu bl go ra rc ex tc es wy) A t) A) args s 2 12 A = Q
  refine W.eq (g2 := entryFrame m ([.ref (a 0), .int x, .int y] : List Value).toArray 3) (by rw [hav]) ?_
  have hl := lv_entry ([.ref (a 0), .int x, .int y]) (n := 3) (Nat.le_of_ble_eq_true rfl)
  rw [lg_entry_eq]
  generalize (lg_sl ([.ref (a 0), .int x, .int y]) ++ List.replicate (3 - (lg_sl ([.ref (a 0), .int x, .int y])).length) Slot.unset).toArray = ls at hl ⊢
  have hl : lv_has ls 3 [(0, .ref (a 0)), (1, .int x), (2, .int y)] := hl
  obtain ⟨H, hH⟩ : ∃ H, H = s.heap := ⟨_, rfl⟩
  obtain ⟨locs, hlo⟩ : ∃ q : List Loc, q = [] := ⟨_, rfl⟩
  have hP : va_P (dC, dI) vwCl (w3 a cI cZ nk pa fa nc fo th tg nt tb te tk tt nu ub ue uk ut re ro fu bl go ra rc ex tc es wy) H := by rw [hH]; exact hP
  have hS : va_S A s.heap H locs := by rw [hH, hlo]; exact hS
  refine zz_hl hH hlo ?_
  obtain ⟨hk01, hk8, hnt, hT, hO, hF, hU⟩ := id hg
  obtain ⟨hnc, hC⟩ := id hc
  refine lv_aload_n hx hb dX3_isBelow_0 rfl (lv_at hl 0 rfl) ?_
  refine lv_iload_n hx hb dX3_isBelow_1 rfl (lv_at hl 1 rfl) ?_
  have hFc := va_free (wc := w3 a cI cZ nk pa fa nc fo th tg nt tb te tk tt nu ub ue uk ut re ro fu bl go ra rc ex tc es wy) hD hS hA [0, 1, 2, 3, 4, 5, 6, 7, 8, 9, 10, 11, 12, 13, 14, 15, 16, 17, 18, 19, 20, 21, 22, 23] rfl
  refine vx_callv (vx_runV (As := [.int x]) (rest := []) ⟨hx, hb, hml, hown, hts⟩ (c_X3_requireKind l dC dI cI cZ cJ a nk pa fa nc fo th tg nt tb te tk tt nu ub ue uk ut re ro fu bl go ra rc ex tc es wy x H.size hlt ) (cwV 1 hts gX3_isBelow_X3_requireKind rfl rfl rfl (by decide +kernel) ⟨Nat.le_of_ble_eq_true rfl, Nat.le_of_ble_eq_true rfl⟩) ⟨zTr_blind, va_recv hK hP (ci := 3) (q0 := 0) rfl rfl, zTr_at hP hK hn (hD.weaken (fun _ _ _ _ => trivial)) hzt hzu hS hFc⟩ rfl rfl hl.1 rfl (lv_room (Nat.le_of_ble_eq_true rfl)) dX3_isBelow_2 ⟨Nat.le_of_ble_eq_true rfl, Nat.le_of_ble_eq_true rfl⟩) hS (fun q _ h => hFc q h) hFc (fun q _ h => hFc q h) (fun E ce q9 u_9 t H1 locs ht hvm hpx hBX hz1 hk1 hS hc9 hv9 hcl => ?_) (fun u_9 t H1 locs ht hvm hw hB hz1 hk1 hS => ?_)
  · skip
    obtain ⟨hXE, hP1, -, hD1⟩ := hBX
    rw [ht] at hP1
    rw [← hQ]
    refine vx_widen (k := 2) (n := 12) (Nat.le_of_ble_eq_true rfl) (Nat.le_of_ble_eq_true rfl) ?_
    exact vx_out (fun x h => absurd (hxt x h) id) hlocks hc9 hv9 hcl (fun t2 ht2 hvm2 => ⟨(), trivial, ⟨(⟨hXE.1, by rw [hXE.2]; rfl⟩), (by rw [ht2]; exact hP1), va_K.moved hvm2 hK, hD⟩, hS.F ht2⟩) hS.2.2 (Nat.le_refl _) (Nat.le_refl _)
  obtain ⟨hP1, -, hD1⟩ := hB
  rw [ht] at hP1
  obtain ⟨hP, hD⟩ := va_join (wr := []) (w1 := w3 a cI cZ nk pa fa nc fo th tg nt tb te tk tt nu ub ue uk ut re ro fu bl go ra rc ex tc es wy) hP hD [0, 1, 2, 3, 4, 5, 6, 7, 8, 9, 10, 11, 12, 13, 14, 15, 16, 17, 18, 19, 20, 21, 22, 23] [] rfl rfl (by decide) (by decide) hk1 hFc hP1 hD1
  generalize H1 = H at hP hS ⊢
  have hP : va_P (dC, dI) vwCl (w3 a cI cZ nk pa fa nc fo th tg nt tb te tk tt nu ub ue uk ut re ro fu bl go ra rc ex tc es wy) H := hP
  have hD : va_D A (w3 a cI cZ nk pa fa nc fo th tg nt tb te tk tt nu ub ue uk ut re ro fu bl go ra rc ex tc es wy) := hD
  refine W.widen (k := 1) (n := 6) (by omega) (by omega) ?_
  have hok1 := hw
  obtain ⟨i, hi, rfl⟩ := hasI_at (by omega) hw
  refine lv_aload_n hx hb dX3_isBelow_5 rfl (lv_at hl 0 rfl) ?_
  refine lv_iload_n hx hb dX3_isBelow_6 rfl (lv_at hl 2 rfl) ?_
  have hFc := va_free (wc := w3 a cI cZ nk pa fa nc fo th tg nt tb te tk tt nu ub ue uk ut re ro fu bl go ra rc ex tc es wy) hD hS hA [0, 1, 2, 3, 4, 5, 6, 7, 8, 9, 10, 11, 12, 13, 14, 15, 16, 17, 18, 19, 20, 21, 22, 23] rfl
  refine vx_callv (vx_runV (As := [.int y]) (rest := []) ⟨hx, hb, hml, hown, hts⟩ (c_X3_requireKind l dC dI cI cZ cJ a nk pa fa nc fo th tg nt tb te tk tt nu ub ue uk ut re ro fu bl go ra rc ex tc es wy y H.size hlt ) (cwV 1 hts gX3_isBelow_X3_requireKind rfl rfl rfl (by decide +kernel) ⟨Nat.le_of_ble_eq_true rfl, Nat.le_of_ble_eq_true rfl⟩) ⟨zTr_blind, va_recv hK hP (ci := 3) (q0 := 0) rfl rfl, zTr_at hP hK hn (hD.weaken (fun _ _ _ _ => trivial)) hzt hzu hS hFc⟩ rfl rfl hl.1 rfl (lv_room (Nat.le_of_ble_eq_true rfl)) dX3_isBelow_7 ⟨Nat.le_of_ble_eq_true rfl, Nat.le_of_ble_eq_true rfl⟩) hS (fun q _ h => hFc q h) hFc (fun q _ h => hFc q h) (fun E ce q9 u_9 t H1 locs ht hvm hpx hBX hz1 hk1 hS hc9 hv9 hcl => ?_) (fun u_9 t H1 locs ht hvm hw hB hz1 hk1 hS => ?_)
  · skip
    obtain ⟨hXE, hP1, -, hD1⟩ := hBX
    rw [ht] at hP1
    rw [← hQ]
    refine vx_widen (k := 2) (n := 12) (Nat.le_of_ble_eq_true rfl) (Nat.le_of_ble_eq_true rfl) ?_
    exact vx_out (fun x h => absurd (hxt x h) id) hlocks hc9 hv9 hcl (fun t2 ht2 hvm2 => ⟨(), trivial, ⟨(⟨hXE.1, by rw [hXE.2]; exact Bool.and_false _⟩), (by rw [ht2]; exact hP1), va_K.moved hvm2 hK, hD⟩, hS.F ht2⟩) hS.2.2 (Nat.le_refl _) (Nat.le_refl _)
  obtain ⟨hP1, -, hD1⟩ := hB
  rw [ht] at hP1
  obtain ⟨hP, hD⟩ := va_join (wr := []) (w1 := w3 a cI cZ nk pa fa nc fo th tg nt tb te tk tt nu ub ue uk ut re ro fu bl go ra rc ex tc es wy) hP hD [0, 1, 2, 3, 4, 5, 6, 7, 8, 9, 10, 11, 12, 13, 14, 15, 16, 17, 18, 19, 20, 21, 22, 23] [] rfl rfl (by decide) (by decide) hk1 hFc hP1 hD1
  generalize H1 = H at hP hS ⊢
  have hP : va_P (dC, dI) vwCl (w3 a cI cZ nk pa fa nc fo th tg nt tb te tk tt nu ub ue uk ut re ro fu bl go ra rc ex tc es wy) H := hP
  have hD : va_D A (w3 a cI cZ nk pa fa nc fo th tg nt tb te tk tt nu ub ue uk ut re ro fu bl go ra rc ex tc es wy) := hD
  refine W.widen (k := 2) (n := 12) (by omega) (by omega) ?_
  have hok2 := hw
  obtain ⟨j, hj, rfl⟩ := hasI_at (by omega) hw
  refine lv_iload_n hx hb dX3_isBelow_10 rfl (lv_at hl 1 rfl) ?_
  refine lv_iload_n hx hb dX3_isBelow_11 rfl (lv_at hl 2 rfl) ?_
  refine lv_icmp_eq (tgt := 31) hx hb dX3_isBelow_12 (by decide) (fun c_3 => ?_) (fun c_3 => ?_)
  · skip
    have c_3 := (zz_eqt (a := i) (b := j) (by omega) (by omega)).mp c_3
    refine lv_iconst (v := 0) hx hb dX3_isBelow_31 (by decide) ?_
    rw [← hQ]
    refine vx_ret ?_
    have hP9 := hP
    have hD9 := hD
    exact W.zret (v := 0) hx hb hr rfl (fun t ht hW => ⟨⟨0, (), rfl, (by rw [nI_clamp (by omega), nI_clamp (by omega)]; simp [bI, *]), (by rw [ht]; exact hP9), va_K.moved hW.alike hK, hD9⟩, hS.F ht⟩) hS.2.2 dX3_isBelow_32
  · skip
    have c_3 := (zz_eqf (a := i) (b := j) (by omega) (by omega)).mp c_3
    refine lv_aload_n hx hb dX3_isBelow_15 rfl (lv_at hl 0 rfl) ?_
    refine va_get (D := (dC, dI)) (ci := 3) (v := .ref (a 1)) (C := RX3) (T := TX3) (N := 15) hx hb hts (by decide +kernel) hown hK hP 0 rfl rfl 0 (by decide) (hts (.fieldLink RX3 12 "HandlerOptimizer" "kinds" "LHandlerOptimizer$Kinds;") (by decide +kernel)) (fun _ h9 => h9) rfl dX3_isBelow_16 ?_
    refine lv_iload_n hx hb dX3_isBelow_19 rfl (lv_at hl 1 rfl) ?_
    refine lv_iload_n hx hb dX3_isBelow_20 rfl (lv_at hl 2 rfl) ?_
    have hPc := hP.sub (ws' := wK (a 1) (a 2) (a 3) cI nk pa fa) [1, 2, 3] rfl
    refine va_calli (va_runVN (As := [.int (nI i), .int (nI j)]) (rest := []) ⟨hx, hb, hml, hown, hts⟩ (c_X1_isInFamily l dC dI cI cZ cJ (a 1) (a 2) (a 3) nk pa fa i j (by omega) (by omega)) ⟨va_cnB 2 hts gX3_isBelow_X1_isInFamily_n79 rfl rfl rfl (hn (.methodLinkNest RX3 79 yX1_isInFamily "HandlerOptimizer") (by decide +kernel)) (hts (.initialized RX1) (by decide +kernel)) (by decide +kernel) ⟨Nat.le_of_ble_eq_true rfl, Nat.le_of_ble_eq_true rfl⟩, hts (.instanceMethod yX1_isInFamily) (by decide +kernel), hts (.selects RX1 yX1_isInFamily yX1_isInFamily) (by decide +kernel)⟩ ⟨zPre_blind, va_recv hK hPc (ci := 1) (q0 := 0) rfl rfl, zPre_at hPc hK hn⟩ rfl rfl hl.1 rfl (lv_room (Nat.le_of_ble_eq_true rfl)) dX3_isBelow_21 ⟨Nat.le_of_ble_eq_true rfl, Nat.le_of_ble_eq_true rfl⟩) hS (fun _ _ h => h.elim) (fun _ h => h.elim) (fun r_4 u_9 t H locs ht hvm hw hB hz1 hk1 hS => ?_)
    have hP := zkeep hP hk1
    subst hw
    refine lv_if_eq (tgt := 31) hx hb dX3_isBelow_24 (by decide) (fun c_5 => ?_) (fun c_5 => ?_)
    · skip
      have c9 := zb_0.mp c_5
      rw [hF j hj i (by omega)] at c9
      refine lv_iconst (v := 0) hx hb dX3_isBelow_31 (by decide) ?_
      rw [← hQ]
      refine vx_ret ?_
      have hP9 := hP
      have hD9 := hD
      exact W.zret (v := 0) hx hb hr rfl (fun t ht hW => ⟨⟨0, (), rfl, (by rw [nI_clamp (by omega), nI_clamp (by omega)]; simp [bI, *]), (by rw [ht]; exact hP9), va_K.moved hW.alike hK, hD9⟩, hS.F ht⟩) hS.2.2 dX3_isBelow_32
    · skip
      have c9 := zb_1.mp c_5
      rw [hF j hj i (by omega)] at c9
      refine lv_iconst (v := 1) hx hb dX3_isBelow_27 (by decide) ?_
      refine lv_goto (tgt := 32) hx hb dX3_isBelow_28 (by decide) ?_
      rw [← hQ]
      refine vx_ret ?_
      have hP9 := hP
      have hD9 := hD
      exact W.zret (v := 1) hx hb hr rfl (fun t ht hW => ⟨⟨1, (), rfl, (by rw [nI_clamp (by omega), nI_clamp (by omega)]; simp [bI, *]), (by rw [ht]; exact hP9), va_K.moved hW.alike hK, hD9⟩, hS.F ht⟩) hS.2.2 dX3_isBelow_32


set_option maxHeartbeats 4000000 in
set_option maxRecDepth 100000 in
theorem c_X3_common (l : Launch) (dC : Nat → ClassId) (dI : Nat → Nat → Nat) (cI cZ cJ : ClassId) (a : Nat → Nat) (nk : Nat) (pa : Nat → Int32) (fa : Nat → Int32) (nc : Nat) (fo : Nat → Int32) (th : Nat → Int32) (tg : Nat → Int32) (nt : Nat) (tb : Nat → Int32) (te : Nat → Int32) (tk : Nat → Int32) (tt : Nat → Int32) (nu : Nat) (ub : Nat → Int32) (ue : Nat → Int32) (uk : Nat → Int32) (ut : Nat → Int32) (re : Nat → Int32) (ro : Nat → Int32) (fu : Nat → Int32) (bl : Nat → Int32) (go : Nat → Int32) (ra : Nat → Int32) (rc : Nat) (ex : Int32) (tc : Int32) (es : Int32) (wy : Int64) (x : Int32) (y : Int32) (T : Nat → Nat → Nat) (up : Nat → Nat → Bool) (sz : Nat) (hlt : l.stackTraces = false) (hg : g3 nk fa up nt tb te tk tt T) (hc : okC nk nc fo th tg) : vx_Met l yX3_common wsX3_common ({ frames := 7, cells := 2, slots := 12, locals := 103 } : Room) (va_Pc [.ref (a 0), .int x, .int y] (zTr (dC, dI) [(cI, .int), (cZ, .boolean), (cJ, .long)] (w3 a cI cZ nk pa fa nc fo th tg nt tb te tk tt nu ub ue uk ut re ro fu bl go ra rc ex tc es wy) sz)) (va_Qi (fun (r : Int32) (_ : Unit) => r = nI (lw up nk x.toNatClampNeg y.toNatClampNeg) ∧ (hasI x nk && hasI y nk) = true) (fun _ t => zWo (dC, dI) [(cI, .int), (cZ, .boolean), (cJ, .long)] (w3 a cI cZ nk pa fa nc fo th tg nt tb te tk tt nu ub ue uk ut re ro fu bl go ra rc ex tc es wy) (va_A (w3 a cI cZ nk pa fa nc fo th tg nt tb te tk tt nu ub ue uk ut re ro fu bl go ra rc ex tc es wy) sz) t) (va_A (w3 a cI cZ nk pa fa nc fo th tg nt tb te tk tt nu ub ue uk ut re ro fu bl go ra rc ex tc es wy) sz)) (vx_X (fun (_ : Unit) => True) (fun E _ t => ((E = "java/lang/IndexOutOfBoundsException" ∧ (hasI x nk && hasI y nk) = false)) ∧ zWo (dC, dI) [(cI, .int), (cZ, .boolean), (cJ, .long)] (w3 a cI cZ nk pa fa nc fo th tg nt tb te tk tt nu ub ue uk ut re ro fu bl go ra rc ex tc es wy) (va_A (w3 a cI cZ nk pa fa nc fo th tg nt tb te tk tt nu ub ue uk ut re ro fu bl go ra rc ex tc es wy) sz) t) (va_A (w3 a cI cZ nk pa fa nc fo th tg nt tb te tk tt nu ub ue uk ut re ro fu bl go ra rc ex tc es wy) sz)) 2 12 (va_A (w3 a cI cZ nk pa fa nc fo th tg nt tb te tk tt nu ub ue uk ut re ro fu bl go ra rc ex tc es wy) sz) := by
  refine vx_ofW (cc := cX3_common) (maxL := 3) (ret := (some .int)) (by decide) rfl ?_
  intro p e s m args below meth c s₁ B hml hxt hv
  obtain ⟨hav, ⟨hsz, ⟨hP, hK, hn⟩, hD0⟩, hzt, hzu⟩ := hv
  have hx := B.exec
  have hb := B.bytes
  have hr := B.returns
  have hts := atoms_spec (ws := wsX3_common) B.pre
  have hown : s.vm.findClass RX3 = some m.cls := findClass_of_methodNamed B.named
  have hlocks := B.notSynchronized
  subst hsz
  have hD := hD0.self (sz := s.heap.size)
  generalize hAe : (va_A (w3 a cI cZ nk pa fa nc fo th tg nt tb te tk tt nu ub ue uk ut re ro fu bl go ra rc ex tc es wy) s.heap.size) = A at hD hzu ⊢
  have hA : ∀ q : Nat, s.heap.size ≤ q → A q := fun q h => by rw [← hAe]; exact Or.inr h
  have hS : va_S A s.heap s.heap [] := va_S.rf
  generalize hQ : vx_MQ below (va_Qi (fun (r : Int32) (_ : Unit) => r = nI (lw up nk x.toNatClampNeg y.toNatClampNeg) ∧ (hasI x nk && hasI y nk) = true) (fun _ t => zWo (dC, dI) [(cI, .int), (cZ, .boolean), (cJ, .long)] (w3 a cI cZ nk pa fa nc fo th tg nt tb te tk tt nu ub ue uk ut re ro fu bl go ra rc ex tc es wy) A t) A) (vx_X (fun (_ : Unit) => True) (fun E _ t => ((E = "java/lang/IndexOutOfBoundsException" ∧ (hasI x nk && hasI y nk) = false)) ∧ zWo (dC, dI) [(cI, .int), (cZ, .boolean), (cJ, .long)] (w3 a cI cZ nk pa fa nc fo th tg nt tb te tk tt nu ub ue uk ut re ro fu bl go ra rc ex tc es wy) A t) A) args s 2 12 A = Q
  refine W.eq (g2 := entryFrame m ([.ref (a 0), .int x, .int y] : List Value).toArray 3) (by rw [hav]) ?_
  have hl := lv_entry ([.ref (a 0), .int x, .int y]) (n := 3) (Nat.le_of_ble_eq_true rfl)
  rw [lg_entry_eq]
  generalize (lg_sl ([.ref (a 0), .int x, .int y]) ++ List.replicate (3 - (lg_sl ([.ref (a 0), .int x, .int y])).length) Slot.unset).toArray = ls at hl ⊢
  have hl : lv_has ls 3 [(0, .ref (a 0)), (1, .int x), (2, .int y)] := hl
  obtain ⟨H, hH⟩ : ∃ H, H = s.heap := ⟨_, rfl⟩
  obtain ⟨locs, hlo⟩ : ∃ q : List Loc, q = [] := ⟨_, rfl⟩
  have hP : va_P (dC, dI) vwCl (w3 a cI cZ nk pa fa nc fo th tg nt tb te tk tt nu ub ue uk ut re ro fu bl go ra rc ex tc es wy) H := by rw [hH]; exact hP
  have hS : va_S A s.heap H locs := by rw [hH, hlo]; exact hS
  refine zz_hl hH hlo ?_
  obtain ⟨hk01, hk8, hnt, hT, hO, hF, hU⟩ := id hg
  obtain ⟨hnc, hC⟩ := id hc
  refine lv_aload_n hx hb dX3_common_0 rfl (lv_at hl 0 rfl) ?_
  refine lv_iload_n hx hb dX3_common_1 rfl (lv_at hl 1 rfl) ?_
  have hFc := va_free (wc := w3 a cI cZ nk pa fa nc fo th tg nt tb te tk tt nu ub ue uk ut re ro fu bl go ra rc ex tc es wy) hD hS hA [0, 1, 2, 3, 4, 5, 6, 7, 8, 9, 10, 11, 12, 13, 14, 15, 16, 17, 18, 19, 20, 21, 22, 23] rfl
  refine vx_callv (vx_runV (As := [.int x]) (rest := []) ⟨hx, hb, hml, hown, hts⟩ (c_X3_requireKind l dC dI cI cZ cJ a nk pa fa nc fo th tg nt tb te tk tt nu ub ue uk ut re ro fu bl go ra rc ex tc es wy x H.size hlt ) (cwV 1 hts gX3_common_X3_requireKind rfl rfl rfl (by decide +kernel) ⟨Nat.le_of_ble_eq_true rfl, Nat.le_of_ble_eq_true rfl⟩) ⟨zTr_blind, va_recv hK hP (ci := 3) (q0 := 0) rfl rfl, zTr_at hP hK hn (hD.weaken (fun _ _ _ _ => trivial)) hzt hzu hS hFc⟩ rfl rfl hl.1 rfl (lv_room (Nat.le_of_ble_eq_true rfl)) dX3_common_2 ⟨Nat.le_of_ble_eq_true rfl, Nat.le_of_ble_eq_true rfl⟩) hS (fun q _ h => hFc q h) hFc (fun q _ h => hFc q h) (fun E ce q9 u_9 t H1 locs ht hvm hpx hBX hz1 hk1 hS hc9 hv9 hcl => ?_) (fun u_9 t H1 locs ht hvm hw hB hz1 hk1 hS => ?_)
  · skip
    obtain ⟨hXE, hP1, -, hD1⟩ := hBX
    rw [ht] at hP1
    rw [← hQ]
    refine vx_widen (k := 2) (n := 12) (Nat.le_of_ble_eq_true rfl) (Nat.le_of_ble_eq_true rfl) ?_
    exact vx_out (fun x h => absurd (hxt x h) id) hlocks hc9 hv9 hcl (fun t2 ht2 hvm2 => ⟨(), trivial, ⟨(⟨hXE.1, by rw [hXE.2]; rfl⟩), (by rw [ht2]; exact hP1), va_K.moved hvm2 hK, hD⟩, hS.F ht2⟩) hS.2.2 (Nat.le_refl _) (Nat.le_refl _)
  obtain ⟨hP1, -, hD1⟩ := hB
  rw [ht] at hP1
  obtain ⟨hP, hD⟩ := va_join (wr := []) (w1 := w3 a cI cZ nk pa fa nc fo th tg nt tb te tk tt nu ub ue uk ut re ro fu bl go ra rc ex tc es wy) hP hD [0, 1, 2, 3, 4, 5, 6, 7, 8, 9, 10, 11, 12, 13, 14, 15, 16, 17, 18, 19, 20, 21, 22, 23] [] rfl rfl (by decide) (by decide) hk1 hFc hP1 hD1
  generalize H1 = H at hP hS ⊢
  have hP : va_P (dC, dI) vwCl (w3 a cI cZ nk pa fa nc fo th tg nt tb te tk tt nu ub ue uk ut re ro fu bl go ra rc ex tc es wy) H := hP
  have hD : va_D A (w3 a cI cZ nk pa fa nc fo th tg nt tb te tk tt nu ub ue uk ut re ro fu bl go ra rc ex tc es wy) := hD
  refine W.widen (k := 1) (n := 6) (by omega) (by omega) ?_
  have hok1 := hw
  obtain ⟨i, hi, rfl⟩ := hasI_at (by omega) hw
  refine lv_aload_n hx hb dX3_common_5 rfl (lv_at hl 0 rfl) ?_
  refine lv_iload_n hx hb dX3_common_6 rfl (lv_at hl 2 rfl) ?_
  have hFc := va_free (wc := w3 a cI cZ nk pa fa nc fo th tg nt tb te tk tt nu ub ue uk ut re ro fu bl go ra rc ex tc es wy) hD hS hA [0, 1, 2, 3, 4, 5, 6, 7, 8, 9, 10, 11, 12, 13, 14, 15, 16, 17, 18, 19, 20, 21, 22, 23] rfl
  refine vx_callv (vx_runV (As := [.int y]) (rest := []) ⟨hx, hb, hml, hown, hts⟩ (c_X3_requireKind l dC dI cI cZ cJ a nk pa fa nc fo th tg nt tb te tk tt nu ub ue uk ut re ro fu bl go ra rc ex tc es wy y H.size hlt ) (cwV 1 hts gX3_common_X3_requireKind rfl rfl rfl (by decide +kernel) ⟨Nat.le_of_ble_eq_true rfl, Nat.le_of_ble_eq_true rfl⟩) ⟨zTr_blind, va_recv hK hP (ci := 3) (q0 := 0) rfl rfl, zTr_at hP hK hn (hD.weaken (fun _ _ _ _ => trivial)) hzt hzu hS hFc⟩ rfl rfl hl.1 rfl (lv_room (Nat.le_of_ble_eq_true rfl)) dX3_common_7 ⟨Nat.le_of_ble_eq_true rfl, Nat.le_of_ble_eq_true rfl⟩) hS (fun q _ h => hFc q h) hFc (fun q _ h => hFc q h) (fun E ce q9 u_9 t H1 locs ht hvm hpx hBX hz1 hk1 hS hc9 hv9 hcl => ?_) (fun u_9 t H1 locs ht hvm hw hB hz1 hk1 hS => ?_)
  · skip
    obtain ⟨hXE, hP1, -, hD1⟩ := hBX
    rw [ht] at hP1
    rw [← hQ]
    refine vx_widen (k := 2) (n := 12) (Nat.le_of_ble_eq_true rfl) (Nat.le_of_ble_eq_true rfl) ?_
    exact vx_out (fun x h => absurd (hxt x h) id) hlocks hc9 hv9 hcl (fun t2 ht2 hvm2 => ⟨(), trivial, ⟨(⟨hXE.1, by rw [hXE.2]; exact Bool.and_false _⟩), (by rw [ht2]; exact hP1), va_K.moved hvm2 hK, hD⟩, hS.F ht2⟩) hS.2.2 (Nat.le_refl _) (Nat.le_refl _)
  obtain ⟨hP1, -, hD1⟩ := hB
  rw [ht] at hP1
  obtain ⟨hP, hD⟩ := va_join (wr := []) (w1 := w3 a cI cZ nk pa fa nc fo th tg nt tb te tk tt nu ub ue uk ut re ro fu bl go ra rc ex tc es wy) hP hD [0, 1, 2, 3, 4, 5, 6, 7, 8, 9, 10, 11, 12, 13, 14, 15, 16, 17, 18, 19, 20, 21, 22, 23] [] rfl rfl (by decide) (by decide) hk1 hFc hP1 hD1
  generalize H1 = H at hP hS ⊢
  have hP : va_P (dC, dI) vwCl (w3 a cI cZ nk pa fa nc fo th tg nt tb te tk tt nu ub ue uk ut re ro fu bl go ra rc ex tc es wy) H := hP
  have hD : va_D A (w3 a cI cZ nk pa fa nc fo th tg nt tb te tk tt nu ub ue uk ut re ro fu bl go ra rc ex tc es wy) := hD
  refine W.widen (k := 2) (n := 12) (by omega) (by omega) ?_
  have hok2 := hw
  obtain ⟨j, hj, rfl⟩ := hasI_at (by omega) hw
  refine lv_aload_n hx hb dX3_common_10 rfl (lv_at hl 0 rfl) ?_
  refine va_get (D := (dC, dI)) (ci := 3) (v := .ref (a 1)) (C := RX3) (T := TX3) (N := 15) hx hb hts (by decide +kernel) hown hK hP 0 rfl rfl 0 (by decide) (hts (.fieldLink RX3 12 "HandlerOptimizer" "kinds" "LHandlerOptimizer$Kinds;") (by decide +kernel)) (fun _ h9 => h9) rfl dX3_common_11 ?_
  refine lv_iload_n hx hb dX3_common_14 rfl (lv_at hl 1 rfl) ?_
  refine lv_iload_n hx hb dX3_common_15 rfl (lv_at hl 2 rfl) ?_
  have hPc := hP.sub (ws' := wK (a 1) (a 2) (a 3) cI nk pa fa) [1, 2, 3] rfl
  refine va_calli (va_runVN (As := [.int (nI i), .int (nI j)]) (rest := []) ⟨hx, hb, hml, hown, hts⟩ (c_X1_lowestAbove l dC dI cI cZ cJ (a 1) (a 2) (a 3) nk pa fa i j up (by first | assumption | omega) (by first | assumption | omega) (by first | assumption | omega) (by first | assumption | omega) (by first | assumption | omega)) ⟨va_cnB 2 hts gX3_common_X1_lowestAbove_n83 rfl rfl rfl (hn (.methodLinkNest RX3 83 yX1_lowestAbove "HandlerOptimizer") (by decide +kernel)) (hts (.initialized RX1) (by decide +kernel)) (by decide +kernel) ⟨Nat.le_of_ble_eq_true rfl, Nat.le_of_ble_eq_true rfl⟩, hts (.instanceMethod yX1_lowestAbove) (by decide +kernel), hts (.selects RX1 yX1_lowestAbove yX1_lowestAbove) (by decide +kernel)⟩ ⟨zPre_blind, va_recv hK hPc (ci := 1) (q0 := 0) rfl rfl, zPre_at hPc hK hn⟩ rfl rfl hl.1 rfl (lv_room (Nat.le_of_ble_eq_true rfl)) dX3_common_16 ⟨Nat.le_of_ble_eq_true rfl, Nat.le_of_ble_eq_true rfl⟩) hS (fun _ _ h => h.elim) (fun _ h => h.elim) (fun r_3 u_9 t H locs ht hvm hw hB hz1 hk1 hS => ?_)
  have hP := zkeep hP hk1
  subst hw
  rw [← hQ]
  refine vx_ret ?_
  have hP9 := hP
  have hD9 := hD
  exact W.iret (v := nI (lw up nk i j)) hx hb hr (fun t ht hW => ⟨⟨nI (lw up nk i j), (), rfl, (by rw [nI_clamp (by omega), nI_clamp (by omega)]; simp [*]), (by rw [ht]; exact hP9), va_K.moved hW.alike hK, hD9⟩, hS.F ht⟩) hS.2.2 dX3_common_19


set_option maxHeartbeats 4000000 in
set_option maxRecDepth 100000 in
theorem c_X3_step (l : Launch) (dC : Nat → ClassId) (dI : Nat → Nat → Nat) (cI cZ cJ : ClassId) (a : Nat → Nat) (nk : Nat) (pa : Nat → Int32) (fa : Nat → Int32) (nc : Nat) (fo : Nat → Int32) (th : Nat → Int32) (tg : Nat → Int32) (nt : Nat) (tb : Nat → Int32) (te : Nat → Int32) (tk : Nat → Int32) (tt : Nat → Int32) (nu : Nat) (ub : Nat → Int32) (ue : Nat → Int32) (uk : Nat → Int32) (ut : Nat → Int32) (re : Nat → Int32) (ro : Nat → Int32) (fu : Nat → Int32) (bl : Nat → Int32) (go : Nat → Int32) (ra : Nat → Int32) (rc : Nat) (ex : Int32) (tc : Int32) (es : Int32) (wy : Int64) (x : Int32) (T : Nat → Nat → Nat) (up : Nat → Nat → Bool) (sz : Nat) (hlt : l.stackTraces = false) (hg : g3 nk fa up nt tb te tk tt T) (hc : okC nk nc fo th tg) : vx_Met l yX3_step wsX3_step ({ frames := 7, cells := 2, slots := 12, locals := 103 } : Room) (va_Pc [.ref (a 0), .int x] (zTr (dC, dI) [(cI, .int), (cZ, .boolean), (cJ, .long)] (w3 a cI cZ nk pa fa nc fo th tg nt tb te tk tt nu ub ue uk ut re ro fu bl go ra rc ex tc es wy) sz)) (va_Qi (fun (r : Int32) (_ : Unit) => r = nI nc ∧ (decide (x >>> (nI nk &&& 31) = 0) = true ∧ nc < 48) ∧ okC nk (nc + 1) (upd fo nc 0) (upd th nc x) (upd tg nc (-1))) (fun _ t => zWo (dC, dI) [(cI, .int), (cZ, .boolean), (cJ, .long)] (w3 a cI cZ nk pa fa (nc + 1) (upd fo nc 0) (upd th nc x) (upd tg nc (-1)) nt tb te tk tt nu ub ue uk ut re ro fu bl go ra rc ex tc es wy) (va_A (w3 a cI cZ nk pa fa nc fo th tg nt tb te tk tt nu ub ue uk ut re ro fu bl go ra rc ex tc es wy) sz) t) (va_A (w3 a cI cZ nk pa fa nc fo th tg nt tb te tk tt nu ub ue uk ut re ro fu bl go ra rc ex tc es wy) sz)) (vx_X (fun (_ : Unit) => True) (fun E _ t => ((E = "java/lang/IllegalArgumentException" ∧ decide (x >>> (nI nk &&& 31) = 0) = false) ∨ (E = "java/lang/IllegalStateException" ∧ (decide (x >>> (nI nk &&& 31) = 0) = true ∧ nc = 48))) ∧ zWo (dC, dI) [(cI, .int), (cZ, .boolean), (cJ, .long)] (w3 a cI cZ nk pa fa nc fo th tg nt tb te tk tt nu ub ue uk ut re ro fu bl go ra rc ex tc es wy) (va_A (w3 a cI cZ nk pa fa nc fo th tg nt tb te tk tt nu ub ue uk ut re ro fu bl go ra rc ex tc es wy) sz) t) (va_A (w3 a cI cZ nk pa fa nc fo th tg nt tb te tk tt nu ub ue uk ut re ro fu bl go ra rc ex tc es wy) sz)) 2 12 (va_A (w3 a cI cZ nk pa fa nc fo th tg nt tb te tk tt nu ub ue uk ut re ro fu bl go ra rc ex tc es wy) sz) := by
  refine vx_ofW (cc := cX3_step) (maxL := 2) (ret := (some .int)) (by decide) rfl ?_
  intro p e s m args below meth c s₁ B hml hxt hv
  obtain ⟨hav, ⟨hsz, ⟨hP, hK, hn⟩, hD0⟩, hzt, hzu⟩ := hv
  have hx := B.exec
  have hb := B.bytes
  have hr := B.returns
  have hts := atoms_spec (ws := wsX3_step) B.pre
  have hown : s.vm.findClass RX3 = some m.cls := findClass_of_methodNamed B.named
  have hlocks := B.notSynchronized
  subst hsz
  have hD := hD0.self (sz := s.heap.size)
  generalize hAe : (va_A (w3 a cI cZ nk pa fa nc fo th tg nt tb te tk tt nu ub ue uk ut re ro fu bl go ra rc ex tc es wy) s.heap.size) = A at hD hzu ⊢
  have hA : ∀ q : Nat, s.heap.size ≤ q → A q := fun q h => by rw [← hAe]; exact Or.inr h
  have hS : va_S A s.heap s.heap [] := va_S.rf
  generalize hQ : vx_MQ below (va_Qi (fun (r : Int32) (_ : Unit) => r = nI nc ∧ (decide (x >>> (nI nk &&& 31) = 0) = true ∧ nc < 48) ∧ okC nk (nc + 1) (upd fo nc 0) (upd th nc x) (upd tg nc (-1))) (fun _ t => zWo (dC, dI) [(cI, .int), (cZ, .boolean), (cJ, .long)] (w3 a cI cZ nk pa fa (nc + 1) (upd fo nc 0) (upd th nc x) (upd tg nc (-1)) nt tb te tk tt nu ub ue uk ut re ro fu bl go ra rc ex tc es wy) A t) A) (vx_X (fun (_ : Unit) => True) (fun E _ t => ((E = "java/lang/IllegalArgumentException" ∧ decide (x >>> (nI nk &&& 31) = 0) = false) ∨ (E = "java/lang/IllegalStateException" ∧ (decide (x >>> (nI nk &&& 31) = 0) = true ∧ nc = 48))) ∧ zWo (dC, dI) [(cI, .int), (cZ, .boolean), (cJ, .long)] (w3 a cI cZ nk pa fa nc fo th tg nt tb te tk tt nu ub ue uk ut re ro fu bl go ra rc ex tc es wy) A t) A) args s 2 12 A = Q
  refine W.eq (g2 := entryFrame m ([.ref (a 0), .int x] : List Value).toArray 2) (by rw [hav]) ?_
  have hl := lv_entry ([.ref (a 0), .int x]) (n := 2) (Nat.le_of_ble_eq_true rfl)
  rw [lg_entry_eq]
  generalize (lg_sl ([.ref (a 0), .int x]) ++ List.replicate (2 - (lg_sl ([.ref (a 0), .int x])).length) Slot.unset).toArray = ls at hl ⊢
  have hl : lv_has ls 2 [(0, .ref (a 0)), (1, .int x)] := hl
  obtain ⟨H, hH⟩ : ∃ H, H = s.heap := ⟨_, rfl⟩
  obtain ⟨locs, hlo⟩ : ∃ q : List Loc, q = [] := ⟨_, rfl⟩
  have hP : va_P (dC, dI) vwCl (w3 a cI cZ nk pa fa nc fo th tg nt tb te tk tt nu ub ue uk ut re ro fu bl go ra rc ex tc es wy) H := by rw [hH]; exact hP
  have hS : va_S A s.heap H locs := by rw [hH, hlo]; exact hS
  refine zz_hl hH hlo ?_
  obtain ⟨hk01, hk8, hnt, hT, hO, hF, hU⟩ := id hg
  obtain ⟨hnc, hC⟩ := id hc
  refine lv_aload_n hx hb dX3_step_0 rfl (lv_at hl 0 rfl) ?_
  refine lv_iload_n hx hb dX3_step_1 rfl (lv_at hl 1 rfl) ?_
  have hFc := va_free (wc := w3 a cI cZ nk pa fa nc fo th tg nt tb te tk tt nu ub ue uk ut re ro fu bl go ra rc ex tc es wy) hD hS hA [0, 1, 2, 3, 4, 5, 6, 7, 8, 9, 10, 11, 12, 13, 14, 15, 16, 17, 18, 19, 20, 21, 22, 23] rfl
  refine vx_callv (vx_runV (As := [.int x]) (rest := []) ⟨hx, hb, hml, hown, hts⟩ (c_X3_requireKindSet l dC dI cI cZ cJ a nk pa fa nc fo th tg nt tb te tk tt nu ub ue uk ut re ro fu bl go ra rc ex tc es wy x H.size hlt ) (cwV 1 hts gX3_step_X3_requireKindSet rfl rfl rfl (by decide +kernel) ⟨Nat.le_of_ble_eq_true rfl, Nat.le_of_ble_eq_true rfl⟩) ⟨zTr_blind, va_recv hK hP (ci := 3) (q0 := 0) rfl rfl, zTr_at hP hK hn (hD.weaken (fun _ _ _ _ => trivial)) hzt hzu hS hFc⟩ rfl rfl hl.1 rfl (lv_room (Nat.le_of_ble_eq_true rfl)) dX3_step_2 ⟨Nat.le_of_ble_eq_true rfl, Nat.le_of_ble_eq_true rfl⟩) hS (fun q _ h => hFc q h) hFc (fun q _ h => hFc q h) (fun E ce q9 u_9 t H1 locs ht hvm hpx hBX hz1 hk1 hS hc9 hv9 hcl => ?_) (fun u_9 t H1 locs ht hvm hw hB hz1 hk1 hS => ?_)
  · skip
    obtain ⟨hXE, hP1, -, hD1⟩ := hBX
    rw [ht] at hP1
    rw [← hQ]
    refine vx_widen (k := 2) (n := 12) (Nat.le_of_ble_eq_true rfl) (Nat.le_of_ble_eq_true rfl) ?_
    exact vx_out (fun x h => absurd (hxt x h) id) hlocks hc9 hv9 hcl (fun t2 ht2 hvm2 => ⟨(), trivial, ⟨(Or.inl hXE), (by rw [ht2]; exact hP1), va_K.moved hvm2 hK, hD⟩, hS.F ht2⟩) hS.2.2 (Nat.le_refl _) (Nat.le_refl _)
  obtain ⟨hP1, -, hD1⟩ := hB
  rw [ht] at hP1
  obtain ⟨hP, hD⟩ := va_join (wr := []) (w1 := w3 a cI cZ nk pa fa nc fo th tg nt tb te tk tt nu ub ue uk ut re ro fu bl go ra rc ex tc es wy) hP hD [0, 1, 2, 3, 4, 5, 6, 7, 8, 9, 10, 11, 12, 13, 14, 15, 16, 17, 18, 19, 20, 21, 22, 23] [] rfl rfl (by decide) (by decide) hk1 hFc hP1 hD1
  generalize H1 = H at hP hS ⊢
  have hP : va_P (dC, dI) vwCl (w3 a cI cZ nk pa fa nc fo th tg nt tb te tk tt nu ub ue uk ut re ro fu bl go ra rc ex tc es wy) H := hP
  have hD : va_D A (w3 a cI cZ nk pa fa nc fo th tg nt tb te tk tt nu ub ue uk ut re ro fu bl go ra rc ex tc es wy) := hD
  refine W.widen (k := 1) (n := 6) (by omega) (by omega) ?_
  have hok := hw
  refine lv_aload_n hx hb dX3_step_5 rfl (lv_at hl 0 rfl) ?_
  have hFc := va_free (wc := w3 a cI cZ nk pa fa nc fo th tg nt tb te tk tt nu ub ue uk ut re ro fu bl go ra rc ex tc es wy) hD hS hA [0, 1, 2, 3, 4, 5, 6, 7, 8, 9, 10, 11, 12, 13, 14, 15, 16, 17, 18, 19, 20, 21, 22, 23] rfl
  refine vx_callv (vx_runV (As := []) (rest := []) ⟨hx, hb, hml, hown, hts⟩ (c_X3_requireRoomForCode l dC dI cI cZ cJ a nk pa fa nc fo th tg nt tb te tk tt nu ub ue uk ut re ro fu bl go ra rc ex tc es wy H.size hlt (by first | assumption | omega)) (cwV 0 hts gX3_step_X3_requireRoomForCode rfl rfl rfl (by decide +kernel) ⟨Nat.le_of_ble_eq_true rfl, Nat.le_of_ble_eq_true rfl⟩) ⟨zTr_blind, va_recv hK hP (ci := 3) (q0 := 0) rfl rfl, zTr_at hP hK hn (hD.weaken (fun _ _ _ _ => trivial)) hzt hzu hS hFc⟩ rfl rfl hl.1 rfl (lv_room (Nat.le_of_ble_eq_true rfl)) dX3_step_6 ⟨Nat.le_of_ble_eq_true rfl, Nat.le_of_ble_eq_true rfl⟩) hS (fun q _ h => hFc q h) hFc (fun q _ h => hFc q h) (fun E ce q9 u_9 t H1 locs ht hvm hpx hBX hz1 hk1 hS hc9 hv9 hcl => ?_) (fun u_9 t H1 locs ht hvm hw hB hz1 hk1 hS => ?_)
  · skip
    obtain ⟨hXE, hP1, -, hD1⟩ := hBX
    rw [ht] at hP1
    rw [← hQ]
    refine vx_widen (k := 2) (n := 12) (Nat.le_of_ble_eq_true rfl) (Nat.le_of_ble_eq_true rfl) ?_
    exact vx_out (fun x h => absurd (hxt x h) id) hlocks hc9 hv9 hcl (fun t2 ht2 hvm2 => ⟨(), trivial, ⟨(Or.inr ⟨hXE.1, hok, hXE.2⟩), (by rw [ht2]; exact hP1), va_K.moved hvm2 hK, hD⟩, hS.F ht2⟩) hS.2.2 (Nat.le_refl _) (Nat.le_refl _)
  obtain ⟨hP1, -, hD1⟩ := hB
  rw [ht] at hP1
  obtain ⟨hP, hD⟩ := va_join (wr := []) (w1 := w3 a cI cZ nk pa fa nc fo th tg nt tb te tk tt nu ub ue uk ut re ro fu bl go ra rc ex tc es wy) hP hD [0, 1, 2, 3, 4, 5, 6, 7, 8, 9, 10, 11, 12, 13, 14, 15, 16, 17, 18, 19, 20, 21, 22, 23] [] rfl rfl (by decide) (by decide) hk1 hFc hP1 hD1
  generalize H1 = H at hP hS ⊢
  have hP : va_P (dC, dI) vwCl (w3 a cI cZ nk pa fa nc fo th tg nt tb te tk tt nu ub ue uk ut re ro fu bl go ra rc ex tc es wy) H := hP
  have hD : va_D A (w3 a cI cZ nk pa fa nc fo th tg nt tb te tk tt nu ub ue uk ut re ro fu bl go ra rc ex tc es wy) := hD
  refine W.widen (k := 2) (n := 12) (by omega) (by omega) ?_
  have hlt9 := hw
  refine lv_aload_n hx hb dX3_step_9 rfl (lv_at hl 0 rfl) ?_
  refine va_get (D := (dC, dI)) (ci := 3) (v := .ref (a 4)) (C := RX3) (T := TX3) (N := 15) hx hb hts (by decide +kernel) hown hK hP 0 rfl rfl 1 (by decide) (hts (.fieldLink RX3 19 "HandlerOptimizer" "code" "LHandlerOptimizer$Code;") (by decide +kernel)) (fun _ h9 => h9) rfl dX3_step_10 ?_
  refine lv_iconst (v := 0) hx hb dX3_step_13 (by decide) ?_
  refine lv_iload_n hx hb dX3_step_14 rfl (lv_at hl 1 rfl) ?_
  refine lv_iconst (v := -1) hx hb dX3_step_15 (by decide) ?_
  have hPc := hP.sub (ws' := wC (a 4) (a 5) (a 6) (a 7) cI nc fo th tg) [4, 5, 6, 7] rfl
  have hDc := hD.sub (ws' := wC (a 4) (a 5) (a 6) (a 7) cI nc fo th tg) [4, 5, 6, 7] (by decide) rfl
  have hFc := va_free (wc := wC (a 4) (a 5) (a 6) (a 7) cI nc fo th tg) hD hS hA [4, 5, 6, 7] rfl
  refine va_calli (va_runVN (As := [.int 0, .int x, .int (-1)]) (rest := []) ⟨hx, hb, hml, hown, hts⟩ (c_X0_append l dC dI cI cZ cJ (a 4) (a 5) (a 6) (a 7) nc fo th tg 0 x (-1) H.size (by first | assumption | omega)) ⟨va_cnB 3 hts gX3_step_X0_append_n93 rfl rfl rfl (hn (.methodLinkNest RX3 93 yX0_append "HandlerOptimizer") (by decide +kernel)) (hts (.initialized RX0) (by decide +kernel)) (by decide +kernel) ⟨Nat.le_of_ble_eq_true rfl, Nat.le_of_ble_eq_true rfl⟩, hts (.instanceMethod yX0_append) (by decide +kernel), hts (.selects RX0 yX0_append yX0_append) (by decide +kernel)⟩ ⟨zWr_blind, va_recv hK hPc (ci := 0) (q0 := 0) rfl rfl, zWr_at hPc hK hn (hDc.weaken (fun _ _ _ _ => trivial))⟩ rfl rfl hl.1 rfl (lv_room (Nat.le_of_ble_eq_true rfl)) dX3_step_16 ⟨Nat.le_of_ble_eq_true rfl, Nat.le_of_ble_eq_true rfl⟩) hS (fun q _ h => hFc q h) hFc (fun r_3 u_9 t H1 locs ht hvm hw hB hz1 hk1 hS => ?_)
  obtain ⟨hP1, -, hD1⟩ := hB
  rw [ht] at hP1
  obtain ⟨hP, hD⟩ := va_join (wr := [(a 0, .inr (3, [.ref (a 1), .ref (a 4), .ref (a 8), .ref (a 13), .ref (a 18), .ref (a 19), .int (nI rc), .ref (a 20), .ref (a 21), .ref (a 22), .ref (a 23), .int ex, .int tc, .int es, .long wy]))] ++ wK (a 1) (a 2) (a 3) cI nk pa fa ++ wT (a 8) (a 9) (a 10) (a 11) (a 12) cI nt tb te tk tt ++ wT (a 13) (a 14) (a 15) (a 16) (a 17) cI nu ub ue uk ut ++ [(a 18, .inl (cZ, 48, .inl re)), (a 19, .inl (cI, 48, .inl ro)), (a 20, .inl (cI, 24, .inl fu)), (a 21, .inl (cI, 24, .inl bl)), (a 22, .inl (cI, 384, .inl go)), (a 23, .inl (cI, 49, .inl ra))]) (w1 := wC (a 4) (a 5) (a 6) (a 7) cI (nc + 1) (upd fo nc 0) (upd th nc x) (upd tg nc (-1))) hP hD [4, 5, 6, 7] [0, 1, 2, 3, 8, 9, 10, 11, 12, 13, 14, 15, 16, 17, 18, 19, 20, 21, 22, 23] rfl rfl (by decide) (by decide) hk1 hFc hP1 hD1
  generalize H1 = H at hP hS ⊢
  have hP := hP.sub (ws' := w3 a cI cZ nk pa fa (nc + 1) (upd fo nc 0) (upd th nc x) (upd tg nc (-1)) nt tb te tk tt nu ub ue uk ut re ro fu bl go ra rc ex tc es wy) [0, 1, 2, 3, 20, 21, 22, 23, 4, 5, 6, 7, 8, 9, 10, 11, 12, 13, 14, 15, 16, 17, 18, 19] rfl
  have hD := hD.sub (ws' := w3 a cI cZ nk pa fa (nc + 1) (upd fo nc 0) (upd th nc x) (upd tg nc (-1)) nt tb te tk tt nu ub ue uk ut re ro fu bl go ra rc ex tc es wy) [0, 1, 2, 3, 20, 21, 22, 23, 4, 5, 6, 7, 8, 9, 10, 11, 12, 13, 14, 15, 16, 17, 18, 19] (by decide) rfl
  have hP : va_P (dC, dI) vwCl (w3 a cI cZ nk pa fa (nc + 1) (upd fo nc 0) (upd th nc x) (upd tg nc (-1)) nt tb te tk tt nu ub ue uk ut re ro fu bl go ra rc ex tc es wy) H := hP
  have hD : va_D A (w3 a cI cZ nk pa fa (nc + 1) (upd fo nc 0) (upd th nc x) (upd tg nc (-1)) nt tb te tk tt nu ub ue uk ut re ro fu bl go ra rc ex tc es wy) := hD
  subst hw
  rw [← hQ]
  refine vx_ret ?_
  have hP9 := hP
  have hD9 := hD
  exact W.iret (v := nI nc) hx hb hr (fun t ht hW => ⟨⟨nI nc, (), rfl, (⟨rfl, ⟨hok, hlt9⟩, okC_app hc hlt9 (Or.inl ⟨Or.inl rfl, rfl⟩) (kset_spec hk8 hok).1 (kset_spec hk8 hok).2 (fun q => absurd q (by decide))⟩), (by rw [ht]; exact hP9), va_K.moved hW.alike hK, hD9⟩, hS.F ht⟩) hS.2.2 dX3_step_19


set_option maxHeartbeats 4000000 in
set_option maxRecDepth 100000 in
theorem c_X3_jump (l : Launch) (dC : Nat → ClassId) (dI : Nat → Nat → Nat) (cI cZ cJ : ClassId) (a : Nat → Nat) (nk : Nat) (pa : Nat → Int32) (fa : Nat → Int32) (nc : Nat) (fo : Nat → Int32) (th : Nat → Int32) (tg : Nat → Int32) (nt : Nat) (tb : Nat → Int32) (te : Nat → Int32) (tk : Nat → Int32) (tt : Nat → Int32) (nu : Nat) (ub : Nat → Int32) (ue : Nat → Int32) (uk : Nat → Int32) (ut : Nat → Int32) (re : Nat → Int32) (ro : Nat → Int32) (fu : Nat → Int32) (bl : Nat → Int32) (go : Nat → Int32) (ra : Nat → Int32) (rc : Nat) (ex : Int32) (tc : Int32) (es : Int32) (wy : Int64) (x : Int32) (T : Nat → Nat → Nat) (up : Nat → Nat → Bool) (sz : Nat) (hlt : l.stackTraces = false) (hg : g3 nk fa up nt tb te tk tt T) (hc : okC nk nc fo th tg) : vx_Met l yX3_jump wsX3_jump ({ frames := 7, cells := 2, slots := 12, locals := 103 } : Room) (va_Pc [.ref (a 0), .int x] (zTr (dC, dI) [(cI, .int), (cZ, .boolean), (cJ, .long)] (w3 a cI cZ nk pa fa nc fo th tg nt tb te tk tt nu ub ue uk ut re ro fu bl go ra rc ex tc es wy) sz)) (va_Qi (fun (r : Int32) (_ : Unit) => r = nI nc ∧ (hasI x 48 = true ∧ nc < 48) ∧ okC nk (nc + 1) (upd fo nc 1) (upd th nc 0) (upd tg nc x)) (fun _ t => zWo (dC, dI) [(cI, .int), (cZ, .boolean), (cJ, .long)] (w3 a cI cZ nk pa fa (nc + 1) (upd fo nc 1) (upd th nc 0) (upd tg nc x) nt tb te tk tt nu ub ue uk ut re ro fu bl go ra rc ex tc es wy) (va_A (w3 a cI cZ nk pa fa nc fo th tg nt tb te tk tt nu ub ue uk ut re ro fu bl go ra rc ex tc es wy) sz) t) (va_A (w3 a cI cZ nk pa fa nc fo th tg nt tb te tk tt nu ub ue uk ut re ro fu bl go ra rc ex tc es wy) sz)) (vx_X (fun (_ : Unit) => True) (fun E _ t => ((E = "java/lang/IllegalArgumentException" ∧ hasI x 48 = false) ∨ (E = "java/lang/IllegalStateException" ∧ (hasI x 48 = true ∧ nc = 48))) ∧ zWo (dC, dI) [(cI, .int), (cZ, .boolean), (cJ, .long)] (w3 a cI cZ nk pa fa nc fo th tg nt tb te tk tt nu ub ue uk ut re ro fu bl go ra rc ex tc es wy) (va_A (w3 a cI cZ nk pa fa nc fo th tg nt tb te tk tt nu ub ue uk ut re ro fu bl go ra rc ex tc es wy) sz) t) (va_A (w3 a cI cZ nk pa fa nc fo th tg nt tb te tk tt nu ub ue uk ut re ro fu bl go ra rc ex tc es wy) sz)) 2 12 (va_A (w3 a cI cZ nk pa fa nc fo th tg nt tb te tk tt nu ub ue uk ut re ro fu bl go ra rc ex tc es wy) sz) := by
  refine vx_ofW (cc := cX3_jump) (maxL := 2) (ret := (some .int)) (by decide) rfl ?_
  intro p e s m args below meth c s₁ B hml hxt hv
  obtain ⟨hav, ⟨hsz, ⟨hP, hK, hn⟩, hD0⟩, hzt, hzu⟩ := hv
  have hx := B.exec
  have hb := B.bytes
  have hr := B.returns
  have hts := atoms_spec (ws := wsX3_jump) B.pre
  have hown : s.vm.findClass RX3 = some m.cls := findClass_of_methodNamed B.named
  have hlocks := B.notSynchronized
  subst hsz
  have hD := hD0.self (sz := s.heap.size)
  generalize hAe : (va_A (w3 a cI cZ nk pa fa nc fo th tg nt tb te tk tt nu ub ue uk ut re ro fu bl go ra rc ex tc es wy) s.heap.size) = A at hD hzu ⊢
  have hA : ∀ q : Nat, s.heap.size ≤ q → A q := fun q h => by rw [← hAe]; exact Or.inr h
  have hS : va_S A s.heap s.heap [] := va_S.rf
  generalize hQ : vx_MQ below (va_Qi (fun (r : Int32) (_ : Unit) => r = nI nc ∧ (hasI x 48 = true ∧ nc < 48) ∧ okC nk (nc + 1) (upd fo nc 1) (upd th nc 0) (upd tg nc x)) (fun _ t => zWo (dC, dI) [(cI, .int), (cZ, .boolean), (cJ, .long)] (w3 a cI cZ nk pa fa (nc + 1) (upd fo nc 1) (upd th nc 0) (upd tg nc x) nt tb te tk tt nu ub ue uk ut re ro fu bl go ra rc ex tc es wy) A t) A) (vx_X (fun (_ : Unit) => True) (fun E _ t => ((E = "java/lang/IllegalArgumentException" ∧ hasI x 48 = false) ∨ (E = "java/lang/IllegalStateException" ∧ (hasI x 48 = true ∧ nc = 48))) ∧ zWo (dC, dI) [(cI, .int), (cZ, .boolean), (cJ, .long)] (w3 a cI cZ nk pa fa nc fo th tg nt tb te tk tt nu ub ue uk ut re ro fu bl go ra rc ex tc es wy) A t) A) args s 2 12 A = Q
  refine W.eq (g2 := entryFrame m ([.ref (a 0), .int x] : List Value).toArray 2) (by rw [hav]) ?_
  have hl := lv_entry ([.ref (a 0), .int x]) (n := 2) (Nat.le_of_ble_eq_true rfl)
  rw [lg_entry_eq]
  generalize (lg_sl ([.ref (a 0), .int x]) ++ List.replicate (2 - (lg_sl ([.ref (a 0), .int x])).length) Slot.unset).toArray = ls at hl ⊢
  have hl : lv_has ls 2 [(0, .ref (a 0)), (1, .int x)] := hl
  obtain ⟨H, hH⟩ : ∃ H, H = s.heap := ⟨_, rfl⟩
  obtain ⟨locs, hlo⟩ : ∃ q : List Loc, q = [] := ⟨_, rfl⟩
  have hP : va_P (dC, dI) vwCl (w3 a cI cZ nk pa fa nc fo th tg nt tb te tk tt nu ub ue uk ut re ro fu bl go ra rc ex tc es wy) H := by rw [hH]; exact hP
  have hS : va_S A s.heap H locs := by rw [hH, hlo]; exact hS
  refine zz_hl hH hlo ?_
  obtain ⟨hk01, hk8, hnt, hT, hO, hF, hU⟩ := id hg
  obtain ⟨hnc, hC⟩ := id hc
  refine lv_aload_n hx hb dX3_jump_0 rfl (lv_at hl 0 rfl) ?_
  refine lv_iload_n hx hb dX3_jump_1 rfl (lv_at hl 1 rfl) ?_
  have hFc := va_free (wc := w3 a cI cZ nk pa fa nc fo th tg nt tb te tk tt nu ub ue uk ut re ro fu bl go ra rc ex tc es wy) hD hS hA [0, 1, 2, 3, 4, 5, 6, 7, 8, 9, 10, 11, 12, 13, 14, 15, 16, 17, 18, 19, 20, 21, 22, 23] rfl
  refine vx_callv (vx_runV (As := [.int x]) (rest := []) ⟨hx, hb, hml, hown, hts⟩ (c_X3_requireTarget l dC dI cI cZ cJ a nk pa fa nc fo th tg nt tb te tk tt nu ub ue uk ut re ro fu bl go ra rc ex tc es wy x H.size hlt ) (cwV 1 hts gX3_jump_X3_requireTarget rfl rfl rfl (by decide +kernel) ⟨Nat.le_of_ble_eq_true rfl, Nat.le_of_ble_eq_true rfl⟩) ⟨zTr_blind, va_recv hK hP (ci := 3) (q0 := 0) rfl rfl, zTr_at hP hK hn (hD.weaken (fun _ _ _ _ => trivial)) hzt hzu hS hFc⟩ rfl rfl hl.1 rfl (lv_room (Nat.le_of_ble_eq_true rfl)) dX3_jump_2 ⟨Nat.le_of_ble_eq_true rfl, Nat.le_of_ble_eq_true rfl⟩) hS (fun q _ h => hFc q h) hFc (fun q _ h => hFc q h) (fun E ce q9 u_9 t H1 locs ht hvm hpx hBX hz1 hk1 hS hc9 hv9 hcl => ?_) (fun u_9 t H1 locs ht hvm hw hB hz1 hk1 hS => ?_)
  · skip
    obtain ⟨hXE, hP1, -, hD1⟩ := hBX
    rw [ht] at hP1
    rw [← hQ]
    refine vx_widen (k := 2) (n := 12) (Nat.le_of_ble_eq_true rfl) (Nat.le_of_ble_eq_true rfl) ?_
    exact vx_out (fun x h => absurd (hxt x h) id) hlocks hc9 hv9 hcl (fun t2 ht2 hvm2 => ⟨(), trivial, ⟨(Or.inl hXE), (by rw [ht2]; exact hP1), va_K.moved hvm2 hK, hD⟩, hS.F ht2⟩) hS.2.2 (Nat.le_refl _) (Nat.le_refl _)
  obtain ⟨hP1, -, hD1⟩ := hB
  rw [ht] at hP1
  obtain ⟨hP, hD⟩ := va_join (wr := []) (w1 := w3 a cI cZ nk pa fa nc fo th tg nt tb te tk tt nu ub ue uk ut re ro fu bl go ra rc ex tc es wy) hP hD [0, 1, 2, 3, 4, 5, 6, 7, 8, 9, 10, 11, 12, 13, 14, 15, 16, 17, 18, 19, 20, 21, 22, 23] [] rfl rfl (by decide) (by decide) hk1 hFc hP1 hD1
  generalize H1 = H at hP hS ⊢
  have hP : va_P (dC, dI) vwCl (w3 a cI cZ nk pa fa nc fo th tg nt tb te tk tt nu ub ue uk ut re ro fu bl go ra rc ex tc es wy) H := hP
  have hD : va_D A (w3 a cI cZ nk pa fa nc fo th tg nt tb te tk tt nu ub ue uk ut re ro fu bl go ra rc ex tc es wy) := hD
  refine W.widen (k := 1) (n := 6) (by omega) (by omega) ?_
  have hok := hw
  refine lv_aload_n hx hb dX3_jump_5 rfl (lv_at hl 0 rfl) ?_
  have hFc := va_free (wc := w3 a cI cZ nk pa fa nc fo th tg nt tb te tk tt nu ub ue uk ut re ro fu bl go ra rc ex tc es wy) hD hS hA [0, 1, 2, 3, 4, 5, 6, 7, 8, 9, 10, 11, 12, 13, 14, 15, 16, 17, 18, 19, 20, 21, 22, 23] rfl
  refine vx_callv (vx_runV (As := []) (rest := []) ⟨hx, hb, hml, hown, hts⟩ (c_X3_requireRoomForCode l dC dI cI cZ cJ a nk pa fa nc fo th tg nt tb te tk tt nu ub ue uk ut re ro fu bl go ra rc ex tc es wy H.size hlt (by first | assumption | omega)) (cwV 0 hts gX3_jump_X3_requireRoomForCode rfl rfl rfl (by decide +kernel) ⟨Nat.le_of_ble_eq_true rfl, Nat.le_of_ble_eq_true rfl⟩) ⟨zTr_blind, va_recv hK hP (ci := 3) (q0 := 0) rfl rfl, zTr_at hP hK hn (hD.weaken (fun _ _ _ _ => trivial)) hzt hzu hS hFc⟩ rfl rfl hl.1 rfl (lv_room (Nat.le_of_ble_eq_true rfl)) dX3_jump_6 ⟨Nat.le_of_ble_eq_true rfl, Nat.le_of_ble_eq_true rfl⟩) hS (fun q _ h => hFc q h) hFc (fun q _ h => hFc q h) (fun E ce q9 u_9 t H1 locs ht hvm hpx hBX hz1 hk1 hS hc9 hv9 hcl => ?_) (fun u_9 t H1 locs ht hvm hw hB hz1 hk1 hS => ?_)
  · skip
    obtain ⟨hXE, hP1, -, hD1⟩ := hBX
    rw [ht] at hP1
    rw [← hQ]
    refine vx_widen (k := 2) (n := 12) (Nat.le_of_ble_eq_true rfl) (Nat.le_of_ble_eq_true rfl) ?_
    exact vx_out (fun x h => absurd (hxt x h) id) hlocks hc9 hv9 hcl (fun t2 ht2 hvm2 => ⟨(), trivial, ⟨(Or.inr ⟨hXE.1, hok, hXE.2⟩), (by rw [ht2]; exact hP1), va_K.moved hvm2 hK, hD⟩, hS.F ht2⟩) hS.2.2 (Nat.le_refl _) (Nat.le_refl _)
  obtain ⟨hP1, -, hD1⟩ := hB
  rw [ht] at hP1
  obtain ⟨hP, hD⟩ := va_join (wr := []) (w1 := w3 a cI cZ nk pa fa nc fo th tg nt tb te tk tt nu ub ue uk ut re ro fu bl go ra rc ex tc es wy) hP hD [0, 1, 2, 3, 4, 5, 6, 7, 8, 9, 10, 11, 12, 13, 14, 15, 16, 17, 18, 19, 20, 21, 22, 23] [] rfl rfl (by decide) (by decide) hk1 hFc hP1 hD1
  generalize H1 = H at hP hS ⊢
  have hP : va_P (dC, dI) vwCl (w3 a cI cZ nk pa fa nc fo th tg nt tb te tk tt nu ub ue uk ut re ro fu bl go ra rc ex tc es wy) H := hP
  have hD : va_D A (w3 a cI cZ nk pa fa nc fo th tg nt tb te tk tt nu ub ue uk ut re ro fu bl go ra rc ex tc es wy) := hD
  refine W.widen (k := 2) (n := 12) (by omega) (by omega) ?_
  have hlt9 := hw
  refine lv_aload_n hx hb dX3_jump_9 rfl (lv_at hl 0 rfl) ?_
  refine va_get (D := (dC, dI)) (ci := 3) (v := .ref (a 4)) (C := RX3) (T := TX3) (N := 15) hx hb hts (by decide +kernel) hown hK hP 0 rfl rfl 1 (by decide) (hts (.fieldLink RX3 19 "HandlerOptimizer" "code" "LHandlerOptimizer$Code;") (by decide +kernel)) (fun _ h9 => h9) rfl dX3_jump_10 ?_
  refine lv_iconst (v := 1) hx hb dX3_jump_13 (by decide) ?_
  refine lv_iconst (v := 0) hx hb dX3_jump_14 (by decide) ?_
  refine lv_iload_n hx hb dX3_jump_15 rfl (lv_at hl 1 rfl) ?_
  have hPc := hP.sub (ws' := wC (a 4) (a 5) (a 6) (a 7) cI nc fo th tg) [4, 5, 6, 7] rfl
  have hDc := hD.sub (ws' := wC (a 4) (a 5) (a 6) (a 7) cI nc fo th tg) [4, 5, 6, 7] (by decide) rfl
  have hFc := va_free (wc := wC (a 4) (a 5) (a 6) (a 7) cI nc fo th tg) hD hS hA [4, 5, 6, 7] rfl
  refine va_calli (va_runVN (As := [.int 1, .int 0, .int x]) (rest := []) ⟨hx, hb, hml, hown, hts⟩ (c_X0_append l dC dI cI cZ cJ (a 4) (a 5) (a 6) (a 7) nc fo th tg 1 0 x H.size (by first | assumption | omega)) ⟨va_cnB 3 hts gX3_jump_X0_append_n93 rfl rfl rfl (hn (.methodLinkNest RX3 93 yX0_append "HandlerOptimizer") (by decide +kernel)) (hts (.initialized RX0) (by decide +kernel)) (by decide +kernel) ⟨Nat.le_of_ble_eq_true rfl, Nat.le_of_ble_eq_true rfl⟩, hts (.instanceMethod yX0_append) (by decide +kernel), hts (.selects RX0 yX0_append yX0_append) (by decide +kernel)⟩ ⟨zWr_blind, va_recv hK hPc (ci := 0) (q0 := 0) rfl rfl, zWr_at hPc hK hn (hDc.weaken (fun _ _ _ _ => trivial))⟩ rfl rfl hl.1 rfl (lv_room (Nat.le_of_ble_eq_true rfl)) dX3_jump_16 ⟨Nat.le_of_ble_eq_true rfl, Nat.le_of_ble_eq_true rfl⟩) hS (fun q _ h => hFc q h) hFc (fun r_3 u_9 t H1 locs ht hvm hw hB hz1 hk1 hS => ?_)
  obtain ⟨hP1, -, hD1⟩ := hB
  rw [ht] at hP1
  obtain ⟨hP, hD⟩ := va_join (wr := [(a 0, .inr (3, [.ref (a 1), .ref (a 4), .ref (a 8), .ref (a 13), .ref (a 18), .ref (a 19), .int (nI rc), .ref (a 20), .ref (a 21), .ref (a 22), .ref (a 23), .int ex, .int tc, .int es, .long wy]))] ++ wK (a 1) (a 2) (a 3) cI nk pa fa ++ wT (a 8) (a 9) (a 10) (a 11) (a 12) cI nt tb te tk tt ++ wT (a 13) (a 14) (a 15) (a 16) (a 17) cI nu ub ue uk ut ++ [(a 18, .inl (cZ, 48, .inl re)), (a 19, .inl (cI, 48, .inl ro)), (a 20, .inl (cI, 24, .inl fu)), (a 21, .inl (cI, 24, .inl bl)), (a 22, .inl (cI, 384, .inl go)), (a 23, .inl (cI, 49, .inl ra))]) (w1 := wC (a 4) (a 5) (a 6) (a 7) cI (nc + 1) (upd fo nc 1) (upd th nc 0) (upd tg nc x)) hP hD [4, 5, 6, 7] [0, 1, 2, 3, 8, 9, 10, 11, 12, 13, 14, 15, 16, 17, 18, 19, 20, 21, 22, 23] rfl rfl (by decide) (by decide) hk1 hFc hP1 hD1
  generalize H1 = H at hP hS ⊢
  have hP := hP.sub (ws' := w3 a cI cZ nk pa fa (nc + 1) (upd fo nc 1) (upd th nc 0) (upd tg nc x) nt tb te tk tt nu ub ue uk ut re ro fu bl go ra rc ex tc es wy) [0, 1, 2, 3, 20, 21, 22, 23, 4, 5, 6, 7, 8, 9, 10, 11, 12, 13, 14, 15, 16, 17, 18, 19] rfl
  have hD := hD.sub (ws' := w3 a cI cZ nk pa fa (nc + 1) (upd fo nc 1) (upd th nc 0) (upd tg nc x) nt tb te tk tt nu ub ue uk ut re ro fu bl go ra rc ex tc es wy) [0, 1, 2, 3, 20, 21, 22, 23, 4, 5, 6, 7, 8, 9, 10, 11, 12, 13, 14, 15, 16, 17, 18, 19] (by decide) rfl
  have hP : va_P (dC, dI) vwCl (w3 a cI cZ nk pa fa (nc + 1) (upd fo nc 1) (upd th nc 0) (upd tg nc x) nt tb te tk tt nu ub ue uk ut re ro fu bl go ra rc ex tc es wy) H := hP
  have hD : va_D A (w3 a cI cZ nk pa fa (nc + 1) (upd fo nc 1) (upd th nc 0) (upd tg nc x) nt tb te tk tt nu ub ue uk ut re ro fu bl go ra rc ex tc es wy) := hD
  subst hw
  rw [← hQ]
  refine vx_ret ?_
  have hP9 := hP
  have hD9 := hD
  exact W.iret (v := nI nc) hx hb hr (fun t ht hW => ⟨⟨nI nc, (), rfl, (⟨rfl, ⟨hok, hlt9⟩, okC_app hc hlt9 (Or.inr ⟨Or.inl rfl, hasI_at (by omega) hok⟩) ⟨0, by omega, rfl⟩ (fun k _ _ => b_0 k) (fun q => absurd q (by decide))⟩), (by rw [ht]; exact hP9), va_K.moved hW.alike hK, hD9⟩, hS.F ht⟩) hS.2.2 dX3_jump_19


set_option maxHeartbeats 4000000 in
set_option maxRecDepth 100000 in
theorem c_X3_branch (l : Launch) (dC : Nat → ClassId) (dI : Nat → Nat → Nat) (cI cZ cJ : ClassId) (a : Nat → Nat) (nk : Nat) (pa : Nat → Int32) (fa : Nat → Int32) (nc : Nat) (fo : Nat → Int32) (th : Nat → Int32) (tg : Nat → Int32) (nt : Nat) (tb : Nat → Int32) (te : Nat → Int32) (tk : Nat → Int32) (tt : Nat → Int32) (nu : Nat) (ub : Nat → Int32) (ue : Nat → Int32) (uk : Nat → Int32) (ut : Nat → Int32) (re : Nat → Int32) (ro : Nat → Int32) (fu : Nat → Int32) (bl : Nat → Int32) (go : Nat → Int32) (ra : Nat → Int32) (rc : Nat) (ex : Int32) (tc : Int32) (es : Int32) (wy : Int64) (x : Int32) (y : Int32) (T : Nat → Nat → Nat) (up : Nat → Nat → Bool) (sz : Nat) (hlt : l.stackTraces = false) (hg : g3 nk fa up nt tb te tk tt T) (hc : okC nk nc fo th tg) : vx_Met l yX3_branch wsX3_branch ({ frames := 7, cells := 3, slots := 18, locals := 103 } : Room) (va_Pc [.ref (a 0), .int x, .int y] (zTr (dC, dI) [(cI, .int), (cZ, .boolean), (cJ, .long)] (w3 a cI cZ nk pa fa nc fo th tg nt tb te tk tt nu ub ue uk ut re ro fu bl go ra rc ex tc es wy) sz)) (va_Qi (fun (r : Int32) (_ : Unit) => r = nI nc ∧ ((decide (x >>> (nI nk &&& 31) = 0) && hasI y 48) = true ∧ nc < 48) ∧ okC nk (nc + 1) (upd fo nc 2) (upd th nc x) (upd tg nc y)) (fun _ t => zWo (dC, dI) [(cI, .int), (cZ, .boolean), (cJ, .long)] (w3 a cI cZ nk pa fa (nc + 1) (upd fo nc 2) (upd th nc x) (upd tg nc y) nt tb te tk tt nu ub ue uk ut re ro fu bl go ra rc ex tc es wy) (va_A (w3 a cI cZ nk pa fa nc fo th tg nt tb te tk tt nu ub ue uk ut re ro fu bl go ra rc ex tc es wy) sz) t) (va_A (w3 a cI cZ nk pa fa nc fo th tg nt tb te tk tt nu ub ue uk ut re ro fu bl go ra rc ex tc es wy) sz)) (vx_X (fun (_ : Unit) => True) (fun E _ t => ((E = "java/lang/IllegalArgumentException" ∧ (decide (x >>> (nI nk &&& 31) = 0) && hasI y 48) = false) ∨ (E = "java/lang/IllegalStateException" ∧ ((decide (x >>> (nI nk &&& 31) = 0) && hasI y 48) = true ∧ nc = 48))) ∧ zWo (dC, dI) [(cI, .int), (cZ, .boolean), (cJ, .long)] (w3 a cI cZ nk pa fa nc fo th tg nt tb te tk tt nu ub ue uk ut re ro fu bl go ra rc ex tc es wy) (va_A (w3 a cI cZ nk pa fa nc fo th tg nt tb te tk tt nu ub ue uk ut re ro fu bl go ra rc ex tc es wy) sz) t) (va_A (w3 a cI cZ nk pa fa nc fo th tg nt tb te tk tt nu ub ue uk ut re ro fu bl go ra rc ex tc es wy) sz)) 3 18 (va_A (w3 a cI cZ nk pa fa nc fo th tg nt tb te tk tt nu ub ue uk ut re ro fu bl go ra rc ex tc es wy) sz) := by
  refine vx_ofW (cc := cX3_branch) (maxL := 3) (ret := (some .int)) (by decide) rfl ?_
  intro p e s m args below meth c s₁ B hml hxt hv
  obtain ⟨hav, ⟨hsz, ⟨hP, hK, hn⟩, hD0⟩, hzt, hzu⟩ := hv
  have hx := B.exec
  have hb := B.bytes
  have hr := B.returns
  have hts := atoms_spec (ws := wsX3_branch) B.pre
  have hown : s.vm.findClass RX3 = some m.cls := findClass_of_methodNamed B.named
  have hlocks := B.notSynchronized
  subst hsz
  have hD := hD0.self (sz := s.heap.size)
  generalize hAe : (va_A (w3 a cI cZ nk pa fa nc fo th tg nt tb te tk tt nu ub ue uk ut re ro fu bl go ra rc ex tc es wy) s.heap.size) = A at hD hzu ⊢
  have hA : ∀ q : Nat, s.heap.size ≤ q → A q := fun q h => by rw [← hAe]; exact Or.inr h
  have hS : va_S A s.heap s.heap [] := va_S.rf
  generalize hQ : vx_MQ below (va_Qi (fun (r : Int32) (_ : Unit) => r = nI nc ∧ ((decide (x >>> (nI nk &&& 31) = 0) && hasI y 48) = true ∧ nc < 48) ∧ okC nk (nc + 1) (upd fo nc 2) (upd th nc x) (upd tg nc y)) (fun _ t => zWo (dC, dI) [(cI, .int), (cZ, .boolean), (cJ, .long)] (w3 a cI cZ nk pa fa (nc + 1) (upd fo nc 2) (upd th nc x) (upd tg nc y) nt tb te tk tt nu ub ue uk ut re ro fu bl go ra rc ex tc es wy) A t) A) (vx_X (fun (_ : Unit) => True) (fun E _ t => ((E = "java/lang/IllegalArgumentException" ∧ (decide (x >>> (nI nk &&& 31) = 0) && hasI y 48) = false) ∨ (E = "java/lang/IllegalStateException" ∧ ((decide (x >>> (nI nk &&& 31) = 0) && hasI y 48) = true ∧ nc = 48))) ∧ zWo (dC, dI) [(cI, .int), (cZ, .boolean), (cJ, .long)] (w3 a cI cZ nk pa fa nc fo th tg nt tb te tk tt nu ub ue uk ut re ro fu bl go ra rc ex tc es wy) A t) A) args s 3 18 A = Q
  refine W.eq (g2 := entryFrame m ([.ref (a 0), .int x, .int y] : List Value).toArray 3) (by rw [hav]) ?_
  have hl := lv_entry ([.ref (a 0), .int x, .int y]) (n := 3) (Nat.le_of_ble_eq_true rfl)
  rw [lg_entry_eq]
  generalize (lg_sl ([.ref (a 0), .int x, .int y]) ++ List.replicate (3 - (lg_sl ([.ref (a 0), .int x, .int y])).length) Slot.unset).toArray = ls at hl ⊢
  have hl : lv_has ls 3 [(0, .ref (a 0)), (1, .int x), (2, .int y)] := hl
  obtain ⟨H, hH⟩ : ∃ H, H = s.heap := ⟨_, rfl⟩
  obtain ⟨locs, hlo⟩ : ∃ q : List Loc, q = [] := ⟨_, rfl⟩
  have hP : va_P (dC, dI) vwCl (w3 a cI cZ nk pa fa nc fo th tg nt tb te tk tt nu ub ue uk ut re ro fu bl go ra rc ex tc es wy) H := by rw [hH]; exact hP
  have hS : va_S A s.heap H locs := by rw [hH, hlo]; exact hS
  refine zz_hl hH hlo ?_
  obtain ⟨hk01, hk8, hnt, hT, hO, hF, hU⟩ := id hg
  obtain ⟨hnc, hC⟩ := id hc
  refine lv_aload_n hx hb dX3_branch_0 rfl (lv_at hl 0 rfl) ?_
  refine lv_iload_n hx hb dX3_branch_1 rfl (lv_at hl 1 rfl) ?_
  have hFc := va_free (wc := w3 a cI cZ nk pa fa nc fo th tg nt tb te tk tt nu ub ue uk ut re ro fu bl go ra rc ex tc es wy) hD hS hA [0, 1, 2, 3, 4, 5, 6, 7, 8, 9, 10, 11, 12, 13, 14, 15, 16, 17, 18, 19, 20, 21, 22, 23] rfl
  refine vx_callv (vx_runV (As := [.int x]) (rest := []) ⟨hx, hb, hml, hown, hts⟩ (c_X3_requireKindSet l dC dI cI cZ cJ a nk pa fa nc fo th tg nt tb te tk tt nu ub ue uk ut re ro fu bl go ra rc ex tc es wy x H.size hlt ) (cwV 1 hts gX3_branch_X3_requireKindSet rfl rfl rfl (by decide +kernel) ⟨Nat.le_of_ble_eq_true rfl, Nat.le_of_ble_eq_true rfl⟩) ⟨zTr_blind, va_recv hK hP (ci := 3) (q0 := 0) rfl rfl, zTr_at hP hK hn (hD.weaken (fun _ _ _ _ => trivial)) hzt hzu hS hFc⟩ rfl rfl hl.1 rfl (lv_room (Nat.le_of_ble_eq_true rfl)) dX3_branch_2 ⟨Nat.le_of_ble_eq_true rfl, Nat.le_of_ble_eq_true rfl⟩) hS (fun q _ h => hFc q h) hFc (fun q _ h => hFc q h) (fun E ce q9 u_9 t H1 locs ht hvm hpx hBX hz1 hk1 hS hc9 hv9 hcl => ?_) (fun u_9 t H1 locs ht hvm hw hB hz1 hk1 hS => ?_)
  · skip
    obtain ⟨hXE, hP1, -, hD1⟩ := hBX
    rw [ht] at hP1
    rw [← hQ]
    refine vx_widen (k := 3) (n := 18) (Nat.le_of_ble_eq_true rfl) (Nat.le_of_ble_eq_true rfl) ?_
    exact vx_out (fun x h => absurd (hxt x h) id) hlocks hc9 hv9 hcl (fun t2 ht2 hvm2 => ⟨(), trivial, ⟨(Or.inl ⟨hXE.1, by rw [hXE.2]; rfl⟩), (by rw [ht2]; exact hP1), va_K.moved hvm2 hK, hD⟩, hS.F ht2⟩) hS.2.2 (Nat.le_refl _) (Nat.le_refl _)
  obtain ⟨hP1, -, hD1⟩ := hB
  rw [ht] at hP1
  obtain ⟨hP, hD⟩ := va_join (wr := []) (w1 := w3 a cI cZ nk pa fa nc fo th tg nt tb te tk tt nu ub ue uk ut re ro fu bl go ra rc ex tc es wy) hP hD [0, 1, 2, 3, 4, 5, 6, 7, 8, 9, 10, 11, 12, 13, 14, 15, 16, 17, 18, 19, 20, 21, 22, 23] [] rfl rfl (by decide) (by decide) hk1 hFc hP1 hD1
  generalize H1 = H at hP hS ⊢
  have hP : va_P (dC, dI) vwCl (w3 a cI cZ nk pa fa nc fo th tg nt tb te tk tt nu ub ue uk ut re ro fu bl go ra rc ex tc es wy) H := hP
  have hD : va_D A (w3 a cI cZ nk pa fa nc fo th tg nt tb te tk tt nu ub ue uk ut re ro fu bl go ra rc ex tc es wy) := hD
  refine W.widen (k := 1) (n := 6) (by omega) (by omega) ?_
  have hok := hw
  refine lv_aload_n hx hb dX3_branch_5 rfl (lv_at hl 0 rfl) ?_
  refine lv_iload_n hx hb dX3_branch_6 rfl (lv_at hl 2 rfl) ?_
  have hFc := va_free (wc := w3 a cI cZ nk pa fa nc fo th tg nt tb te tk tt nu ub ue uk ut re ro fu bl go ra rc ex tc es wy) hD hS hA [0, 1, 2, 3, 4, 5, 6, 7, 8, 9, 10, 11, 12, 13, 14, 15, 16, 17, 18, 19, 20, 21, 22, 23] rfl
  refine vx_callv (vx_runV (As := [.int y]) (rest := []) ⟨hx, hb, hml, hown, hts⟩ (c_X3_requireTarget l dC dI cI cZ cJ a nk pa fa nc fo th tg nt tb te tk tt nu ub ue uk ut re ro fu bl go ra rc ex tc es wy y H.size hlt ) (cwV 1 hts gX3_branch_X3_requireTarget rfl rfl rfl (by decide +kernel) ⟨Nat.le_of_ble_eq_true rfl, Nat.le_of_ble_eq_true rfl⟩) ⟨zTr_blind, va_recv hK hP (ci := 3) (q0 := 0) rfl rfl, zTr_at hP hK hn (hD.weaken (fun _ _ _ _ => trivial)) hzt hzu hS hFc⟩ rfl rfl hl.1 rfl (lv_room (Nat.le_of_ble_eq_true rfl)) dX3_branch_7 ⟨Nat.le_of_ble_eq_true rfl, Nat.le_of_ble_eq_true rfl⟩) hS (fun q _ h => hFc q h) hFc (fun q _ h => hFc q h) (fun E ce q9 u_9 t H1 locs ht hvm hpx hBX hz1 hk1 hS hc9 hv9 hcl => ?_) (fun u_9 t H1 locs ht hvm hw hB hz1 hk1 hS => ?_)
  · skip
    obtain ⟨hXE, hP1, -, hD1⟩ := hBX
    rw [ht] at hP1
    rw [← hQ]
    refine vx_widen (k := 3) (n := 18) (Nat.le_of_ble_eq_true rfl) (Nat.le_of_ble_eq_true rfl) ?_
    exact vx_out (fun x h => absurd (hxt x h) id) hlocks hc9 hv9 hcl (fun t2 ht2 hvm2 => ⟨(), trivial, ⟨(Or.inl ⟨hXE.1, by rw [hXE.2]; exact Bool.and_false _⟩), (by rw [ht2]; exact hP1), va_K.moved hvm2 hK, hD⟩, hS.F ht2⟩) hS.2.2 (Nat.le_refl _) (Nat.le_refl _)
  obtain ⟨hP1, -, hD1⟩ := hB
  rw [ht] at hP1
  obtain ⟨hP, hD⟩ := va_join (wr := []) (w1 := w3 a cI cZ nk pa fa nc fo th tg nt tb te tk tt nu ub ue uk ut re ro fu bl go ra rc ex tc es wy) hP hD [0, 1, 2, 3, 4, 5, 6, 7, 8, 9, 10, 11, 12, 13, 14, 15, 16, 17, 18, 19, 20, 21, 22, 23] [] rfl rfl (by decide) (by decide) hk1 hFc hP1 hD1
  generalize H1 = H at hP hS ⊢
  have hP : va_P (dC, dI) vwCl (w3 a cI cZ nk pa fa nc fo th tg nt tb te tk tt nu ub ue uk ut re ro fu bl go ra rc ex tc es wy) H := hP
  have hD : va_D A (w3 a cI cZ nk pa fa nc fo th tg nt tb te tk tt nu ub ue uk ut re ro fu bl go ra rc ex tc es wy) := hD
  refine W.widen (k := 2) (n := 12) (by omega) (by omega) ?_
  have hok2 := hw
  refine lv_aload_n hx hb dX3_branch_10 rfl (lv_at hl 0 rfl) ?_
  have hFc := va_free (wc := w3 a cI cZ nk pa fa nc fo th tg nt tb te tk tt nu ub ue uk ut re ro fu bl go ra rc ex tc es wy) hD hS hA [0, 1, 2, 3, 4, 5, 6, 7, 8, 9, 10, 11, 12, 13, 14, 15, 16, 17, 18, 19, 20, 21, 22, 23] rfl
  refine vx_callv (vx_runV (As := []) (rest := []) ⟨hx, hb, hml, hown, hts⟩ (c_X3_requireRoomForCode l dC dI cI cZ cJ a nk pa fa nc fo th tg nt tb te tk tt nu ub ue uk ut re ro fu bl go ra rc ex tc es wy H.size hlt (by first | assumption | omega)) (cwV 0 hts gX3_branch_X3_requireRoomForCode rfl rfl rfl (by decide +kernel) ⟨Nat.le_of_ble_eq_true rfl, Nat.le_of_ble_eq_true rfl⟩) ⟨zTr_blind, va_recv hK hP (ci := 3) (q0 := 0) rfl rfl, zTr_at hP hK hn (hD.weaken (fun _ _ _ _ => trivial)) hzt hzu hS hFc⟩ rfl rfl hl.1 rfl (lv_room (Nat.le_of_ble_eq_true rfl)) dX3_branch_11 ⟨Nat.le_of_ble_eq_true rfl, Nat.le_of_ble_eq_true rfl⟩) hS (fun q _ h => hFc q h) hFc (fun q _ h => hFc q h) (fun E ce q9 u_9 t H1 locs ht hvm hpx hBX hz1 hk1 hS hc9 hv9 hcl => ?_) (fun u_9 t H1 locs ht hvm hw hB hz1 hk1 hS => ?_)
  · skip
    obtain ⟨hXE, hP1, -, hD1⟩ := hBX
    rw [ht] at hP1
    rw [← hQ]
    refine vx_widen (k := 3) (n := 18) (Nat.le_of_ble_eq_true rfl) (Nat.le_of_ble_eq_true rfl) ?_
    exact vx_out (fun x h => absurd (hxt x h) id) hlocks hc9 hv9 hcl (fun t2 ht2 hvm2 => ⟨(), trivial, ⟨(Or.inr ⟨hXE.1, by rw [hok, hok2]; rfl, hXE.2⟩), (by rw [ht2]; exact hP1), va_K.moved hvm2 hK, hD⟩, hS.F ht2⟩) hS.2.2 (Nat.le_refl _) (Nat.le_refl _)
  obtain ⟨hP1, -, hD1⟩ := hB
  rw [ht] at hP1
  obtain ⟨hP, hD⟩ := va_join (wr := []) (w1 := w3 a cI cZ nk pa fa nc fo th tg nt tb te tk tt nu ub ue uk ut re ro fu bl go ra rc ex tc es wy) hP hD [0, 1, 2, 3, 4, 5, 6, 7, 8, 9, 10, 11, 12, 13, 14, 15, 16, 17, 18, 19, 20, 21, 22, 23] [] rfl rfl (by decide) (by decide) hk1 hFc hP1 hD1
  generalize H1 = H at hP hS ⊢
  have hP : va_P (dC, dI) vwCl (w3 a cI cZ nk pa fa nc fo th tg nt tb te tk tt nu ub ue uk ut re ro fu bl go ra rc ex tc es wy) H := hP
  have hD : va_D A (w3 a cI cZ nk pa fa nc fo th tg nt tb te tk tt nu ub ue uk ut re ro fu bl go ra rc ex tc es wy) := hD
  refine W.widen (k := 3) (n := 18) (by omega) (by omega) ?_
  have hlt9 := hw
  refine lv_aload_n hx hb dX3_branch_14 rfl (lv_at hl 0 rfl) ?_
  refine va_get (D := (dC, dI)) (ci := 3) (v := .ref (a 4)) (C := RX3) (T := TX3) (N := 15) hx hb hts (by decide +kernel) hown hK hP 0 rfl rfl 1 (by decide) (hts (.fieldLink RX3 19 "HandlerOptimizer" "code" "LHandlerOptimizer$Code;") (by decide +kernel)) (fun _ h9 => h9) rfl dX3_branch_15 ?_
  refine lv_iconst (v := 2) hx hb dX3_branch_18 (by decide) ?_
  refine lv_iload_n hx hb dX3_branch_19 rfl (lv_at hl 1 rfl) ?_
  refine lv_iload_n hx hb dX3_branch_20 rfl (lv_at hl 2 rfl) ?_
  have hPc := hP.sub (ws' := wC (a 4) (a 5) (a 6) (a 7) cI nc fo th tg) [4, 5, 6, 7] rfl
  have hDc := hD.sub (ws' := wC (a 4) (a 5) (a 6) (a 7) cI nc fo th tg) [4, 5, 6, 7] (by decide) rfl
  have hFc := va_free (wc := wC (a 4) (a 5) (a 6) (a 7) cI nc fo th tg) hD hS hA [4, 5, 6, 7] rfl
  refine va_calli (va_runVN (As := [.int 2, .int x, .int y]) (rest := []) ⟨hx, hb, hml, hown, hts⟩ (c_X0_append l dC dI cI cZ cJ (a 4) (a 5) (a 6) (a 7) nc fo th tg 2 x y H.size (by first | assumption | omega)) ⟨va_cnB 3 hts gX3_branch_X0_append_n93 rfl rfl rfl (hn (.methodLinkNest RX3 93 yX0_append "HandlerOptimizer") (by decide +kernel)) (hts (.initialized RX0) (by decide +kernel)) (by decide +kernel) ⟨Nat.le_of_ble_eq_true rfl, Nat.le_of_ble_eq_true rfl⟩, hts (.instanceMethod yX0_append) (by decide +kernel), hts (.selects RX0 yX0_append yX0_append) (by decide +kernel)⟩ ⟨zWr_blind, va_recv hK hPc (ci := 0) (q0 := 0) rfl rfl, zWr_at hPc hK hn (hDc.weaken (fun _ _ _ _ => trivial))⟩ rfl rfl hl.1 rfl (lv_room (Nat.le_of_ble_eq_true rfl)) dX3_branch_21 ⟨Nat.le_of_ble_eq_true rfl, Nat.le_of_ble_eq_true rfl⟩) hS (fun q _ h => hFc q h) hFc (fun r_4 u_9 t H1 locs ht hvm hw hB hz1 hk1 hS => ?_)
  obtain ⟨hP1, -, hD1⟩ := hB
  rw [ht] at hP1
  obtain ⟨hP, hD⟩ := va_join (wr := [(a 0, .inr (3, [.ref (a 1), .ref (a 4), .ref (a 8), .ref (a 13), .ref (a 18), .ref (a 19), .int (nI rc), .ref (a 20), .ref (a 21), .ref (a 22), .ref (a 23), .int ex, .int tc, .int es, .long wy]))] ++ wK (a 1) (a 2) (a 3) cI nk pa fa ++ wT (a 8) (a 9) (a 10) (a 11) (a 12) cI nt tb te tk tt ++ wT (a 13) (a 14) (a 15) (a 16) (a 17) cI nu ub ue uk ut ++ [(a 18, .inl (cZ, 48, .inl re)), (a 19, .inl (cI, 48, .inl ro)), (a 20, .inl (cI, 24, .inl fu)), (a 21, .inl (cI, 24, .inl bl)), (a 22, .inl (cI, 384, .inl go)), (a 23, .inl (cI, 49, .inl ra))]) (w1 := wC (a 4) (a 5) (a 6) (a 7) cI (nc + 1) (upd fo nc 2) (upd th nc x) (upd tg nc y)) hP hD [4, 5, 6, 7] [0, 1, 2, 3, 8, 9, 10, 11, 12, 13, 14, 15, 16, 17, 18, 19, 20, 21, 22, 23] rfl rfl (by decide) (by decide) hk1 hFc hP1 hD1
  generalize H1 = H at hP hS ⊢
  have hP := hP.sub (ws' := w3 a cI cZ nk pa fa (nc + 1) (upd fo nc 2) (upd th nc x) (upd tg nc y) nt tb te tk tt nu ub ue uk ut re ro fu bl go ra rc ex tc es wy) [0, 1, 2, 3, 20, 21, 22, 23, 4, 5, 6, 7, 8, 9, 10, 11, 12, 13, 14, 15, 16, 17, 18, 19] rfl
  have hD := hD.sub (ws' := w3 a cI cZ nk pa fa (nc + 1) (upd fo nc 2) (upd th nc x) (upd tg nc y) nt tb te tk tt nu ub ue uk ut re ro fu bl go ra rc ex tc es wy) [0, 1, 2, 3, 20, 21, 22, 23, 4, 5, 6, 7, 8, 9, 10, 11, 12, 13, 14, 15, 16, 17, 18, 19] (by decide) rfl
  have hP : va_P (dC, dI) vwCl (w3 a cI cZ nk pa fa (nc + 1) (upd fo nc 2) (upd th nc x) (upd tg nc y) nt tb te tk tt nu ub ue uk ut re ro fu bl go ra rc ex tc es wy) H := hP
  have hD : va_D A (w3 a cI cZ nk pa fa (nc + 1) (upd fo nc 2) (upd th nc x) (upd tg nc y) nt tb te tk tt nu ub ue uk ut re ro fu bl go ra rc ex tc es wy) := hD
  subst hw
  rw [← hQ]
  refine vx_ret ?_
  have hP9 := hP
  have hD9 := hD
  exact W.iret (v := nI nc) hx hb hr (fun t ht hW => ⟨⟨nI nc, (), rfl, (⟨rfl, ⟨by rw [hok, hok2]; rfl, hlt9⟩, okC_app hc hlt9 (Or.inr ⟨Or.inr rfl, hasI_at (by omega) hok2⟩) (kset_spec hk8 hok).1 (kset_spec hk8 hok).2 (fun q => absurd q (by decide))⟩), (by rw [ht]; exact hP9), va_K.moved hW.alike hK, hD9⟩, hS.F ht⟩) hS.2.2 dX3_branch_24


set_option maxHeartbeats 4000000 in
set_option maxRecDepth 100000 in
theorem c_X3_end (l : Launch) (dC : Nat → ClassId) (dI : Nat → Nat → Nat) (cI cZ cJ : ClassId) (a : Nat → Nat) (nk : Nat) (pa : Nat → Int32) (fa : Nat → Int32) (nc : Nat) (fo : Nat → Int32) (th : Nat → Int32) (tg : Nat → Int32) (nt : Nat) (tb : Nat → Int32) (te : Nat → Int32) (tk : Nat → Int32) (tt : Nat → Int32) (nu : Nat) (ub : Nat → Int32) (ue : Nat → Int32) (uk : Nat → Int32) (ut : Nat → Int32) (re : Nat → Int32) (ro : Nat → Int32) (fu : Nat → Int32) (bl : Nat → Int32) (go : Nat → Int32) (ra : Nat → Int32) (rc : Nat) (ex : Int32) (tc : Int32) (es : Int32) (wy : Int64) (T : Nat → Nat → Nat) (up : Nat → Nat → Bool) (sz : Nat) (hlt : l.stackTraces = false) (hg : g3 nk fa up nt tb te tk tt T) (hc : okC nk nc fo th tg) : vx_Met l yX3_end wsX3_end ({ frames := 7, cells := 1, slots := 6, locals := 102 } : Room) (va_Pc [.ref (a 0)] (zTr (dC, dI) [(cI, .int), (cZ, .boolean), (cJ, .long)] (w3 a cI cZ nk pa fa nc fo th tg nt tb te tk tt nu ub ue uk ut re ro fu bl go ra rc ex tc es wy) sz)) (va_Qi (fun (r : Int32) (_ : Unit) => r = nI nc ∧ nc < 48 ∧ okC nk (nc + 1) (upd fo nc 3) (upd th nc 0) (upd tg nc (-1))) (fun _ t => zWo (dC, dI) [(cI, .int), (cZ, .boolean), (cJ, .long)] (w3 a cI cZ nk pa fa (nc + 1) (upd fo nc 3) (upd th nc 0) (upd tg nc (-1)) nt tb te tk tt nu ub ue uk ut re ro fu bl go ra rc ex tc es wy) (va_A (w3 a cI cZ nk pa fa nc fo th tg nt tb te tk tt nu ub ue uk ut re ro fu bl go ra rc ex tc es wy) sz) t) (va_A (w3 a cI cZ nk pa fa nc fo th tg nt tb te tk tt nu ub ue uk ut re ro fu bl go ra rc ex tc es wy) sz)) (vx_X (fun (_ : Unit) => True) (fun E _ t => ((E = "java/lang/IllegalStateException" ∧ nc = 48)) ∧ zWo (dC, dI) [(cI, .int), (cZ, .boolean), (cJ, .long)] (w3 a cI cZ nk pa fa nc fo th tg nt tb te tk tt nu ub ue uk ut re ro fu bl go ra rc ex tc es wy) (va_A (w3 a cI cZ nk pa fa nc fo th tg nt tb te tk tt nu ub ue uk ut re ro fu bl go ra rc ex tc es wy) sz) t) (va_A (w3 a cI cZ nk pa fa nc fo th tg nt tb te tk tt nu ub ue uk ut re ro fu bl go ra rc ex tc es wy) sz)) 1 6 (va_A (w3 a cI cZ nk pa fa nc fo th tg nt tb te tk tt nu ub ue uk ut re ro fu bl go ra rc ex tc es wy) sz) := by
  refine vx_ofW (cc := cX3_end) (maxL := 1) (ret := (some .int)) (by decide) rfl ?_
  intro p e s m args below meth c s₁ B hml hxt hv
  obtain ⟨hav, ⟨hsz, ⟨hP, hK, hn⟩, hD0⟩, hzt, hzu⟩ := hv
  have hx := B.exec
  have hb := B.bytes
  have hr := B.returns
  have hts := atoms_spec (ws := wsX3_end) B.pre
  have hown : s.vm.findClass RX3 = some m.cls := findClass_of_methodNamed B.named
  have hlocks := B.notSynchronized
  subst hsz
  have hD := hD0.self (sz := s.heap.size)
  generalize hAe : (va_A (w3 a cI cZ nk pa fa nc fo th tg nt tb te tk tt nu ub ue uk ut re ro fu bl go ra rc ex tc es wy) s.heap.size) = A at hD hzu ⊢
  have hA : ∀ q : Nat, s.heap.size ≤ q → A q := fun q h => by rw [← hAe]; exact Or.inr h
  have hS : va_S A s.heap s.heap [] := va_S.rf
  generalize hQ : vx_MQ below (va_Qi (fun (r : Int32) (_ : Unit) => r = nI nc ∧ nc < 48 ∧ okC nk (nc + 1) (upd fo nc 3) (upd th nc 0) (upd tg nc (-1))) (fun _ t => zWo (dC, dI) [(cI, .int), (cZ, .boolean), (cJ, .long)] (w3 a cI cZ nk pa fa (nc + 1) (upd fo nc 3) (upd th nc 0) (upd tg nc (-1)) nt tb te tk tt nu ub ue uk ut re ro fu bl go ra rc ex tc es wy) A t) A) (vx_X (fun (_ : Unit) => True) (fun E _ t => ((E = "java/lang/IllegalStateException" ∧ nc = 48)) ∧ zWo (dC, dI) [(cI, .int), (cZ, .boolean), (cJ, .long)] (w3 a cI cZ nk pa fa nc fo th tg nt tb te tk tt nu ub ue uk ut re ro fu bl go ra rc ex tc es wy) A t) A) args s 1 6 A = Q
  refine W.eq (g2 := entryFrame m ([.ref (a 0)] : List Value).toArray 1) (by rw [hav]) ?_
  have hl := lv_entry ([.ref (a 0)]) (n := 1) (Nat.le_of_ble_eq_true rfl)
  rw [lg_entry_eq]
  generalize (lg_sl ([.ref (a 0)]) ++ List.replicate (1 - (lg_sl ([.ref (a 0)])).length) Slot.unset).toArray = ls at hl ⊢
  have hl : lv_has ls 1 [(0, .ref (a 0))] := hl
  obtain ⟨H, hH⟩ : ∃ H, H = s.heap := ⟨_, rfl⟩
  obtain ⟨locs, hlo⟩ : ∃ q : List Loc, q = [] := ⟨_, rfl⟩
  have hP : va_P (dC, dI) vwCl (w3 a cI cZ nk pa fa nc fo th tg nt tb te tk tt nu ub ue uk ut re ro fu bl go ra rc ex tc es wy) H := by rw [hH]; exact hP
  have hS : va_S A s.heap H locs := by rw [hH, hlo]; exact hS
  refine zz_hl hH hlo ?_
  obtain ⟨hk01, hk8, hnt, hT, hO, hF, hU⟩ := id hg
  obtain ⟨hnc, hC⟩ := id hc
  refine lv_aload_n hx hb dX3_end_0 rfl (lv_at hl 0 rfl) ?_
  have hFc := va_free (wc := w3 a cI cZ nk pa fa nc fo th tg nt tb te tk tt nu ub ue uk ut re ro fu bl go ra rc ex tc es wy) hD hS hA [0, 1, 2, 3, 4, 5, 6, 7, 8, 9, 10, 11, 12, 13, 14, 15, 16, 17, 18, 19, 20, 21, 22, 23] rfl
  refine vx_callv (vx_runV (As := []) (rest := []) ⟨hx, hb, hml, hown, hts⟩ (c_X3_requireRoomForCode l dC dI cI cZ cJ a nk pa fa nc fo th tg nt tb te tk tt nu ub ue uk ut re ro fu bl go ra rc ex tc es wy H.size hlt (by first | assumption | omega)) (cwV 0 hts gX3_end_X3_requireRoomForCode rfl rfl rfl (by decide +kernel) ⟨Nat.le_of_ble_eq_true rfl, Nat.le_of_ble_eq_true rfl⟩) ⟨zTr_blind, va_recv hK hP (ci := 3) (q0 := 0) rfl rfl, zTr_at hP hK hn (hD.weaken (fun _ _ _ _ => trivial)) hzt hzu hS hFc⟩ rfl rfl hl.1 rfl (lv_room (Nat.le_of_ble_eq_true rfl)) dX3_end_1 ⟨Nat.le_of_ble_eq_true rfl, Nat.le_of_ble_eq_true rfl⟩) hS (fun q _ h => hFc q h) hFc (fun q _ h => hFc q h) (fun E ce q9 u_9 t H1 locs ht hvm hpx hBX hz1 hk1 hS hc9 hv9 hcl => ?_) (fun u_9 t H1 locs ht hvm hw hB hz1 hk1 hS => ?_)
  · skip
    obtain ⟨hXE, hP1, -, hD1⟩ := hBX
    rw [ht] at hP1
    rw [← hQ]
    refine vx_widen (k := 1) (n := 6) (Nat.le_of_ble_eq_true rfl) (Nat.le_of_ble_eq_true rfl) ?_
    exact vx_out (fun x h => absurd (hxt x h) id) hlocks hc9 hv9 hcl (fun t2 ht2 hvm2 => ⟨(), trivial, ⟨(hXE), (by rw [ht2]; exact hP1), va_K.moved hvm2 hK, hD⟩, hS.F ht2⟩) hS.2.2 (Nat.le_refl _) (Nat.le_refl _)
  obtain ⟨hP1, -, hD1⟩ := hB
  rw [ht] at hP1
  obtain ⟨hP, hD⟩ := va_join (wr := []) (w1 := w3 a cI cZ nk pa fa nc fo th tg nt tb te tk tt nu ub ue uk ut re ro fu bl go ra rc ex tc es wy) hP hD [0, 1, 2, 3, 4, 5, 6, 7, 8, 9, 10, 11, 12, 13, 14, 15, 16, 17, 18, 19, 20, 21, 22, 23] [] rfl rfl (by decide) (by decide) hk1 hFc hP1 hD1
  generalize H1 = H at hP hS ⊢
  have hP : va_P (dC, dI) vwCl (w3 a cI cZ nk pa fa nc fo th tg nt tb te tk tt nu ub ue uk ut re ro fu bl go ra rc ex tc es wy) H := hP
  have hD : va_D A (w3 a cI cZ nk pa fa nc fo th tg nt tb te tk tt nu ub ue uk ut re ro fu bl go ra rc ex tc es wy) := hD
  refine W.widen (k := 1) (n := 6) (by omega) (by omega) ?_
  have hlt9 := hw
  refine lv_aload_n hx hb dX3_end_4 rfl (lv_at hl 0 rfl) ?_
  refine va_get (D := (dC, dI)) (ci := 3) (v := .ref (a 4)) (C := RX3) (T := TX3) (N := 15) hx hb hts (by decide +kernel) hown hK hP 0 rfl rfl 1 (by decide) (hts (.fieldLink RX3 19 "HandlerOptimizer" "code" "LHandlerOptimizer$Code;") (by decide +kernel)) (fun _ h9 => h9) rfl dX3_end_5 ?_
  refine lv_iconst (v := 3) hx hb dX3_end_8 (by decide) ?_
  refine lv_iconst (v := 0) hx hb dX3_end_9 (by decide) ?_
  refine lv_iconst (v := -1) hx hb dX3_end_10 (by decide) ?_
  have hPc := hP.sub (ws' := wC (a 4) (a 5) (a 6) (a 7) cI nc fo th tg) [4, 5, 6, 7] rfl
  have hDc := hD.sub (ws' := wC (a 4) (a 5) (a 6) (a 7) cI nc fo th tg) [4, 5, 6, 7] (by decide) rfl
  have hFc := va_free (wc := wC (a 4) (a 5) (a 6) (a 7) cI nc fo th tg) hD hS hA [4, 5, 6, 7] rfl
  refine va_calli (va_runVN (As := [.int 3, .int 0, .int (-1)]) (rest := []) ⟨hx, hb, hml, hown, hts⟩ (c_X0_append l dC dI cI cZ cJ (a 4) (a 5) (a 6) (a 7) nc fo th tg 3 0 (-1) H.size (by first | assumption | omega)) ⟨va_cnB 3 hts gX3_end_X0_append_n93 rfl rfl rfl (hn (.methodLinkNest RX3 93 yX0_append "HandlerOptimizer") (by decide +kernel)) (hts (.initialized RX0) (by decide +kernel)) (by decide +kernel) ⟨Nat.le_of_ble_eq_true rfl, Nat.le_of_ble_eq_true rfl⟩, hts (.instanceMethod yX0_append) (by decide +kernel), hts (.selects RX0 yX0_append yX0_append) (by decide +kernel)⟩ ⟨zWr_blind, va_recv hK hPc (ci := 0) (q0 := 0) rfl rfl, zWr_at hPc hK hn (hDc.weaken (fun _ _ _ _ => trivial))⟩ rfl rfl hl.1 rfl (lv_room (Nat.le_of_ble_eq_true rfl)) dX3_end_11 ⟨Nat.le_of_ble_eq_true rfl, Nat.le_of_ble_eq_true rfl⟩) hS (fun q _ h => hFc q h) hFc (fun r_2 u_9 t H1 locs ht hvm hw hB hz1 hk1 hS => ?_)
  obtain ⟨hP1, -, hD1⟩ := hB
  rw [ht] at hP1
  obtain ⟨hP, hD⟩ := va_join (wr := [(a 0, .inr (3, [.ref (a 1), .ref (a 4), .ref (a 8), .ref (a 13), .ref (a 18), .ref (a 19), .int (nI rc), .ref (a 20), .ref (a 21), .ref (a 22), .ref (a 23), .int ex, .int tc, .int es, .long wy]))] ++ wK (a 1) (a 2) (a 3) cI nk pa fa ++ wT (a 8) (a 9) (a 10) (a 11) (a 12) cI nt tb te tk tt ++ wT (a 13) (a 14) (a 15) (a 16) (a 17) cI nu ub ue uk ut ++ [(a 18, .inl (cZ, 48, .inl re)), (a 19, .inl (cI, 48, .inl ro)), (a 20, .inl (cI, 24, .inl fu)), (a 21, .inl (cI, 24, .inl bl)), (a 22, .inl (cI, 384, .inl go)), (a 23, .inl (cI, 49, .inl ra))]) (w1 := wC (a 4) (a 5) (a 6) (a 7) cI (nc + 1) (upd fo nc 3) (upd th nc 0) (upd tg nc (-1))) hP hD [4, 5, 6, 7] [0, 1, 2, 3, 8, 9, 10, 11, 12, 13, 14, 15, 16, 17, 18, 19, 20, 21, 22, 23] rfl rfl (by decide) (by decide) hk1 hFc hP1 hD1
  generalize H1 = H at hP hS ⊢
  have hP := hP.sub (ws' := w3 a cI cZ nk pa fa (nc + 1) (upd fo nc 3) (upd th nc 0) (upd tg nc (-1)) nt tb te tk tt nu ub ue uk ut re ro fu bl go ra rc ex tc es wy) [0, 1, 2, 3, 20, 21, 22, 23, 4, 5, 6, 7, 8, 9, 10, 11, 12, 13, 14, 15, 16, 17, 18, 19] rfl
  have hD := hD.sub (ws' := w3 a cI cZ nk pa fa (nc + 1) (upd fo nc 3) (upd th nc 0) (upd tg nc (-1)) nt tb te tk tt nu ub ue uk ut re ro fu bl go ra rc ex tc es wy) [0, 1, 2, 3, 20, 21, 22, 23, 4, 5, 6, 7, 8, 9, 10, 11, 12, 13, 14, 15, 16, 17, 18, 19] (by decide) rfl
  have hP : va_P (dC, dI) vwCl (w3 a cI cZ nk pa fa (nc + 1) (upd fo nc 3) (upd th nc 0) (upd tg nc (-1)) nt tb te tk tt nu ub ue uk ut re ro fu bl go ra rc ex tc es wy) H := hP
  have hD : va_D A (w3 a cI cZ nk pa fa (nc + 1) (upd fo nc 3) (upd th nc 0) (upd tg nc (-1)) nt tb te tk tt nu ub ue uk ut re ro fu bl go ra rc ex tc es wy) := hD
  subst hw
  rw [← hQ]
  refine vx_ret ?_
  have hP9 := hP
  have hD9 := hD
  exact W.iret (v := nI nc) hx hb hr (fun t ht hW => ⟨⟨nI nc, (), rfl, (⟨rfl, hlt9, okC_app hc hlt9 (Or.inl ⟨Or.inr (Or.inl rfl), rfl⟩) ⟨0, by omega, rfl⟩ (fun k _ _ => b_0 k) (fun q => absurd q (by decide))⟩), (by rw [ht]; exact hP9), va_K.moved hW.alike hK, hD9⟩, hS.F ht⟩) hS.2.2 dX3_end_14


set_option maxHeartbeats 4000000 in
set_option maxRecDepth 100000 in
theorem c_X3_raise (l : Launch) (dC : Nat → ClassId) (dI : Nat → Nat → Nat) (cI cZ cJ : ClassId) (a : Nat → Nat) (nk : Nat) (pa : Nat → Int32) (fa : Nat → Int32) (nc : Nat) (fo : Nat → Int32) (th : Nat → Int32) (tg : Nat → Int32) (nt : Nat) (tb : Nat → Int32) (te : Nat → Int32) (tk : Nat → Int32) (tt : Nat → Int32) (nu : Nat) (ub : Nat → Int32) (ue : Nat → Int32) (uk : Nat → Int32) (ut : Nat → Int32) (re : Nat → Int32) (ro : Nat → Int32) (fu : Nat → Int32) (bl : Nat → Int32) (go : Nat → Int32) (ra : Nat → Int32) (rc : Nat) (ex : Int32) (tc : Int32) (es : Int32) (wy : Int64) (x : Int32) (T : Nat → Nat → Nat) (up : Nat → Nat → Bool) (sz : Nat) (hlt : l.stackTraces = false) (hg : g3 nk fa up nt tb te tk tt T) (hc : okC nk nc fo th tg) : vx_Met l yX3_raise wsX3_raise ({ frames := 7, cells := 2, slots := 12, locals := 103 } : Room) (va_Pc [.ref (a 0), .int x] (zTr (dC, dI) [(cI, .int), (cZ, .boolean), (cJ, .long)] (w3 a cI cZ nk pa fa nc fo th tg nt tb te tk tt nu ub ue uk ut re ro fu bl go ra rc ex tc es wy) sz)) (va_Qi (fun (r : Int32) (_ : Unit) => r = nI nc ∧ (hasI x nk = true ∧ nc < 48) ∧ okC nk (nc + 1) (upd fo nc 4) (upd th nc (1 <<< (x &&& 31))) (upd tg nc (-1))) (fun _ t => zWo (dC, dI) [(cI, .int), (cZ, .boolean), (cJ, .long)] (w3 a cI cZ nk pa fa (nc + 1) (upd fo nc 4) (upd th nc (1 <<< (x &&& 31))) (upd tg nc (-1)) nt tb te tk tt nu ub ue uk ut re ro fu bl go ra rc ex tc es wy) (va_A (w3 a cI cZ nk pa fa nc fo th tg nt tb te tk tt nu ub ue uk ut re ro fu bl go ra rc ex tc es wy) sz) t) (va_A (w3 a cI cZ nk pa fa nc fo th tg nt tb te tk tt nu ub ue uk ut re ro fu bl go ra rc ex tc es wy) sz)) (vx_X (fun (_ : Unit) => True) (fun E _ t => ((E = "java/lang/IndexOutOfBoundsException" ∧ hasI x nk = false) ∨ (E = "java/lang/IllegalStateException" ∧ (hasI x nk = true ∧ nc = 48))) ∧ zWo (dC, dI) [(cI, .int), (cZ, .boolean), (cJ, .long)] (w3 a cI cZ nk pa fa nc fo th tg nt tb te tk tt nu ub ue uk ut re ro fu bl go ra rc ex tc es wy) (va_A (w3 a cI cZ nk pa fa nc fo th tg nt tb te tk tt nu ub ue uk ut re ro fu bl go ra rc ex tc es wy) sz) t) (va_A (w3 a cI cZ nk pa fa nc fo th tg nt tb te tk tt nu ub ue uk ut re ro fu bl go ra rc ex tc es wy) sz)) 2 12 (va_A (w3 a cI cZ nk pa fa nc fo th tg nt tb te tk tt nu ub ue uk ut re ro fu bl go ra rc ex tc es wy) sz) := by
  refine vx_ofW (cc := cX3_raise) (maxL := 2) (ret := (some .int)) (by decide) rfl ?_
  intro p e s m args below meth c s₁ B hml hxt hv
  obtain ⟨hav, ⟨hsz, ⟨hP, hK, hn⟩, hD0⟩, hzt, hzu⟩ := hv
  have hx := B.exec
  have hb := B.bytes
  have hr := B.returns
  have hts := atoms_spec (ws := wsX3_raise) B.pre
  have hown : s.vm.findClass RX3 = some m.cls := findClass_of_methodNamed B.named
  have hlocks := B.notSynchronized
  subst hsz
  have hD := hD0.self (sz := s.heap.size)
  generalize hAe : (va_A (w3 a cI cZ nk pa fa nc fo th tg nt tb te tk tt nu ub ue uk ut re ro fu bl go ra rc ex tc es wy) s.heap.size) = A at hD hzu ⊢
  have hA : ∀ q : Nat, s.heap.size ≤ q → A q := fun q h => by rw [← hAe]; exact Or.inr h
  have hS : va_S A s.heap s.heap [] := va_S.rf
  generalize hQ : vx_MQ below (va_Qi (fun (r : Int32) (_ : Unit) => r = nI nc ∧ (hasI x nk = true ∧ nc < 48) ∧ okC nk (nc + 1) (upd fo nc 4) (upd th nc (1 <<< (x &&& 31))) (upd tg nc (-1))) (fun _ t => zWo (dC, dI) [(cI, .int), (cZ, .boolean), (cJ, .long)] (w3 a cI cZ nk pa fa (nc + 1) (upd fo nc 4) (upd th nc (1 <<< (x &&& 31))) (upd tg nc (-1)) nt tb te tk tt nu ub ue uk ut re ro fu bl go ra rc ex tc es wy) A t) A) (vx_X (fun (_ : Unit) => True) (fun E _ t => ((E = "java/lang/IndexOutOfBoundsException" ∧ hasI x nk = false) ∨ (E = "java/lang/IllegalStateException" ∧ (hasI x nk = true ∧ nc = 48))) ∧ zWo (dC, dI) [(cI, .int), (cZ, .boolean), (cJ, .long)] (w3 a cI cZ nk pa fa nc fo th tg nt tb te tk tt nu ub ue uk ut re ro fu bl go ra rc ex tc es wy) A t) A) args s 2 12 A = Q
  refine W.eq (g2 := entryFrame m ([.ref (a 0), .int x] : List Value).toArray 2) (by rw [hav]) ?_
  have hl := lv_entry ([.ref (a 0), .int x]) (n := 2) (Nat.le_of_ble_eq_true rfl)
  rw [lg_entry_eq]
  generalize (lg_sl ([.ref (a 0), .int x]) ++ List.replicate (2 - (lg_sl ([.ref (a 0), .int x])).length) Slot.unset).toArray = ls at hl ⊢
  have hl : lv_has ls 2 [(0, .ref (a 0)), (1, .int x)] := hl
  obtain ⟨H, hH⟩ : ∃ H, H = s.heap := ⟨_, rfl⟩
  obtain ⟨locs, hlo⟩ : ∃ q : List Loc, q = [] := ⟨_, rfl⟩
  have hP : va_P (dC, dI) vwCl (w3 a cI cZ nk pa fa nc fo th tg nt tb te tk tt nu ub ue uk ut re ro fu bl go ra rc ex tc es wy) H := by rw [hH]; exact hP
  have hS : va_S A s.heap H locs := by rw [hH, hlo]; exact hS
  refine zz_hl hH hlo ?_
  obtain ⟨hk01, hk8, hnt, hT, hO, hF, hU⟩ := id hg
  obtain ⟨hnc, hC⟩ := id hc
  refine lv_aload_n hx hb dX3_raise_0 rfl (lv_at hl 0 rfl) ?_
  refine lv_iload_n hx hb dX3_raise_1 rfl (lv_at hl 1 rfl) ?_
  have hFc := va_free (wc := w3 a cI cZ nk pa fa nc fo th tg nt tb te tk tt nu ub ue uk ut re ro fu bl go ra rc ex tc es wy) hD hS hA [0, 1, 2, 3, 4, 5, 6, 7, 8, 9, 10, 11, 12, 13, 14, 15, 16, 17, 18, 19, 20, 21, 22, 23] rfl
  refine vx_callv (vx_runV (As := [.int x]) (rest := []) ⟨hx, hb, hml, hown, hts⟩ (c_X3_requireKind l dC dI cI cZ cJ a nk pa fa nc fo th tg nt tb te tk tt nu ub ue uk ut re ro fu bl go ra rc ex tc es wy x H.size hlt ) (cwV 1 hts gX3_raise_X3_requireKind rfl rfl rfl (by decide +kernel) ⟨Nat.le_of_ble_eq_true rfl, Nat.le_of_ble_eq_true rfl⟩) ⟨zTr_blind, va_recv hK hP (ci := 3) (q0 := 0) rfl rfl, zTr_at hP hK hn (hD.weaken (fun _ _ _ _ => trivial)) hzt hzu hS hFc⟩ rfl rfl hl.1 rfl (lv_room (Nat.le_of_ble_eq_true rfl)) dX3_raise_2 ⟨Nat.le_of_ble_eq_true rfl, Nat.le_of_ble_eq_true rfl⟩) hS (fun q _ h => hFc q h) hFc (fun q _ h => hFc q h) (fun E ce q9 u_9 t H1 locs ht hvm hpx hBX hz1 hk1 hS hc9 hv9 hcl => ?_) (fun u_9 t H1 locs ht hvm hw hB hz1 hk1 hS => ?_)
  · skip
    obtain ⟨hXE, hP1, -, hD1⟩ := hBX
    rw [ht] at hP1
    rw [← hQ]
    refine vx_widen (k := 2) (n := 12) (Nat.le_of_ble_eq_true rfl) (Nat.le_of_ble_eq_true rfl) ?_
    exact vx_out (fun x h => absurd (hxt x h) id) hlocks hc9 hv9 hcl (fun t2 ht2 hvm2 => ⟨(), trivial, ⟨(Or.inl hXE), (by rw [ht2]; exact hP1), va_K.moved hvm2 hK, hD⟩, hS.F ht2⟩) hS.2.2 (Nat.le_refl _) (Nat.le_refl _)
  obtain ⟨hP1, -, hD1⟩ := hB
  rw [ht] at hP1
  obtain ⟨hP, hD⟩ := va_join (wr := []) (w1 := w3 a cI cZ nk pa fa nc fo th tg nt tb te tk tt nu ub ue uk ut re ro fu bl go ra rc ex tc es wy) hP hD [0, 1, 2, 3, 4, 5, 6, 7, 8, 9, 10, 11, 12, 13, 14, 15, 16, 17, 18, 19, 20, 21, 22, 23] [] rfl rfl (by decide) (by decide) hk1 hFc hP1 hD1
  generalize H1 = H at hP hS ⊢
  have hP : va_P (dC, dI) vwCl (w3 a cI cZ nk pa fa nc fo th tg nt tb te tk tt nu ub ue uk ut re ro fu bl go ra rc ex tc es wy) H := hP
  have hD : va_D A (w3 a cI cZ nk pa fa nc fo th tg nt tb te tk tt nu ub ue uk ut re ro fu bl go ra rc ex tc es wy) := hD
  refine W.widen (k := 1) (n := 6) (by omega) (by omega) ?_
  have hok := hw
  obtain ⟨i, hi, rfl⟩ := hasI_at (by omega) hw
  refine lv_aload_n hx hb dX3_raise_5 rfl (lv_at hl 0 rfl) ?_
  have hFc := va_free (wc := w3 a cI cZ nk pa fa nc fo th tg nt tb te tk tt nu ub ue uk ut re ro fu bl go ra rc ex tc es wy) hD hS hA [0, 1, 2, 3, 4, 5, 6, 7, 8, 9, 10, 11, 12, 13, 14, 15, 16, 17, 18, 19, 20, 21, 22, 23] rfl
  refine vx_callv (vx_runV (As := []) (rest := []) ⟨hx, hb, hml, hown, hts⟩ (c_X3_requireRoomForCode l dC dI cI cZ cJ a nk pa fa nc fo th tg nt tb te tk tt nu ub ue uk ut re ro fu bl go ra rc ex tc es wy H.size hlt (by first | assumption | omega)) (cwV 0 hts gX3_raise_X3_requireRoomForCode rfl rfl rfl (by decide +kernel) ⟨Nat.le_of_ble_eq_true rfl, Nat.le_of_ble_eq_true rfl⟩) ⟨zTr_blind, va_recv hK hP (ci := 3) (q0 := 0) rfl rfl, zTr_at hP hK hn (hD.weaken (fun _ _ _ _ => trivial)) hzt hzu hS hFc⟩ rfl rfl hl.1 rfl (lv_room (Nat.le_of_ble_eq_true rfl)) dX3_raise_6 ⟨Nat.le_of_ble_eq_true rfl, Nat.le_of_ble_eq_true rfl⟩) hS (fun q _ h => hFc q h) hFc (fun q _ h => hFc q h) (fun E ce q9 u_9 t H1 locs ht hvm hpx hBX hz1 hk1 hS hc9 hv9 hcl => ?_) (fun u_9 t H1 locs ht hvm hw hB hz1 hk1 hS => ?_)
  · skip
    obtain ⟨hXE, hP1, -, hD1⟩ := hBX
    rw [ht] at hP1
    rw [← hQ]
    refine vx_widen (k := 2) (n := 12) (Nat.le_of_ble_eq_true rfl) (Nat.le_of_ble_eq_true rfl) ?_
    exact vx_out (fun x h => absurd (hxt x h) id) hlocks hc9 hv9 hcl (fun t2 ht2 hvm2 => ⟨(), trivial, ⟨(Or.inr ⟨hXE.1, hok, hXE.2⟩), (by rw [ht2]; exact hP1), va_K.moved hvm2 hK, hD⟩, hS.F ht2⟩) hS.2.2 (Nat.le_refl _) (Nat.le_refl _)
  obtain ⟨hP1, -, hD1⟩ := hB
  rw [ht] at hP1
  obtain ⟨hP, hD⟩ := va_join (wr := []) (w1 := w3 a cI cZ nk pa fa nc fo th tg nt tb te tk tt nu ub ue uk ut re ro fu bl go ra rc ex tc es wy) hP hD [0, 1, 2, 3, 4, 5, 6, 7, 8, 9, 10, 11, 12, 13, 14, 15, 16, 17, 18, 19, 20, 21, 22, 23] [] rfl rfl (by decide) (by decide) hk1 hFc hP1 hD1
  generalize H1 = H at hP hS ⊢
  have hP : va_P (dC, dI) vwCl (w3 a cI cZ nk pa fa nc fo th tg nt tb te tk tt nu ub ue uk ut re ro fu bl go ra rc ex tc es wy) H := hP
  have hD : va_D A (w3 a cI cZ nk pa fa nc fo th tg nt tb te tk tt nu ub ue uk ut re ro fu bl go ra rc ex tc es wy) := hD
  refine W.widen (k := 2) (n := 12) (by omega) (by omega) ?_
  have hlt9 := hw
  refine lv_aload_n hx hb dX3_raise_9 rfl (lv_at hl 0 rfl) ?_
  refine va_get (D := (dC, dI)) (ci := 3) (v := .ref (a 4)) (C := RX3) (T := TX3) (N := 15) hx hb hts (by decide +kernel) hown hK hP 0 rfl rfl 1 (by decide) (hts (.fieldLink RX3 19 "HandlerOptimizer" "code" "LHandlerOptimizer$Code;") (by decide +kernel)) (fun _ h9 => h9) rfl dX3_raise_10 ?_
  refine lv_iconst (v := 4) hx hb dX3_raise_13 (by decide) ?_
  refine lv_iconst (v := 1) hx hb dX3_raise_14 (by decide) ?_
  refine lv_iload_n hx hb dX3_raise_15 rfl (lv_at hl 1 rfl) ?_
  refine lv_ishl hx hb dX3_raise_16 ?_
  refine lv_iconst (v := -1) hx hb dX3_raise_17 (by decide) ?_
  have hPc := hP.sub (ws' := wC (a 4) (a 5) (a 6) (a 7) cI nc fo th tg) [4, 5, 6, 7] rfl
  have hDc := hD.sub (ws' := wC (a 4) (a 5) (a 6) (a 7) cI nc fo th tg) [4, 5, 6, 7] (by decide) rfl
  have hFc := va_free (wc := wC (a 4) (a 5) (a 6) (a 7) cI nc fo th tg) hD hS hA [4, 5, 6, 7] rfl
  refine va_calli (va_runVN (As := [.int 4, .int (1 <<< ((nI i) &&& 31)), .int (-1)]) (rest := []) ⟨hx, hb, hml, hown, hts⟩ (c_X0_append l dC dI cI cZ cJ (a 4) (a 5) (a 6) (a 7) nc fo th tg 4 (1 <<< ((nI i) &&& 31)) (-1) H.size (by first | assumption | omega)) ⟨va_cnB 3 hts gX3_raise_X0_append_n93 rfl rfl rfl (hn (.methodLinkNest RX3 93 yX0_append "HandlerOptimizer") (by decide +kernel)) (hts (.initialized RX0) (by decide +kernel)) (by decide +kernel) ⟨Nat.le_of_ble_eq_true rfl, Nat.le_of_ble_eq_true rfl⟩, hts (.instanceMethod yX0_append) (by decide +kernel), hts (.selects RX0 yX0_append yX0_append) (by decide +kernel)⟩ ⟨zWr_blind, va_recv hK hPc (ci := 0) (q0 := 0) rfl rfl, zWr_at hPc hK hn (hDc.weaken (fun _ _ _ _ => trivial))⟩ rfl rfl hl.1 rfl (lv_room (Nat.le_of_ble_eq_true rfl)) dX3_raise_18 ⟨Nat.le_of_ble_eq_true rfl, Nat.le_of_ble_eq_true rfl⟩) hS (fun q _ h => hFc q h) hFc (fun r_3 u_9 t H1 locs ht hvm hw hB hz1 hk1 hS => ?_)
  obtain ⟨hP1, -, hD1⟩ := hB
  rw [ht] at hP1
  obtain ⟨hP, hD⟩ := va_join (wr := [(a 0, .inr (3, [.ref (a 1), .ref (a 4), .ref (a 8), .ref (a 13), .ref (a 18), .ref (a 19), .int (nI rc), .ref (a 20), .ref (a 21), .ref (a 22), .ref (a 23), .int ex, .int tc, .int es, .long wy]))] ++ wK (a 1) (a 2) (a 3) cI nk pa fa ++ wT (a 8) (a 9) (a 10) (a 11) (a 12) cI nt tb te tk tt ++ wT (a 13) (a 14) (a 15) (a 16) (a 17) cI nu ub ue uk ut ++ [(a 18, .inl (cZ, 48, .inl re)), (a 19, .inl (cI, 48, .inl ro)), (a 20, .inl (cI, 24, .inl fu)), (a 21, .inl (cI, 24, .inl bl)), (a 22, .inl (cI, 384, .inl go)), (a 23, .inl (cI, 49, .inl ra))]) (w1 := wC (a 4) (a 5) (a 6) (a 7) cI (nc + 1) (upd fo nc 4) (upd th nc (1 <<< ((nI i) &&& 31))) (upd tg nc (-1))) hP hD [4, 5, 6, 7] [0, 1, 2, 3, 8, 9, 10, 11, 12, 13, 14, 15, 16, 17, 18, 19, 20, 21, 22, 23] rfl rfl (by decide) (by decide) hk1 hFc hP1 hD1
  generalize H1 = H at hP hS ⊢
  have hP := hP.sub (ws' := w3 a cI cZ nk pa fa (nc + 1) (upd fo nc 4) (upd th nc (1 <<< ((nI i) &&& 31))) (upd tg nc (-1)) nt tb te tk tt nu ub ue uk ut re ro fu bl go ra rc ex tc es wy) [0, 1, 2, 3, 20, 21, 22, 23, 4, 5, 6, 7, 8, 9, 10, 11, 12, 13, 14, 15, 16, 17, 18, 19] rfl
  have hD := hD.sub (ws' := w3 a cI cZ nk pa fa (nc + 1) (upd fo nc 4) (upd th nc (1 <<< ((nI i) &&& 31))) (upd tg nc (-1)) nt tb te tk tt nu ub ue uk ut re ro fu bl go ra rc ex tc es wy) [0, 1, 2, 3, 20, 21, 22, 23, 4, 5, 6, 7, 8, 9, 10, 11, 12, 13, 14, 15, 16, 17, 18, 19] (by decide) rfl
  have hP : va_P (dC, dI) vwCl (w3 a cI cZ nk pa fa (nc + 1) (upd fo nc 4) (upd th nc (1 <<< ((nI i) &&& 31))) (upd tg nc (-1)) nt tb te tk tt nu ub ue uk ut re ro fu bl go ra rc ex tc es wy) H := hP
  have hD : va_D A (w3 a cI cZ nk pa fa (nc + 1) (upd fo nc 4) (upd th nc (1 <<< ((nI i) &&& 31))) (upd tg nc (-1)) nt tb te tk tt nu ub ue uk ut re ro fu bl go ra rc ex tc es wy) := hD
  subst hw
  rw [← hQ]
  refine vx_ret ?_
  have hP9 := hP
  have hD9 := hD
  exact W.iret (v := nI nc) hx hb hr (fun t ht hW => ⟨⟨nI nc, (), rfl, (⟨rfl, ⟨hok, hlt9⟩, okC_app hc hlt9 (Or.inl ⟨Or.inr (Or.inr rfl), rfl⟩) ⟨2 ^ i, (pw_nI i (by omega)).2, (pw_nI i (by omega)).1⟩ (fun k h1 h2 => by rw [b_pow i (by omega) (by omega)]; exact decide_eq_false (by omega)) (fun _ => ⟨i, hi, by rw [b_pow i (by omega) (by omega)]; exact decide_eq_true rfl⟩)⟩), (by rw [ht]; exact hP9), va_K.moved hW.alike hK, hD9⟩, hS.F ht⟩) hS.2.2 dX3_raise_21

theorem zx_X3_instruction_62 : ∀ w ∈ (vx_atS RX3 116 "java/lang/IndexOutOfBoundsException" ["java/lang/RuntimeException", "java/lang/Exception"]).filter goodWord, w ∈ wsX3_instruction := fun w h => List.mem_cons_of_mem _ (List.mem_append_right _ h)

set_option maxHeartbeats 4000000 in
set_option maxRecDepth 100000 in
theorem c_X3_instruction (l : Launch) (dC : Nat → ClassId) (dI : Nat → Nat → Nat) (cI cZ cJ : ClassId) (a : Nat → Nat) (nk : Nat) (pa : Nat → Int32) (fa : Nat → Int32) (nc : Nat) (fo : Nat → Int32) (th : Nat → Int32) (tg : Nat → Int32) (nt : Nat) (tb : Nat → Int32) (te : Nat → Int32) (tk : Nat → Int32) (tt : Nat → Int32) (nu : Nat) (ub : Nat → Int32) (ue : Nat → Int32) (uk : Nat → Int32) (ut : Nat → Int32) (re : Nat → Int32) (ro : Nat → Int32) (fu : Nat → Int32) (bl : Nat → Int32) (go : Nat → Int32) (ra : Nat → Int32) (rc : Nat) (ex : Int32) (tc : Int32) (es : Int32) (wy : Int64) (x : Int32) (wh : Int32) (T : Nat → Nat → Nat) (up : Nat → Nat → Bool) (sz : Nat) (hlt : l.stackTraces = false) (hg : g3 nk fa up nt tb te tk tt T) (hc : okC nk nc fo th tg) : vx_Met l yX3_instruction wsX3_instruction ({ frames := 7, cells := 2, slots := 12, locals := 103 } : Room) (va_Pc [.ref (a 0), .int x, .int wh] (zTr (dC, dI) [(cI, .int), (cZ, .boolean), (cJ, .long)] (w3 a cI cZ nk pa fa nc fo th tg nt tb te tk tt nu ub ue uk ut re ro fu bl go ra rc ex tc es wy) sz)) (va_Qi (fun (r : Int32) (_ : Unit) => r = insV fo th tg x.toNatClampNeg wh ∧ (hasI x nc && hasI wh 3) = true) (fun _ t => zWo (dC, dI) [(cI, .int), (cZ, .boolean), (cJ, .long)] (w3 a cI cZ nk pa fa nc fo th tg nt tb te tk tt nu ub ue uk ut re ro fu bl go ra rc ex tc es wy) (va_A (w3 a cI cZ nk pa fa nc fo th tg nt tb te tk tt nu ub ue uk ut re ro fu bl go ra rc ex tc es wy) sz) t) (va_A (w3 a cI cZ nk pa fa nc fo th tg nt tb te tk tt nu ub ue uk ut re ro fu bl go ra rc ex tc es wy) sz)) (vx_X (fun (_ : Unit) => True) (fun E _ t => ((E = "java/lang/IndexOutOfBoundsException" ∧ (hasI x nc && hasI wh 3) = false)) ∧ zWo (dC, dI) [(cI, .int), (cZ, .boolean), (cJ, .long)] (w3 a cI cZ nk pa fa nc fo th tg nt tb te tk tt nu ub ue uk ut re ro fu bl go ra rc ex tc es wy) (va_A (w3 a cI cZ nk pa fa nc fo th tg nt tb te tk tt nu ub ue uk ut re ro fu bl go ra rc ex tc es wy) sz) t) (va_A (w3 a cI cZ nk pa fa nc fo th tg nt tb te tk tt nu ub ue uk ut re ro fu bl go ra rc ex tc es wy) sz)) 2 12 (va_A (w3 a cI cZ nk pa fa nc fo th tg nt tb te tk tt nu ub ue uk ut re ro fu bl go ra rc ex tc es wy) sz) := by
  refine vx_ofW (cc := cX3_instruction) (maxL := 3) (ret := (some .int)) (by decide) rfl ?_
  intro p e s m args below meth c s₁ B hml hxt hv
  obtain ⟨hav, ⟨hsz, ⟨hP, hK, hn⟩, hD0⟩, hzt, hzu⟩ := hv
  have hx := B.exec
  have hb := B.bytes
  have hr := B.returns
  have hts := atoms_spec (ws := wsX3_instruction) B.pre
  have hown : s.vm.findClass RX3 = some m.cls := findClass_of_methodNamed B.named
  have hlocks := B.notSynchronized
  subst hsz
  have hD := hD0.self (sz := s.heap.size)
  generalize hAe : (va_A (w3 a cI cZ nk pa fa nc fo th tg nt tb te tk tt nu ub ue uk ut re ro fu bl go ra rc ex tc es wy) s.heap.size) = A at hD hzu ⊢
  have hA : ∀ q : Nat, s.heap.size ≤ q → A q := fun q h => by rw [← hAe]; exact Or.inr h
  have hS : va_S A s.heap s.heap [] := va_S.rf
  generalize hQ : vx_MQ below (va_Qi (fun (r : Int32) (_ : Unit) => r = insV fo th tg x.toNatClampNeg wh ∧ (hasI x nc && hasI wh 3) = true) (fun _ t => zWo (dC, dI) [(cI, .int), (cZ, .boolean), (cJ, .long)] (w3 a cI cZ nk pa fa nc fo th tg nt tb te tk tt nu ub ue uk ut re ro fu bl go ra rc ex tc es wy) A t) A) (vx_X (fun (_ : Unit) => True) (fun E _ t => ((E = "java/lang/IndexOutOfBoundsException" ∧ (hasI x nc && hasI wh 3) = false)) ∧ zWo (dC, dI) [(cI, .int), (cZ, .boolean), (cJ, .long)] (w3 a cI cZ nk pa fa nc fo th tg nt tb te tk tt nu ub ue uk ut re ro fu bl go ra rc ex tc es wy) A t) A) args s 2 12 A = Q
  refine W.eq (g2 := entryFrame m ([.ref (a 0), .int x, .int wh] : List Value).toArray 3) (by rw [hav]) ?_
  have hl := lv_entry ([.ref (a 0), .int x, .int wh]) (n := 3) (Nat.le_of_ble_eq_true rfl)
  rw [lg_entry_eq]
  generalize (lg_sl ([.ref (a 0), .int x, .int wh]) ++ List.replicate (3 - (lg_sl ([.ref (a 0), .int x, .int wh])).length) Slot.unset).toArray = ls at hl ⊢
  have hl : lv_has ls 3 [(0, .ref (a 0)), (1, .int x), (2, .int wh)] := hl
  obtain ⟨H, hH⟩ : ∃ H, H = s.heap := ⟨_, rfl⟩
  obtain ⟨locs, hlo⟩ : ∃ q : List Loc, q = [] := ⟨_, rfl⟩
  have hP : va_P (dC, dI) vwCl (w3 a cI cZ nk pa fa nc fo th tg nt tb te tk tt nu ub ue uk ut re ro fu bl go ra rc ex tc es wy) H := by rw [hH]; exact hP
  have hS : va_S A s.heap H locs := by rw [hH, hlo]; exact hS
  refine zz_hl hH hlo ?_
  obtain ⟨hk01, hk8, hnt, hT, hO, hF, hU⟩ := id hg
  obtain ⟨hnc, hC⟩ := id hc
  refine lv_aload_n hx hb dX3_instruction_0 rfl (lv_at hl 0 rfl) ?_
  refine lv_iload_n hx hb dX3_instruction_1 rfl (lv_at hl 1 rfl) ?_
  have hFc := va_free (wc := w3 a cI cZ nk pa fa nc fo th tg nt tb te tk tt nu ub ue uk ut re ro fu bl go ra rc ex tc es wy) hD hS hA [0, 1, 2, 3, 4, 5, 6, 7, 8, 9, 10, 11, 12, 13, 14, 15, 16, 17, 18, 19, 20, 21, 22, 23] rfl
  refine vx_callv (vx_runV (As := [.int x]) (rest := []) ⟨hx, hb, hml, hown, hts⟩ (c_X3_requireInstruction l dC dI cI cZ cJ a nk pa fa nc fo th tg nt tb te tk tt nu ub ue uk ut re ro fu bl go ra rc ex tc es wy x H.size hlt ) (cwV 1 hts gX3_instruction_X3_requireInstruction rfl rfl rfl (by decide +kernel) ⟨Nat.le_of_ble_eq_true rfl, Nat.le_of_ble_eq_true rfl⟩) ⟨zTr_blind, va_recv hK hP (ci := 3) (q0 := 0) rfl rfl, zTr_at hP hK hn (hD.weaken (fun _ _ _ _ => trivial)) hzt hzu hS hFc⟩ rfl rfl hl.1 rfl (lv_room (Nat.le_of_ble_eq_true rfl)) dX3_instruction_2 ⟨Nat.le_of_ble_eq_true rfl, Nat.le_of_ble_eq_true rfl⟩) hS (fun q _ h => hFc q h) hFc (fun q _ h => hFc q h) (fun E ce q9 u_9 t H1 locs ht hvm hpx hBX hz1 hk1 hS hc9 hv9 hcl => ?_) (fun u_9 t H1 locs ht hvm hw hB hz1 hk1 hS => ?_)
  · skip
    obtain ⟨hXE, hP1, -, hD1⟩ := hBX
    rw [ht] at hP1
    rw [← hQ]
    refine vx_widen (k := 2) (n := 12) (Nat.le_of_ble_eq_true rfl) (Nat.le_of_ble_eq_true rfl) ?_
    exact vx_out (fun x h => absurd (hxt x h) id) hlocks hc9 hv9 hcl (fun t2 ht2 hvm2 => ⟨(), trivial, ⟨(⟨hXE.1, by rw [hXE.2]; rfl⟩), (by rw [ht2]; exact hP1), va_K.moved hvm2 hK, hD⟩, hS.F ht2⟩) hS.2.2 (Nat.le_refl _) (Nat.le_refl _)
  obtain ⟨hP1, -, hD1⟩ := hB
  rw [ht] at hP1
  obtain ⟨hP, hD⟩ := va_join (wr := []) (w1 := w3 a cI cZ nk pa fa nc fo th tg nt tb te tk tt nu ub ue uk ut re ro fu bl go ra rc ex tc es wy) hP hD [0, 1, 2, 3, 4, 5, 6, 7, 8, 9, 10, 11, 12, 13, 14, 15, 16, 17, 18, 19, 20, 21, 22, 23] [] rfl rfl (by decide) (by decide) hk1 hFc hP1 hD1
  generalize H1 = H at hP hS ⊢
  have hP : va_P (dC, dI) vwCl (w3 a cI cZ nk pa fa nc fo th tg nt tb te tk tt nu ub ue uk ut re ro fu bl go ra rc ex tc es wy) H := hP
  have hD : va_D A (w3 a cI cZ nk pa fa nc fo th tg nt tb te tk tt nu ub ue uk ut re ro fu bl go ra rc ex tc es wy) := hD
  refine W.widen (k := 1) (n := 6) (by omega) (by omega) ?_
  have hok := hw
  obtain ⟨i, hi, rfl⟩ := hasI_at (by omega) hw
  refine lv_iload_n hx hb dX3_instruction_5 rfl (lv_at hl 2 rfl) ?_
  by_cases w_2_0 : wh = 0
  · 
    refine lv_tableIn (off := 26) (tgt := 32) hx hb dX3_instruction_6 (by rw [w_2_0]; decide) (by rw [w_2_0]; decide) (by rw [w_2_0]; decide) (by decide) ?_
    refine lv_aload_n hx hb dX3_instruction_32 rfl (lv_at hl 0 rfl) ?_
    refine va_get (D := (dC, dI)) (ci := 3) (v := .ref (a 4)) (C := RX3) (T := TX3) (N := 15) hx hb hts (by decide +kernel) hown hK hP 0 rfl rfl 1 (by decide) (hts (.fieldLink RX3 19 "HandlerOptimizer" "code" "LHandlerOptimizer$Code;") (by decide +kernel)) (fun _ h9 => h9) rfl dX3_instruction_33 ?_
    refine va_getN (D := (dC, dI)) (ci := 0) (v := .ref (a 5)) (C := RX0) (T := TX0) (N := 4) hx hb hts (by decide +kernel) hown hK hP 4 rfl rfl 0 (by decide) (va_Nw.use rfl (hn (.fieldLinkNest RX3 103 "HandlerOptimizer$Code" "forms" "[I" "HandlerOptimizer") (by decide +kernel))) (fun _ h9 => h9) rfl dX3_instruction_36 ?_
    refine lv_iload_n hx hb dX3_instruction_39 rfl (lv_at hl 1 rfl) ?_
    refine va_iald hx hb hK hP 5 0 rfl rfl (vp_in_nI (n := i) (by omega) (by decide)) dX3_instruction_40 ?_
    refine zz_top (y := fo i) (congrArg _ (nI_clamp (by omega))) ?_
    rw [← hQ]
    refine vx_ret ?_
    refine W.widen (k := 2) (n := 12) (by omega) (by omega) ?_
    have hP9 := hP
    have hD9 := hD
    exact W.iret (v := fo i) hx hb hr (fun t ht hW => ⟨⟨fo i, (), rfl, (by rw [nI_clamp (by omega), hok]; subst_vars; simp [insV, hasI, *] <;> decide), (by rw [ht]; exact hP9), va_K.moved hW.alike hK, hD9⟩, hS.F ht⟩) hS.2.2 dX3_instruction_41
  by_cases w_2_1 : wh = 1
  · 
    refine lv_tableIn (off := 36) (tgt := 42) hx hb dX3_instruction_6 (by rw [w_2_1]; decide) (by rw [w_2_1]; decide) (by rw [w_2_1]; decide) (by decide) ?_
    refine lv_aload_n hx hb dX3_instruction_42 rfl (lv_at hl 0 rfl) ?_
    refine va_get (D := (dC, dI)) (ci := 3) (v := .ref (a 4)) (C := RX3) (T := TX3) (N := 15) hx hb hts (by decide +kernel) hown hK hP 0 rfl rfl 1 (by decide) (hts (.fieldLink RX3 19 "HandlerOptimizer" "code" "LHandlerOptimizer$Code;") (by decide +kernel)) (fun _ h9 => h9) rfl dX3_instruction_43 ?_
    refine va_getN (D := (dC, dI)) (ci := 0) (v := .ref (a 6)) (C := RX0) (T := TX0) (N := 4) hx hb hts (by decide +kernel) hown hK hP 4 rfl rfl 1 (by decide) (va_Nw.use rfl (hn (.fieldLinkNest RX3 106 "HandlerOptimizer$Code" "thrown" "[I" "HandlerOptimizer") (by decide +kernel))) (fun _ h9 => h9) rfl dX3_instruction_46 ?_
    refine lv_iload_n hx hb dX3_instruction_49 rfl (lv_at hl 1 rfl) ?_
    refine va_iald hx hb hK hP 6 0 rfl rfl (vp_in_nI (n := i) (by omega) (by decide)) dX3_instruction_50 ?_
    refine zz_top (y := th i) (congrArg _ (nI_clamp (by omega))) ?_
    rw [← hQ]
    refine vx_ret ?_
    refine W.widen (k := 2) (n := 12) (by omega) (by omega) ?_
    have hP9 := hP
    have hD9 := hD
    exact W.iret (v := th i) hx hb hr (fun t ht hW => ⟨⟨th i, (), rfl, (by rw [nI_clamp (by omega), hok]; subst_vars; simp [insV, hasI, *] <;> decide), (by rw [ht]; exact hP9), va_K.moved hW.alike hK, hD9⟩, hS.F ht⟩) hS.2.2 dX3_instruction_51
  by_cases w_2_2 : wh = 2
  · 
    refine lv_tableIn (off := 46) (tgt := 52) hx hb dX3_instruction_6 (by rw [w_2_2]; decide) (by rw [w_2_2]; decide) (by rw [w_2_2]; decide) (by decide) ?_
    refine lv_aload_n hx hb dX3_instruction_52 rfl (lv_at hl 0 rfl) ?_
    refine va_get (D := (dC, dI)) (ci := 3) (v := .ref (a 4)) (C := RX3) (T := TX3) (N := 15) hx hb hts (by decide +kernel) hown hK hP 0 rfl rfl 1 (by decide) (hts (.fieldLink RX3 19 "HandlerOptimizer" "code" "LHandlerOptimizer$Code;") (by decide +kernel)) (fun _ h9 => h9) rfl dX3_instruction_53 ?_
    refine va_getN (D := (dC, dI)) (ci := 0) (v := .ref (a 7)) (C := RX0) (T := TX0) (N := 4) hx hb hts (by decide +kernel) hown hK hP 4 rfl rfl 2 (by decide) (va_Nw.use rfl (hn (.fieldLinkNest RX3 109 "HandlerOptimizer$Code" "targets" "[I" "HandlerOptimizer") (by decide +kernel))) (fun _ h9 => h9) rfl dX3_instruction_56 ?_
    refine lv_iload_n hx hb dX3_instruction_59 rfl (lv_at hl 1 rfl) ?_
    refine va_iald hx hb hK hP 7 0 rfl rfl (vp_in_nI (n := i) (by omega) (by decide)) dX3_instruction_60 ?_
    refine zz_top (y := tg i) (congrArg _ (nI_clamp (by omega))) ?_
    rw [← hQ]
    refine vx_ret ?_
    refine W.widen (k := 2) (n := 12) (by omega) (by omega) ?_
    have hP9 := hP
    have hD9 := hD
    exact W.iret (v := tg i) hx hb hr (fun t ht hW => ⟨⟨tg i, (), rfl, (by rw [nI_clamp (by omega), hok]; subst_vars; simp [insV, hasI, *] <;> decide), (by rw [ht]; exact hP9), va_K.moved hW.alike hK, hD9⟩, hS.F ht⟩) hS.2.2 dX3_instruction_61
  refine lv_tableOut (tgt := 62) hx hb dX3_instruction_6 (zz_out3 w_2_0 w_2_1 w_2_2) (by decide) ?_
  rw [← hQ]
  obtain ⟨sa, hstr⟩ := hzt.2 (114, "what is not 0 to 2") (by decide +kernel)
  have hat := vx_hat (args := args) (s := s) (L := vx_atS RX3 116 "java/lang/IndexOutOfBoundsException" ["java/lang/RuntimeException", "java/lang/Exception"]) (B := zw_l) (fun w hw => hts w (zx_X3_instruction_62 w hw)) (by decide +kernel) (zt_use hzt)
  exact vx_throwS hx hb hlt (own := RX3) (cls := "java/lang/IndexOutOfBoundsException") (text := "what is not 0 to 2") (names := ["java/lang/RuntimeException", "java/lang/Exception"]) (ik := 112) (is := 114) (ic := 116) (sa := sa) hown (by decide +kernel) (by decide +kernel) (hts (.classLink RX3 112 "java/lang/IndexOutOfBoundsException") (by decide +kernel)) (hts (.initialized "java/lang/IndexOutOfBoundsException") (by decide +kernel)) hstr hat (by decide +kernel) hzu.1 hzu.2 hS (hl.1.trans hml.symm) dX3_instruction_62 dX3_instruction_65 dX3_instruction_66 dX3_instruction_68 dX3_instruction_71 (fun x h => absurd (hxt x h) id) (Nat.le_of_ble_eq_true rfl) (Nat.le_of_ble_eq_true rfl) (Nat.le_of_ble_eq_true rfl) (Nat.le_of_ble_eq_true rfl) hlocks (fun t hvm hz hk => ⟨(), trivial, ⟨(⟨rfl, by rw [hasI_n3 (by assumption) (by assumption) (by assumption)]; exact Bool.and_false _⟩), zz_keep2 hP hk, va_K.moved hvm hK, hD⟩, zz_thr hS hz hk⟩) hS.2.2 (Nat.le_of_ble_eq_true rfl) (Nat.le_of_ble_eq_true rfl)

theorem zx_X3_entry_76 : ∀ w ∈ (vx_atS RX3 116 "java/lang/IndexOutOfBoundsException" ["java/lang/RuntimeException", "java/lang/Exception"]).filter goodWord, w ∈ wsX3_entry := fun w h => List.mem_cons_of_mem _ (List.mem_append_right _ h)

set_option maxHeartbeats 4000000 in
set_option maxRecDepth 100000 in
theorem c_X3_entry (l : Launch) (dC : Nat → ClassId) (dI : Nat → Nat → Nat) (cI cZ cJ : ClassId) (a : Nat → Nat) (nk : Nat) (pa : Nat → Int32) (fa : Nat → Int32) (nc : Nat) (fo : Nat → Int32) (th : Nat → Int32) (tg : Nat → Int32) (nt : Nat) (tb : Nat → Int32) (te : Nat → Int32) (tk : Nat → Int32) (tt : Nat → Int32) (nu : Nat) (ub : Nat → Int32) (ue : Nat → Int32) (uk : Nat → Int32) (ut : Nat → Int32) (re : Nat → Int32) (ro : Nat → Int32) (fu : Nat → Int32) (bl : Nat → Int32) (go : Nat → Int32) (ra : Nat → Int32) (rc : Nat) (ex : Int32) (tc : Int32) (es : Int32) (wy : Int64) (x : Int32) (wh : Int32) (T : Nat → Nat → Nat) (up : Nat → Nat → Bool) (sz : Nat) (hlt : l.stackTraces = false) (hg : g3 nk fa up nt tb te tk tt T) (hc : okC nk nc fo th tg) : vx_Met l yX3_entry wsX3_entry ({ frames := 7, cells := 2, slots := 12, locals := 103 } : Room) (va_Pc [.ref (a 0), .int x, .int wh] (zTr (dC, dI) [(cI, .int), (cZ, .boolean), (cJ, .long)] (w3 a cI cZ nk pa fa nc fo th tg nt tb te tk tt nu ub ue uk ut re ro fu bl go ra rc ex tc es wy) sz)) (va_Qi (fun (r : Int32) (_ : Unit) => r = entV T x.toNatClampNeg wh ∧ (hasI x nt && hasI wh 4) = true) (fun _ t => zWo (dC, dI) [(cI, .int), (cZ, .boolean), (cJ, .long)] (w3 a cI cZ nk pa fa nc fo th tg nt tb te tk tt nu ub ue uk ut re ro fu bl go ra rc ex tc es wy) (va_A (w3 a cI cZ nk pa fa nc fo th tg nt tb te tk tt nu ub ue uk ut re ro fu bl go ra rc ex tc es wy) sz) t) (va_A (w3 a cI cZ nk pa fa nc fo th tg nt tb te tk tt nu ub ue uk ut re ro fu bl go ra rc ex tc es wy) sz)) (vx_X (fun (_ : Unit) => True) (fun E _ t => ((E = "java/lang/IndexOutOfBoundsException" ∧ (hasI x nt && hasI wh 4) = false)) ∧ zWo (dC, dI) [(cI, .int), (cZ, .boolean), (cJ, .long)] (w3 a cI cZ nk pa fa nc fo th tg nt tb te tk tt nu ub ue uk ut re ro fu bl go ra rc ex tc es wy) (va_A (w3 a cI cZ nk pa fa nc fo th tg nt tb te tk tt nu ub ue uk ut re ro fu bl go ra rc ex tc es wy) sz) t) (va_A (w3 a cI cZ nk pa fa nc fo th tg nt tb te tk tt nu ub ue uk ut re ro fu bl go ra rc ex tc es wy) sz)) 2 12 (va_A (w3 a cI cZ nk pa fa nc fo th tg nt tb te tk tt nu ub ue uk ut re ro fu bl go ra rc ex tc es wy) sz) := by
  refine vx_ofW (cc := cX3_entry) (maxL := 3) (ret := (some .int)) (by decide) rfl ?_
  intro p e s m args below meth c s₁ B hml hxt hv
  obtain ⟨hav, ⟨hsz, ⟨hP, hK, hn⟩, hD0⟩, hzt, hzu⟩ := hv
  have hx := B.exec
  have hb := B.bytes
  have hr := B.returns
  have hts := atoms_spec (ws := wsX3_entry) B.pre
  have hown : s.vm.findClass RX3 = some m.cls := findClass_of_methodNamed B.named
  have hlocks := B.notSynchronized
  subst hsz
  have hD := hD0.self (sz := s.heap.size)
  generalize hAe : (va_A (w3 a cI cZ nk pa fa nc fo th tg nt tb te tk tt nu ub ue uk ut re ro fu bl go ra rc ex tc es wy) s.heap.size) = A at hD hzu ⊢
  have hA : ∀ q : Nat, s.heap.size ≤ q → A q := fun q h => by rw [← hAe]; exact Or.inr h
  have hS : va_S A s.heap s.heap [] := va_S.rf
  generalize hQ : vx_MQ below (va_Qi (fun (r : Int32) (_ : Unit) => r = entV T x.toNatClampNeg wh ∧ (hasI x nt && hasI wh 4) = true) (fun _ t => zWo (dC, dI) [(cI, .int), (cZ, .boolean), (cJ, .long)] (w3 a cI cZ nk pa fa nc fo th tg nt tb te tk tt nu ub ue uk ut re ro fu bl go ra rc ex tc es wy) A t) A) (vx_X (fun (_ : Unit) => True) (fun E _ t => ((E = "java/lang/IndexOutOfBoundsException" ∧ (hasI x nt && hasI wh 4) = false)) ∧ zWo (dC, dI) [(cI, .int), (cZ, .boolean), (cJ, .long)] (w3 a cI cZ nk pa fa nc fo th tg nt tb te tk tt nu ub ue uk ut re ro fu bl go ra rc ex tc es wy) A t) A) args s 2 12 A = Q
  refine W.eq (g2 := entryFrame m ([.ref (a 0), .int x, .int wh] : List Value).toArray 3) (by rw [hav]) ?_
  have hl := lv_entry ([.ref (a 0), .int x, .int wh]) (n := 3) (Nat.le_of_ble_eq_true rfl)
  rw [lg_entry_eq]
  generalize (lg_sl ([.ref (a 0), .int x, .int wh]) ++ List.replicate (3 - (lg_sl ([.ref (a 0), .int x, .int wh])).length) Slot.unset).toArray = ls at hl ⊢
  have hl : lv_has ls 3 [(0, .ref (a 0)), (1, .int x), (2, .int wh)] := hl
  obtain ⟨H, hH⟩ : ∃ H, H = s.heap := ⟨_, rfl⟩
  obtain ⟨locs, hlo⟩ : ∃ q : List Loc, q = [] := ⟨_, rfl⟩
  have hP : va_P (dC, dI) vwCl (w3 a cI cZ nk pa fa nc fo th tg nt tb te tk tt nu ub ue uk ut re ro fu bl go ra rc ex tc es wy) H := by rw [hH]; exact hP
  have hS : va_S A s.heap H locs := by rw [hH, hlo]; exact hS
  refine zz_hl hH hlo ?_
  obtain ⟨hk01, hk8, hnt, hT, hO, hF, hU⟩ := id hg
  obtain ⟨hnc, hC⟩ := id hc
  refine lv_aload_n hx hb dX3_entry_0 rfl (lv_at hl 0 rfl) ?_
  refine lv_iload_n hx hb dX3_entry_1 rfl (lv_at hl 1 rfl) ?_
  have hFc := va_free (wc := w3 a cI cZ nk pa fa nc fo th tg nt tb te tk tt nu ub ue uk ut re ro fu bl go ra rc ex tc es wy) hD hS hA [0, 1, 2, 3, 4, 5, 6, 7, 8, 9, 10, 11, 12, 13, 14, 15, 16, 17, 18, 19, 20, 21, 22, 23] rfl
  refine vx_callv (vx_runV (As := [.int x]) (rest := []) ⟨hx, hb, hml, hown, hts⟩ (c_X3_requireEntry l dC dI cI cZ cJ a nk pa fa nc fo th tg nt tb te tk tt nu ub ue uk ut re ro fu bl go ra rc ex tc es wy x H.size hlt ) (cwV 1 hts gX3_entry_X3_requireEntry rfl rfl rfl (by decide +kernel) ⟨Nat.le_of_ble_eq_true rfl, Nat.le_of_ble_eq_true rfl⟩) ⟨zTr_blind, va_recv hK hP (ci := 3) (q0 := 0) rfl rfl, zTr_at hP hK hn (hD.weaken (fun _ _ _ _ => trivial)) hzt hzu hS hFc⟩ rfl rfl hl.1 rfl (lv_room (Nat.le_of_ble_eq_true rfl)) dX3_entry_2 ⟨Nat.le_of_ble_eq_true rfl, Nat.le_of_ble_eq_true rfl⟩) hS (fun q _ h => hFc q h) hFc (fun q _ h => hFc q h) (fun E ce q9 u_9 t H1 locs ht hvm hpx hBX hz1 hk1 hS hc9 hv9 hcl => ?_) (fun u_9 t H1 locs ht hvm hw hB hz1 hk1 hS => ?_)
  · skip
    obtain ⟨hXE, hP1, -, hD1⟩ := hBX
    rw [ht] at hP1
    rw [← hQ]
    refine vx_widen (k := 2) (n := 12) (Nat.le_of_ble_eq_true rfl) (Nat.le_of_ble_eq_true rfl) ?_
    exact vx_out (fun x h => absurd (hxt x h) id) hlocks hc9 hv9 hcl (fun t2 ht2 hvm2 => ⟨(), trivial, ⟨(⟨hXE.1, by rw [hXE.2]; rfl⟩), (by rw [ht2]; exact hP1), va_K.moved hvm2 hK, hD⟩, hS.F ht2⟩) hS.2.2 (Nat.le_refl _) (Nat.le_refl _)
  obtain ⟨hP1, -, hD1⟩ := hB
  rw [ht] at hP1
  obtain ⟨hP, hD⟩ := va_join (wr := []) (w1 := w3 a cI cZ nk pa fa nc fo th tg nt tb te tk tt nu ub ue uk ut re ro fu bl go ra rc ex tc es wy) hP hD [0, 1, 2, 3, 4, 5, 6, 7, 8, 9, 10, 11, 12, 13, 14, 15, 16, 17, 18, 19, 20, 21, 22, 23] [] rfl rfl (by decide) (by decide) hk1 hFc hP1 hD1
  generalize H1 = H at hP hS ⊢
  have hP : va_P (dC, dI) vwCl (w3 a cI cZ nk pa fa nc fo th tg nt tb te tk tt nu ub ue uk ut re ro fu bl go ra rc ex tc es wy) H := hP
  have hD : va_D A (w3 a cI cZ nk pa fa nc fo th tg nt tb te tk tt nu ub ue uk ut re ro fu bl go ra rc ex tc es wy) := hD
  refine W.widen (k := 1) (n := 6) (by omega) (by omega) ?_
  have hok := hw
  obtain ⟨i, hi, rfl⟩ := hasI_at (by omega) hw
  obtain ⟨e0, e1, e2, e3⟩ := hT i hi
  refine lv_iload_n hx hb dX3_entry_5 rfl (lv_at hl 2 rfl) ?_
  by_cases w_2_0 : wh = 0
  · 
    refine lv_tableIn (off := 30) (tgt := 36) hx hb dX3_entry_6 (by rw [w_2_0]; decide) (by rw [w_2_0]; decide) (by rw [w_2_0]; decide) (by decide) ?_
    refine lv_aload_n hx hb dX3_entry_36 rfl (lv_at hl 0 rfl) ?_
    refine va_get (D := (dC, dI)) (ci := 3) (v := .ref (a 8)) (C := RX3) (T := TX3) (N := 15) hx hb hts (by decide +kernel) hown hK hP 0 rfl rfl 2 (by decide) (hts (.fieldLink RX3 26 "HandlerOptimizer" "table" "LHandlerOptimizer$Table;") (by decide +kernel)) (fun _ h9 => h9) rfl dX3_entry_37 ?_
    refine va_getN (D := (dC, dI)) (ci := 2) (v := .ref (a 9)) (C := RX2) (T := TX2) (N := 5) hx hb hts (by decide +kernel) hown hK hP 8 rfl rfl 0 (by decide) (va_Nw.use rfl (hn (.fieldLinkNest RX3 135 "HandlerOptimizer$Table" "begins" "[I" "HandlerOptimizer") (by decide +kernel))) (fun _ h9 => h9) rfl dX3_entry_40 ?_
    refine lv_iload_n hx hb dX3_entry_43 rfl (lv_at hl 1 rfl) ?_
    refine va_iald hx hb hK hP 9 0 rfl rfl (vp_in_nI (n := i) (by omega) (by decide)) dX3_entry_44 ?_
    refine zz_top (y := tb i) (congrArg _ (nI_clamp (by omega))) ?_
    rw [← hQ]
    refine vx_ret ?_
    refine W.widen (k := 2) (n := 12) (by omega) (by omega) ?_
    have hP9 := hP
    have hD9 := hD
    exact W.iret (v := tb i) hx hb hr (fun t ht hW => ⟨⟨tb i, (), rfl, (by rw [nI_clamp (by omega), hok]; subst_vars; simp [entV, hasI, *] <;> decide), (by rw [ht]; exact hP9), va_K.moved hW.alike hK, hD9⟩, hS.F ht⟩) hS.2.2 dX3_entry_45
  by_cases w_2_1 : wh = 1
  · 
    refine lv_tableIn (off := 40) (tgt := 46) hx hb dX3_entry_6 (by rw [w_2_1]; decide) (by rw [w_2_1]; decide) (by rw [w_2_1]; decide) (by decide) ?_
    refine lv_aload_n hx hb dX3_entry_46 rfl (lv_at hl 0 rfl) ?_
    refine va_get (D := (dC, dI)) (ci := 3) (v := .ref (a 8)) (C := RX3) (T := TX3) (N := 15) hx hb hts (by decide +kernel) hown hK hP 0 rfl rfl 2 (by decide) (hts (.fieldLink RX3 26 "HandlerOptimizer" "table" "LHandlerOptimizer$Table;") (by decide +kernel)) (fun _ h9 => h9) rfl dX3_entry_47 ?_
    refine va_getN (D := (dC, dI)) (ci := 2) (v := .ref (a 10)) (C := RX2) (T := TX2) (N := 5) hx hb hts (by decide +kernel) hown hK hP 8 rfl rfl 1 (by decide) (va_Nw.use rfl (hn (.fieldLinkNest RX3 138 "HandlerOptimizer$Table" "ends" "[I" "HandlerOptimizer") (by decide +kernel))) (fun _ h9 => h9) rfl dX3_entry_50 ?_
    refine lv_iload_n hx hb dX3_entry_53 rfl (lv_at hl 1 rfl) ?_
    refine va_iald hx hb hK hP 10 0 rfl rfl (vp_in_nI (n := i) (by omega) (by decide)) dX3_entry_54 ?_
    refine zz_top (y := te i) (congrArg _ (nI_clamp (by omega))) ?_
    rw [← hQ]
    refine vx_ret ?_
    refine W.widen (k := 2) (n := 12) (by omega) (by omega) ?_
    have hP9 := hP
    have hD9 := hD
    exact W.iret (v := te i) hx hb hr (fun t ht hW => ⟨⟨te i, (), rfl, (by rw [nI_clamp (by omega), hok]; subst_vars; simp [entV, hasI, *] <;> decide), (by rw [ht]; exact hP9), va_K.moved hW.alike hK, hD9⟩, hS.F ht⟩) hS.2.2 dX3_entry_55
  by_cases w_2_2 : wh = 2
  · 
    refine lv_tableIn (off := 50) (tgt := 56) hx hb dX3_entry_6 (by rw [w_2_2]; decide) (by rw [w_2_2]; decide) (by rw [w_2_2]; decide) (by decide) ?_
    refine lv_aload_n hx hb dX3_entry_56 rfl (lv_at hl 0 rfl) ?_
    refine va_get (D := (dC, dI)) (ci := 3) (v := .ref (a 8)) (C := RX3) (T := TX3) (N := 15) hx hb hts (by decide +kernel) hown hK hP 0 rfl rfl 2 (by decide) (hts (.fieldLink RX3 26 "HandlerOptimizer" "table" "LHandlerOptimizer$Table;") (by decide +kernel)) (fun _ h9 => h9) rfl dX3_entry_57 ?_
    refine va_getN (D := (dC, dI)) (ci := 2) (v := .ref (a 11)) (C := RX2) (T := TX2) (N := 5) hx hb hts (by decide +kernel) hown hK hP 8 rfl rfl 2 (by decide) (va_Nw.use rfl (hn (.fieldLinkNest RX3 141 "HandlerOptimizer$Table" "kinds" "[I" "HandlerOptimizer") (by decide +kernel))) (fun _ h9 => h9) rfl dX3_entry_60 ?_
    refine lv_iload_n hx hb dX3_entry_63 rfl (lv_at hl 1 rfl) ?_
    refine va_iald hx hb hK hP 11 0 rfl rfl (vp_in_nI (n := i) (by omega) (by decide)) dX3_entry_64 ?_
    refine zz_top (y := tk i) (congrArg _ (nI_clamp (by omega))) ?_
    rw [← hQ]
    refine vx_ret ?_
    refine W.widen (k := 2) (n := 12) (by omega) (by omega) ?_
    have hP9 := hP
    have hD9 := hD
    exact W.iret (v := tk i) hx hb hr (fun t ht hW => ⟨⟨tk i, (), rfl, (by rw [nI_clamp (by omega), hok]; subst_vars; simp [entV, hasI, *] <;> decide), (by rw [ht]; exact hP9), va_K.moved hW.alike hK, hD9⟩, hS.F ht⟩) hS.2.2 dX3_entry_65
  by_cases w_2_3 : wh = 3
  · 
    refine lv_tableIn (off := 60) (tgt := 66) hx hb dX3_entry_6 (by rw [w_2_3]; decide) (by rw [w_2_3]; decide) (by rw [w_2_3]; decide) (by decide) ?_
    refine lv_aload_n hx hb dX3_entry_66 rfl (lv_at hl 0 rfl) ?_
    refine va_get (D := (dC, dI)) (ci := 3) (v := .ref (a 8)) (C := RX3) (T := TX3) (N := 15) hx hb hts (by decide +kernel) hown hK hP 0 rfl rfl 2 (by decide) (hts (.fieldLink RX3 26 "HandlerOptimizer" "table" "LHandlerOptimizer$Table;") (by decide +kernel)) (fun _ h9 => h9) rfl dX3_entry_67 ?_
    refine va_getN (D := (dC, dI)) (ci := 2) (v := .ref (a 12)) (C := RX2) (T := TX2) (N := 5) hx hb hts (by decide +kernel) hown hK hP 8 rfl rfl 3 (by decide) (va_Nw.use rfl (hn (.fieldLinkNest RX3 143 "HandlerOptimizer$Table" "targets" "[I" "HandlerOptimizer") (by decide +kernel))) (fun _ h9 => h9) rfl dX3_entry_70 ?_
    refine lv_iload_n hx hb dX3_entry_73 rfl (lv_at hl 1 rfl) ?_
    refine va_iald hx hb hK hP 12 0 rfl rfl (vp_in_nI (n := i) (by omega) (by decide)) dX3_entry_74 ?_
    refine zz_top (y := tt i) (congrArg _ (nI_clamp (by omega))) ?_
    rw [← hQ]
    refine vx_ret ?_
    refine W.widen (k := 2) (n := 12) (by omega) (by omega) ?_
    have hP9 := hP
    have hD9 := hD
    exact W.iret (v := tt i) hx hb hr (fun t ht hW => ⟨⟨tt i, (), rfl, (by rw [nI_clamp (by omega), hok]; subst_vars; simp [entV, hasI, *] <;> decide), (by rw [ht]; exact hP9), va_K.moved hW.alike hK, hD9⟩, hS.F ht⟩) hS.2.2 dX3_entry_75
  refine lv_tableOut (tgt := 76) hx hb dX3_entry_6 (zz_out4 w_2_0 w_2_1 w_2_2 w_2_3) (by decide) ?_
  rw [← hQ]
  obtain ⟨sa, hstr⟩ := hzt.2 (144, "what is not 0 to 3") (by decide +kernel)
  have hat := vx_hat (args := args) (s := s) (L := vx_atS RX3 116 "java/lang/IndexOutOfBoundsException" ["java/lang/RuntimeException", "java/lang/Exception"]) (B := zw_l) (fun w hw => hts w (zx_X3_entry_76 w hw)) (by decide +kernel) (zt_use hzt)
  exact vx_throwS hx hb hlt (own := RX3) (cls := "java/lang/IndexOutOfBoundsException") (text := "what is not 0 to 3") (names := ["java/lang/RuntimeException", "java/lang/Exception"]) (ik := 112) (is := 144) (ic := 116) (sa := sa) hown (by decide +kernel) (by decide +kernel) (hts (.classLink RX3 112 "java/lang/IndexOutOfBoundsException") (by decide +kernel)) (hts (.initialized "java/lang/IndexOutOfBoundsException") (by decide +kernel)) hstr hat (by decide +kernel) hzu.1 hzu.2 hS (hl.1.trans hml.symm) dX3_entry_76 dX3_entry_79 dX3_entry_80 dX3_entry_82 dX3_entry_85 (fun x h => absurd (hxt x h) id) (Nat.le_of_ble_eq_true rfl) (Nat.le_of_ble_eq_true rfl) (Nat.le_of_ble_eq_true rfl) (Nat.le_of_ble_eq_true rfl) hlocks (fun t hvm hz hk => ⟨(), trivial, ⟨(⟨rfl, by rw [hasI_n4 (by assumption) (by assumption) (by assumption) (by assumption)]; exact Bool.and_false _⟩), zz_keep2 hP hk, va_K.moved hvm hK, hD⟩, zz_thr hS hz hk⟩) hS.2.2 (Nat.le_of_ble_eq_true rfl) (Nat.le_of_ble_eq_true rfl)

theorem zx_X3_addEntry_20 : ∀ w ∈ (vx_atS RX3 121 "java/lang/IllegalArgumentException" ["java/lang/RuntimeException", "java/lang/Exception"]).filter goodWord, w ∈ wsX3_addEntry := fun w h => List.mem_cons_of_mem _ (List.mem_append_left _ (List.mem_append_left _ (List.mem_append_right _ h)))

theorem zx_X3_addEntry_46 : ∀ w ∈ (vx_atS RX3 69 "java/lang/IllegalStateException" ["java/lang/RuntimeException", "java/lang/Exception"]).filter goodWord, w ∈ wsX3_addEntry := fun w h => List.mem_cons_of_mem _ (List.mem_append_left _ (List.mem_append_right _ h))

set_option maxHeartbeats 4000000 in
set_option maxRecDepth 100000 in
theorem c_X3_addEntry (l : Launch) (dC : Nat → ClassId) (dI : Nat → Nat → Nat) (cI cZ cJ : ClassId) (a : Nat → Nat) (nk : Nat) (pa : Nat → Int32) (fa : Nat → Int32) (nc : Nat) (fo : Nat → Int32) (th : Nat → Int32) (tg : Nat → Int32) (nt : Nat) (tb : Nat → Int32) (te : Nat → Int32) (tk : Nat → Int32) (tt : Nat → Int32) (nu : Nat) (ub : Nat → Int32) (ue : Nat → Int32) (uk : Nat → Int32) (ut : Nat → Int32) (re : Nat → Int32) (ro : Nat → Int32) (fu : Nat → Int32) (bl : Nat → Int32) (go : Nat → Int32) (ra : Nat → Int32) (rc : Nat) (ex : Int32) (tc : Int32) (es : Int32) (wy : Int64) (x : Int32) (y : Int32) (z : Int32) (w : Int32) (T : Nat → Nat → Nat) (up : Nat → Nat → Bool) (sz : Nat) (hlt : l.stackTraces = false) (hg : g3 nk fa up nt tb te tk tt T) (hc : okC nk nc fo th tg) : vx_Met l yX3_addEntry wsX3_addEntry ({ frames := 7, cells := 3, slots := 18, locals := 103 } : Room) (va_Pc [.ref (a 0), .int x, .int y, .int z, .int w] (zTr (dC, dI) [(cI, .int), (cZ, .boolean), (cJ, .long)] (w3 a cI cZ nk pa fa nc fo th tg nt tb te tk tt nu ub ue uk ut re ro fu bl go ra rc ex tc es wy) sz)) (va_Qi (fun (r : Int32) (_ : Unit) => r = nI nt ∧ (hasI z nk = true ∧ eOK x y w = true ∧ nt < 24) ∧ g3 nk fa up (nt + 1) (upd tb nt x) (upd te nt y) (upd tk nt z) (upd tt nt w) (aT T nt x.toNatClampNeg y.toNatClampNeg z.toNatClampNeg w.toNatClampNeg)) (fun _ t => zWo (dC, dI) [(cI, .int), (cZ, .boolean), (cJ, .long)] (w3 a cI cZ nk pa fa nc fo th tg (nt + 1) (upd tb nt x) (upd te nt y) (upd tk nt z) (upd tt nt w) nu ub ue uk ut re ro fu bl go ra rc ex tc es wy) (va_A (w3 a cI cZ nk pa fa nc fo th tg nt tb te tk tt nu ub ue uk ut re ro fu bl go ra rc ex tc es wy) sz) t) (va_A (w3 a cI cZ nk pa fa nc fo th tg nt tb te tk tt nu ub ue uk ut re ro fu bl go ra rc ex tc es wy) sz)) (vx_X (fun (_ : Unit) => True) (fun E _ t => ((E = "java/lang/IndexOutOfBoundsException" ∧ hasI z nk = false) ∨ (E = "java/lang/IllegalArgumentException" ∧ (hasI z nk = true ∧ eOK x y w = false)) ∨ (E = "java/lang/IllegalStateException" ∧ (hasI z nk = true ∧ eOK x y w = true ∧ nt = 24))) ∧ zWo (dC, dI) [(cI, .int), (cZ, .boolean), (cJ, .long)] (w3 a cI cZ nk pa fa nc fo th tg nt tb te tk tt nu ub ue uk ut re ro fu bl go ra rc ex tc es wy) (va_A (w3 a cI cZ nk pa fa nc fo th tg nt tb te tk tt nu ub ue uk ut re ro fu bl go ra rc ex tc es wy) sz) t) (va_A (w3 a cI cZ nk pa fa nc fo th tg nt tb te tk tt nu ub ue uk ut re ro fu bl go ra rc ex tc es wy) sz)) 3 18 (va_A (w3 a cI cZ nk pa fa nc fo th tg nt tb te tk tt nu ub ue uk ut re ro fu bl go ra rc ex tc es wy) sz) := by
  refine vx_ofW (cc := cX3_addEntry) (maxL := 5) (ret := (some .int)) (by decide) rfl ?_
  intro p e s m args below meth c s₁ B hml hxt hv
  obtain ⟨hav, ⟨hsz, ⟨hP, hK, hn⟩, hD0⟩, hzt, hzu⟩ := hv
  have hx := B.exec
  have hb := B.bytes
  have hr := B.returns
  have hts := atoms_spec (ws := wsX3_addEntry) B.pre
  have hown : s.vm.findClass RX3 = some m.cls := findClass_of_methodNamed B.named
  have hlocks := B.notSynchronized
  subst hsz
  have hD := hD0.self (sz := s.heap.size)
  generalize hAe : (va_A (w3 a cI cZ nk pa fa nc fo th tg nt tb te tk tt nu ub ue uk ut re ro fu bl go ra rc ex tc es wy) s.heap.size) = A at hD hzu ⊢
  have hA : ∀ q : Nat, s.heap.size ≤ q → A q := fun q h => by rw [← hAe]; exact Or.inr h
  have hS : va_S A s.heap s.heap [] := va_S.rf
  generalize hQ : vx_MQ below (va_Qi (fun (r : Int32) (_ : Unit) => r = nI nt ∧ (hasI z nk = true ∧ eOK x y w = true ∧ nt < 24) ∧ g3 nk fa up (nt + 1) (upd tb nt x) (upd te nt y) (upd tk nt z) (upd tt nt w) (aT T nt x.toNatClampNeg y.toNatClampNeg z.toNatClampNeg w.toNatClampNeg)) (fun _ t => zWo (dC, dI) [(cI, .int), (cZ, .boolean), (cJ, .long)] (w3 a cI cZ nk pa fa nc fo th tg (nt + 1) (upd tb nt x) (upd te nt y) (upd tk nt z) (upd tt nt w) nu ub ue uk ut re ro fu bl go ra rc ex tc es wy) A t) A) (vx_X (fun (_ : Unit) => True) (fun E _ t => ((E = "java/lang/IndexOutOfBoundsException" ∧ hasI z nk = false) ∨ (E = "java/lang/IllegalArgumentException" ∧ (hasI z nk = true ∧ eOK x y w = false)) ∨ (E = "java/lang/IllegalStateException" ∧ (hasI z nk = true ∧ eOK x y w = true ∧ nt = 24))) ∧ zWo (dC, dI) [(cI, .int), (cZ, .boolean), (cJ, .long)] (w3 a cI cZ nk pa fa nc fo th tg nt tb te tk tt nu ub ue uk ut re ro fu bl go ra rc ex tc es wy) A t) A) args s 3 18 A = Q
  refine W.eq (g2 := entryFrame m ([.ref (a 0), .int x, .int y, .int z, .int w] : List Value).toArray 5) (by rw [hav]) ?_
  have hl := lv_entry ([.ref (a 0), .int x, .int y, .int z, .int w]) (n := 5) (Nat.le_of_ble_eq_true rfl)
  rw [lg_entry_eq]
  generalize (lg_sl ([.ref (a 0), .int x, .int y, .int z, .int w]) ++ List.replicate (5 - (lg_sl ([.ref (a 0), .int x, .int y, .int z, .int w])).length) Slot.unset).toArray = ls at hl ⊢
  have hl : lv_has ls 5 [(0, .ref (a 0)), (1, .int x), (2, .int y), (3, .int z), (4, .int w)] := hl
  obtain ⟨H, hH⟩ : ∃ H, H = s.heap := ⟨_, rfl⟩
  obtain ⟨locs, hlo⟩ : ∃ q : List Loc, q = [] := ⟨_, rfl⟩
  have hP : va_P (dC, dI) vwCl (w3 a cI cZ nk pa fa nc fo th tg nt tb te tk tt nu ub ue uk ut re ro fu bl go ra rc ex tc es wy) H := by rw [hH]; exact hP
  have hS : va_S A s.heap H locs := by rw [hH, hlo]; exact hS
  refine zz_hl hH hlo ?_
  obtain ⟨hk01, hk8, hnt, hT, hO, hF, hU⟩ := id hg
  obtain ⟨hnc, hC⟩ := id hc
  refine lv_aload_n hx hb dX3_addEntry_0 rfl (lv_at hl 0 rfl) ?_
  refine lv_iload_n hx hb dX3_addEntry_1 rfl (lv_at hl 3 rfl) ?_
  have hFc := va_free (wc := w3 a cI cZ nk pa fa nc fo th tg nt tb te tk tt nu ub ue uk ut re ro fu bl go ra rc ex tc es wy) hD hS hA [0, 1, 2, 3, 4, 5, 6, 7, 8, 9, 10, 11, 12, 13, 14, 15, 16, 17, 18, 19, 20, 21, 22, 23] rfl
  refine vx_callv (vx_runV (As := [.int z]) (rest := []) ⟨hx, hb, hml, hown, hts⟩ (c_X3_requireKind l dC dI cI cZ cJ a nk pa fa nc fo th tg nt tb te tk tt nu ub ue uk ut re ro fu bl go ra rc ex tc es wy z H.size hlt ) (cwV 1 hts gX3_addEntry_X3_requireKind rfl rfl rfl (by decide +kernel) ⟨Nat.le_of_ble_eq_true rfl, Nat.le_of_ble_eq_true rfl⟩) ⟨zTr_blind, va_recv hK hP (ci := 3) (q0 := 0) rfl rfl, zTr_at hP hK hn (hD.weaken (fun _ _ _ _ => trivial)) hzt hzu hS hFc⟩ rfl rfl hl.1 rfl (lv_room (Nat.le_of_ble_eq_true rfl)) dX3_addEntry_2 ⟨Nat.le_of_ble_eq_true rfl, Nat.le_of_ble_eq_true rfl⟩) hS (fun q _ h => hFc q h) hFc (fun q _ h => hFc q h) (fun E ce q9 u_9 t H1 locs ht hvm hpx hBX hz1 hk1 hS hc9 hv9 hcl => ?_) (fun u_9 t H1 locs ht hvm hw hB hz1 hk1 hS => ?_)
  · skip
    obtain ⟨hXE, hP1, -, hD1⟩ := hBX
    rw [ht] at hP1
    rw [← hQ]
    refine vx_widen (k := 3) (n := 18) (Nat.le_of_ble_eq_true rfl) (Nat.le_of_ble_eq_true rfl) ?_
    exact vx_out (fun x h => absurd (hxt x h) id) hlocks hc9 hv9 hcl (fun t2 ht2 hvm2 => ⟨(), trivial, ⟨(Or.inl hXE), (by rw [ht2]; exact hP1), va_K.moved hvm2 hK, hD⟩, hS.F ht2⟩) hS.2.2 (Nat.le_refl _) (Nat.le_refl _)
  obtain ⟨hP1, -, hD1⟩ := hB
  rw [ht] at hP1
  obtain ⟨hP, hD⟩ := va_join (wr := []) (w1 := w3 a cI cZ nk pa fa nc fo th tg nt tb te tk tt nu ub ue uk ut re ro fu bl go ra rc ex tc es wy) hP hD [0, 1, 2, 3, 4, 5, 6, 7, 8, 9, 10, 11, 12, 13, 14, 15, 16, 17, 18, 19, 20, 21, 22, 23] [] rfl rfl (by decide) (by decide) hk1 hFc hP1 hD1
  generalize H1 = H at hP hS ⊢
  have hP : va_P (dC, dI) vwCl (w3 a cI cZ nk pa fa nc fo th tg nt tb te tk tt nu ub ue uk ut re ro fu bl go ra rc ex tc es wy) H := hP
  have hD : va_D A (w3 a cI cZ nk pa fa nc fo th tg nt tb te tk tt nu ub ue uk ut re ro fu bl go ra rc ex tc es wy) := hD
  refine W.widen (k := 1) (n := 6) (by omega) (by omega) ?_
  have hok := hw
  obtain ⟨k9, hk9, rfl⟩ := hasI_at (by omega) hw
  refine lv_iload_n hx hb dX3_addEntry_5 rfl (lv_at hl 1 rfl) ?_
  refine lv_if_lt (tgt := 20) hx hb dX3_addEntry_6 (by decide) (fun c_2 => ?_) (fun c_2 => ?_)
  · skip
    have c9 : eOK x y w = false := by simp [eOK, c_2]
    rw [← hQ]
    obtain ⟨sa, hstr⟩ := hzt.2 (119, "no range") (by decide +kernel)
    have hat := vx_hat (args := args) (s := s) (L := vx_atS RX3 121 "java/lang/IllegalArgumentException" ["java/lang/RuntimeException", "java/lang/Exception"]) (B := zw_l) (fun w hw => hts w (zx_X3_addEntry_20 w hw)) (by decide +kernel) (zt_use hzt)
    exact vx_throwS hx hb hlt (own := RX3) (cls := "java/lang/IllegalArgumentException") (text := "no range") (names := ["java/lang/RuntimeException", "java/lang/Exception"]) (ik := 117) (is := 119) (ic := 121) (sa := sa) hown (by decide +kernel) (by decide +kernel) (hts (.classLink RX3 117 "java/lang/IllegalArgumentException") (by decide +kernel)) (hts (.initialized "java/lang/IllegalArgumentException") (by decide +kernel)) hstr hat (by decide +kernel) hzu.1 hzu.2 hS (hl.1.trans hml.symm) dX3_addEntry_20 dX3_addEntry_23 dX3_addEntry_24 dX3_addEntry_26 dX3_addEntry_29 (fun x h => absurd (hxt x h) id) (Nat.le_of_ble_eq_true rfl) (Nat.le_of_ble_eq_true rfl) (Nat.le_of_ble_eq_true rfl) (Nat.le_of_ble_eq_true rfl) hlocks (fun t hvm hz hk => ⟨(), trivial, ⟨(Or.inr (Or.inl ⟨rfl, hok, c9⟩)), zz_keep2 hP hk, va_K.moved hvm hK, hD⟩, zz_thr hS hz hk⟩) hS.2.2 (Nat.le_of_ble_eq_true rfl) (Nat.le_of_ble_eq_true rfl)
  · skip
    have c6 := c_2
    refine lv_iload_n hx hb dX3_addEntry_9 rfl (lv_at hl 2 rfl) ?_
    refine lv_bipush (v := 48) hx hb dX3_addEntry_10 (by decide) ?_
    refine lv_icmp_gt (tgt := 20) hx hb dX3_addEntry_12 (by decide) (fun c_3 => ?_) (fun c_3 => ?_)
    · skip
      have c9 : eOK x y w = false := by simp [eOK, c_3]
      rw [← hQ]
      obtain ⟨sa, hstr⟩ := hzt.2 (119, "no range") (by decide +kernel)
      have hat := vx_hat (args := args) (s := s) (L := vx_atS RX3 121 "java/lang/IllegalArgumentException" ["java/lang/RuntimeException", "java/lang/Exception"]) (B := zw_l) (fun w hw => hts w (zx_X3_addEntry_20 w hw)) (by decide +kernel) (zt_use hzt)
      exact vx_throwS hx hb hlt (own := RX3) (cls := "java/lang/IllegalArgumentException") (text := "no range") (names := ["java/lang/RuntimeException", "java/lang/Exception"]) (ik := 117) (is := 119) (ic := 121) (sa := sa) hown (by decide +kernel) (by decide +kernel) (hts (.classLink RX3 117 "java/lang/IllegalArgumentException") (by decide +kernel)) (hts (.initialized "java/lang/IllegalArgumentException") (by decide +kernel)) hstr hat (by decide +kernel) hzu.1 hzu.2 hS (hl.1.trans hml.symm) dX3_addEntry_20 dX3_addEntry_23 dX3_addEntry_24 dX3_addEntry_26 dX3_addEntry_29 (fun x h => absurd (hxt x h) id) (Nat.le_of_ble_eq_true rfl) (Nat.le_of_ble_eq_true rfl) (Nat.le_of_ble_eq_true rfl) (Nat.le_of_ble_eq_true rfl) hlocks (fun t hvm hz hk => ⟨(), trivial, ⟨(Or.inr (Or.inl ⟨rfl, hok, c9⟩)), zz_keep2 hP hk, va_K.moved hvm hK, hD⟩, zz_thr hS hz hk⟩) hS.2.2 (Nat.le_of_ble_eq_true rfl) (Nat.le_of_ble_eq_true rfl)
    · skip
      have c7 := c_3
      refine lv_iload_n hx hb dX3_addEntry_15 rfl (lv_at hl 1 rfl) ?_
      refine lv_iload_n hx hb dX3_addEntry_16 rfl (lv_at hl 2 rfl) ?_
      refine lv_icmp_lt (tgt := 30) hx hb dX3_addEntry_17 (by decide) (fun c_4 => ?_) (fun c_4 => ?_)
      · skip
        have c8 := c_4
        refine lv_aload_n hx hb dX3_addEntry_30 rfl (lv_at hl 0 rfl) ?_
        refine lv_iload hx hb dX3_addEntry_31 (lv_at hl 4 rfl) ?_
        have hFc := va_free (wc := w3 a cI cZ nk pa fa nc fo th tg nt tb te tk tt nu ub ue uk ut re ro fu bl go ra rc ex tc es wy) hD hS hA [0, 1, 2, 3, 4, 5, 6, 7, 8, 9, 10, 11, 12, 13, 14, 15, 16, 17, 18, 19, 20, 21, 22, 23] rfl
        refine vx_callv (vx_runV (As := [.int w]) (rest := []) ⟨hx, hb, hml, hown, hts⟩ (c_X3_requireTarget l dC dI cI cZ cJ a nk pa fa nc fo th tg nt tb te tk tt nu ub ue uk ut re ro fu bl go ra rc ex tc es wy w H.size hlt ) (cwV 1 hts gX3_addEntry_X3_requireTarget rfl rfl rfl (by decide +kernel) ⟨Nat.le_of_ble_eq_true rfl, Nat.le_of_ble_eq_true rfl⟩) ⟨zTr_blind, va_recv hK hP (ci := 3) (q0 := 0) rfl rfl, zTr_at hP hK hn (hD.weaken (fun _ _ _ _ => trivial)) hzt hzu hS hFc⟩ rfl rfl hl.1 rfl (lv_room (Nat.le_of_ble_eq_true rfl)) dX3_addEntry_33 ⟨Nat.le_of_ble_eq_true rfl, Nat.le_of_ble_eq_true rfl⟩) hS (fun q _ h => hFc q h) hFc (fun q _ h => hFc q h) (fun E ce q9 u_9 t H1 locs ht hvm hpx hBX hz1 hk1 hS hc9 hv9 hcl => ?_) (fun u_9 t H1 locs ht hvm hw hB hz1 hk1 hS => ?_)
        · skip
          obtain ⟨hXE, hP1, -, hD1⟩ := hBX
          rw [ht] at hP1
          rw [← hQ]
          refine vx_widen (k := 3) (n := 18) (Nat.le_of_ble_eq_true rfl) (Nat.le_of_ble_eq_true rfl) ?_
          exact vx_out (fun x h => absurd (hxt x h) id) hlocks hc9 hv9 hcl (fun t2 ht2 hvm2 => ⟨(), trivial, ⟨(Or.inr (Or.inl ⟨hXE.1, hok, by simp [eOK, hXE.2]⟩)), (by rw [ht2]; exact hP1), va_K.moved hvm2 hK, hD⟩, hS.F ht2⟩) hS.2.2 (Nat.le_refl _) (Nat.le_refl _)
        obtain ⟨hP1, -, hD1⟩ := hB
        rw [ht] at hP1
        obtain ⟨hP, hD⟩ := va_join (wr := []) (w1 := w3 a cI cZ nk pa fa nc fo th tg nt tb te tk tt nu ub ue uk ut re ro fu bl go ra rc ex tc es wy) hP hD [0, 1, 2, 3, 4, 5, 6, 7, 8, 9, 10, 11, 12, 13, 14, 15, 16, 17, 18, 19, 20, 21, 22, 23] [] rfl rfl (by decide) (by decide) hk1 hFc hP1 hD1
        generalize H1 = H at hP hS ⊢
        have hP : va_P (dC, dI) vwCl (w3 a cI cZ nk pa fa nc fo th tg nt tb te tk tt nu ub ue uk ut re ro fu bl go ra rc ex tc es wy) H := hP
        have hD : va_D A (w3 a cI cZ nk pa fa nc fo th tg nt tb te tk tt nu ub ue uk ut re ro fu bl go ra rc ex tc es wy) := hD
        refine W.widen (k := 2) (n := 12) (by omega) (by omega) ?_
        have hok2 := hw
        obtain ⟨g9, hg9, rfl⟩ := hasI_at (by omega) hw
        refine lv_aload_n hx hb dX3_addEntry_36 rfl (lv_at hl 0 rfl) ?_
        refine va_get (D := (dC, dI)) (ci := 3) (v := .ref (a 8)) (C := RX3) (T := TX3) (N := 15) hx hb hts (by decide +kernel) hown hK hP 0 rfl rfl 2 (by decide) (hts (.fieldLink RX3 26 "HandlerOptimizer" "table" "LHandlerOptimizer$Table;") (by decide +kernel)) (fun _ h9 => h9) rfl dX3_addEntry_37 ?_
        have hPc := hP.sub (ws' := wT (a 8) (a 9) (a 10) (a 11) (a 12) cI nt tb te tk tt) [8, 9, 10, 11, 12] rfl
        refine va_calli (va_runVN (As := []) (rest := []) ⟨hx, hb, hml, hown, hts⟩ (c_X2_isFull l dC dI cI cZ cJ (a 8) (a 9) (a 10) (a 11) (a 12) nt tb te tk tt (by first | assumption | omega)) ⟨va_cnB 0 hts gX3_addEntry_X2_isFull_n122 rfl rfl rfl (hn (.methodLinkNest RX3 122 yX2_isFull "HandlerOptimizer") (by decide +kernel)) (hts (.initialized RX2) (by decide +kernel)) (by decide +kernel) ⟨Nat.le_of_ble_eq_true rfl, Nat.le_of_ble_eq_true rfl⟩, hts (.instanceMethod yX2_isFull) (by decide +kernel), hts (.selects RX2 yX2_isFull yX2_isFull) (by decide +kernel)⟩ ⟨zPre_blind, va_recv hK hPc (ci := 2) (q0 := 0) rfl rfl, zPre_at hPc hK hn⟩ rfl rfl hl.1 rfl (lv_room (Nat.le_of_ble_eq_true rfl)) dX3_addEntry_40 ⟨Nat.le_of_ble_eq_true rfl, Nat.le_of_ble_eq_true rfl⟩) hS (fun _ _ h => h.elim) (fun _ h => h.elim) (fun r_6 u_9 t H locs ht hvm hw hB hz1 hk1 hS => ?_)
        have hP := zkeep hP hk1
        subst hw
        refine lv_if_eq (tgt := 56) hx hb dX3_addEntry_43 (by decide) (fun c_7 => ?_) (fun c_7 => ?_)
        · skip
          have c5 := of_decide_eq_false (zb_0.mp c_7)
          refine lv_aload_n hx hb dX3_addEntry_56 rfl (lv_at hl 0 rfl) ?_
          refine va_get (D := (dC, dI)) (ci := 3) (v := .ref (a 8)) (C := RX3) (T := TX3) (N := 15) hx hb hts (by decide +kernel) hown hK hP 0 rfl rfl 2 (by decide) (hts (.fieldLink RX3 26 "HandlerOptimizer" "table" "LHandlerOptimizer$Table;") (by decide +kernel)) (fun _ h9 => h9) rfl dX3_addEntry_57 ?_
          refine lv_iload_n hx hb dX3_addEntry_60 rfl (lv_at hl 1 rfl) ?_
          refine lv_iload_n hx hb dX3_addEntry_61 rfl (lv_at hl 2 rfl) ?_
          refine lv_iload_n hx hb dX3_addEntry_62 rfl (lv_at hl 3 rfl) ?_
          refine lv_iload hx hb dX3_addEntry_63 (lv_at hl 4 rfl) ?_
          have hPc := hP.sub (ws' := wT (a 8) (a 9) (a 10) (a 11) (a 12) cI nt tb te tk tt) [8, 9, 10, 11, 12] rfl
          have hDc := hD.sub (ws' := wT (a 8) (a 9) (a 10) (a 11) (a 12) cI nt tb te tk tt) [8, 9, 10, 11, 12] (by decide) rfl
          have hFc := va_free (wc := wT (a 8) (a 9) (a 10) (a 11) (a 12) cI nt tb te tk tt) hD hS hA [8, 9, 10, 11, 12] rfl
          refine va_calli (va_runVN (As := [.int x, .int y, .int (nI k9), .int (nI g9)]) (rest := []) ⟨hx, hb, hml, hown, hts⟩ (c_X2_append l dC dI cI cZ cJ (a 8) (a 9) (a 10) (a 11) (a 12) nt tb te tk tt x y (nI k9) (nI g9) H.size (by first | assumption | omega)) ⟨va_cnB 4 hts gX3_addEntry_X2_append_n125 rfl rfl rfl (hn (.methodLinkNest RX3 125 yX2_append "HandlerOptimizer") (by decide +kernel)) (hts (.initialized RX2) (by decide +kernel)) (by decide +kernel) ⟨Nat.le_of_ble_eq_true rfl, Nat.le_of_ble_eq_true rfl⟩, hts (.instanceMethod yX2_append) (by decide +kernel), hts (.selects RX2 yX2_append yX2_append) (by decide +kernel)⟩ ⟨zWr_blind, va_recv hK hPc (ci := 2) (q0 := 0) rfl rfl, zWr_at hPc hK hn (hDc.weaken (fun _ _ _ _ => trivial))⟩ rfl rfl hl.1 rfl (lv_room (Nat.le_of_ble_eq_true rfl)) dX3_addEntry_65 ⟨Nat.le_of_ble_eq_true rfl, Nat.le_of_ble_eq_true rfl⟩) hS (fun q _ h => hFc q h) hFc (fun r_8 u_9 t H1 locs ht hvm hw hB hz1 hk1 hS => ?_)
          obtain ⟨hP1, -, hD1⟩ := hB
          rw [ht] at hP1
          obtain ⟨hP, hD⟩ := va_join (wr := [(a 0, .inr (3, [.ref (a 1), .ref (a 4), .ref (a 8), .ref (a 13), .ref (a 18), .ref (a 19), .int (nI rc), .ref (a 20), .ref (a 21), .ref (a 22), .ref (a 23), .int ex, .int tc, .int es, .long wy]))] ++ wK (a 1) (a 2) (a 3) cI nk pa fa ++ wC (a 4) (a 5) (a 6) (a 7) cI nc fo th tg ++ wT (a 13) (a 14) (a 15) (a 16) (a 17) cI nu ub ue uk ut ++ [(a 18, .inl (cZ, 48, .inl re)), (a 19, .inl (cI, 48, .inl ro)), (a 20, .inl (cI, 24, .inl fu)), (a 21, .inl (cI, 24, .inl bl)), (a 22, .inl (cI, 384, .inl go)), (a 23, .inl (cI, 49, .inl ra))]) (w1 := wT (a 8) (a 9) (a 10) (a 11) (a 12) cI (nt + 1) (upd tb nt x) (upd te nt y) (upd tk nt (nI k9)) (upd tt nt (nI g9))) hP hD [8, 9, 10, 11, 12] [0, 1, 2, 3, 4, 5, 6, 7, 13, 14, 15, 16, 17, 18, 19, 20, 21, 22, 23] rfl rfl (by decide) (by decide) hk1 hFc hP1 hD1
          generalize H1 = H at hP hS ⊢
          have hP := hP.sub (ws' := w3 a cI cZ nk pa fa nc fo th tg (nt + 1) (upd tb nt x) (upd te nt y) (upd tk nt (nI k9)) (upd tt nt (nI g9)) nu ub ue uk ut re ro fu bl go ra rc ex tc es wy) [0, 1, 2, 3, 4, 5, 6, 7, 19, 20, 21, 22, 23, 8, 9, 10, 11, 12, 13, 14, 15, 16, 17, 18] rfl
          have hD := hD.sub (ws' := w3 a cI cZ nk pa fa nc fo th tg (nt + 1) (upd tb nt x) (upd te nt y) (upd tk nt (nI k9)) (upd tt nt (nI g9)) nu ub ue uk ut re ro fu bl go ra rc ex tc es wy) [0, 1, 2, 3, 4, 5, 6, 7, 19, 20, 21, 22, 23, 8, 9, 10, 11, 12, 13, 14, 15, 16, 17, 18] (by decide) rfl
          have hP : va_P (dC, dI) vwCl (w3 a cI cZ nk pa fa nc fo th tg (nt + 1) (upd tb nt x) (upd te nt y) (upd tk nt (nI k9)) (upd tt nt (nI g9)) nu ub ue uk ut re ro fu bl go ra rc ex tc es wy) H := hP
          have hD : va_D A (w3 a cI cZ nk pa fa nc fo th tg (nt + 1) (upd tb nt x) (upd te nt y) (upd tk nt (nI k9)) (upd tt nt (nI g9)) nu ub ue uk ut re ro fu bl go ra rc ex tc es wy) := hD
          subst hw
          rw [← hQ]
          refine vx_ret ?_
          refine W.widen (k := 3) (n := 18) (by omega) (by omega) ?_
          have hP9 := hP
          have hD9 := hD
          exact W.iret (v := nI nt) hx hb hr (fun t ht hW => ⟨⟨nI nt, (), rfl, (by
                  obtain ⟨b9, hb9, rfl⟩ := nI_of c6
                  obtain ⟨d9, hd9, rfl⟩ := nI_of (x := y) (fun q => c6 (by simp only [Int32.lt_iff_toInt_lt] at c8 q ⊢; omega))
                  have c8n := (nI_ltI hb9 hd9).mp c8
                  have c7n : ¬ 48 < d9 := fun q => c7 ((nI_ltI (a := 48) (by omega) hd9).mpr q)
                  rw [nI_clamp hb9, nI_clamp hd9, nI_clamp (by omega), nI_clamp (by omega)]
                  exact ⟨rfl, ⟨hok, by simp [eOK, c6, c7, c8, hok2], by omega⟩, hk01, hk8, by omega, rT_add hT, okT_add hO (by omega) (by omega) (by omega) (by omega), hF, hU⟩), (by rw [ht]; exact hP9), va_K.moved hW.alike hK, hD9⟩, hS.F ht⟩) hS.2.2 dX3_addEntry_68
        · skip
          have c5 := of_decide_eq_true (zb_1.mp c_7)
          rw [← hQ]
          obtain ⟨sa, hstr⟩ := hzt.2 (123, "there are 24 entries") (by decide +kernel)
          have hat := vx_hat (args := args) (s := s) (L := vx_atS RX3 69 "java/lang/IllegalStateException" ["java/lang/RuntimeException", "java/lang/Exception"]) (B := zw_l) (fun w hw => hts w (zx_X3_addEntry_46 w hw)) (by decide +kernel) (zt_use hzt)
          exact vx_throwS hx hb hlt (own := RX3) (cls := "java/lang/IllegalStateException") (text := "there are 24 entries") (names := ["java/lang/RuntimeException", "java/lang/Exception"]) (ik := 65) (is := 123) (ic := 69) (sa := sa) hown (by decide +kernel) (by decide +kernel) (hts (.classLink RX3 65 "java/lang/IllegalStateException") (by decide +kernel)) (hts (.initialized "java/lang/IllegalStateException") (by decide +kernel)) hstr hat (by decide +kernel) hzu.1 hzu.2 hS (hl.1.trans hml.symm) dX3_addEntry_46 dX3_addEntry_49 dX3_addEntry_50 dX3_addEntry_52 dX3_addEntry_55 (fun x h => absurd (hxt x h) id) (Nat.le_of_ble_eq_true rfl) (Nat.le_of_ble_eq_true rfl) (Nat.le_of_ble_eq_true rfl) (Nat.le_of_ble_eq_true rfl) hlocks (fun t hvm hz hk => ⟨(), trivial, ⟨(Or.inr (Or.inr ⟨rfl, hok, by simp [eOK, c6, c7, c8, hok2], by omega⟩)), zz_keep2 hP hk, va_K.moved hvm hK, hD⟩, zz_thr hS hz hk⟩) hS.2.2 (Nat.le_of_ble_eq_true rfl) (Nat.le_of_ble_eq_true rfl)
      · skip
        have c9 : eOK x y w = false := by simp [eOK, c_4]
        rw [← hQ]
        obtain ⟨sa, hstr⟩ := hzt.2 (119, "no range") (by decide +kernel)
        have hat := vx_hat (args := args) (s := s) (L := vx_atS RX3 121 "java/lang/IllegalArgumentException" ["java/lang/RuntimeException", "java/lang/Exception"]) (B := zw_l) (fun w hw => hts w (zx_X3_addEntry_20 w hw)) (by decide +kernel) (zt_use hzt)
        exact vx_throwS hx hb hlt (own := RX3) (cls := "java/lang/IllegalArgumentException") (text := "no range") (names := ["java/lang/RuntimeException", "java/lang/Exception"]) (ik := 117) (is := 119) (ic := 121) (sa := sa) hown (by decide +kernel) (by decide +kernel) (hts (.classLink RX3 117 "java/lang/IllegalArgumentException") (by decide +kernel)) (hts (.initialized "java/lang/IllegalArgumentException") (by decide +kernel)) hstr hat (by decide +kernel) hzu.1 hzu.2 hS (hl.1.trans hml.symm) dX3_addEntry_20 dX3_addEntry_23 dX3_addEntry_24 dX3_addEntry_26 dX3_addEntry_29 (fun x h => absurd (hxt x h) id) (Nat.le_of_ble_eq_true rfl) (Nat.le_of_ble_eq_true rfl) (Nat.le_of_ble_eq_true rfl) (Nat.le_of_ble_eq_true rfl) hlocks (fun t hvm hz hk => ⟨(), trivial, ⟨(Or.inr (Or.inl ⟨rfl, hok, c9⟩)), zz_keep2 hP hk, va_K.moved hvm hK, hD⟩, zz_thr hS hz hk⟩) hS.2.2 (Nat.le_of_ble_eq_true rfl) (Nat.le_of_ble_eq_true rfl)


set_option maxHeartbeats 4000000 in
set_option maxRecDepth 100000 in
theorem c_X3_removeEntry (l : Launch) (dC : Nat → ClassId) (dI : Nat → Nat → Nat) (cI cZ cJ : ClassId) (a : Nat → Nat) (nk : Nat) (pa : Nat → Int32) (fa : Nat → Int32) (nc : Nat) (fo : Nat → Int32) (th : Nat → Int32) (tg : Nat → Int32) (nt : Nat) (tb : Nat → Int32) (te : Nat → Int32) (tk : Nat → Int32) (tt : Nat → Int32) (nu : Nat) (ub : Nat → Int32) (ue : Nat → Int32) (uk : Nat → Int32) (ut : Nat → Int32) (re : Nat → Int32) (ro : Nat → Int32) (fu : Nat → Int32) (bl : Nat → Int32) (go : Nat → Int32) (ra : Nat → Int32) (rc : Nat) (ex : Int32) (tc : Int32) (es : Int32) (wy : Int64) (x : Int32) (T : Nat → Nat → Nat) (up : Nat → Nat → Bool) (sz : Nat) (hlt : l.stackTraces = false) (hg : g3 nk fa up nt tb te tk tt T) (hc : okC nk nc fo th tg) : vx_Met l yX3_removeEntry wsX3_removeEntry ({ frames := 7, cells := 1, slots := 6, locals := 103 } : Room) (va_Pc [.ref (a 0), .int x] (zTr (dC, dI) [(cI, .int), (cZ, .boolean), (cJ, .long)] (w3 a cI cZ nk pa fa nc fo th tg nt tb te tk tt nu ub ue uk ut re ro fu bl go ra rc ex tc es wy) sz)) (va_Qi (fun (r : Int32) (u : (Nat → Int32) × (Nat → Int32) × (Nat → Int32) × (Nat → Int32)) => match u with | (tb9, te9, tk9, tt9) => r = nI (nt - 1) ∧ hasI x nt = true ∧ g3 nk fa up (nt - 1) tb9 te9 tk9 tt9 (dT T x.toNatClampNeg)) (fun u t => match u with | (tb9, te9, tk9, tt9) => zWo (dC, dI) [(cI, .int), (cZ, .boolean), (cJ, .long)] (w3 a cI cZ nk pa fa nc fo th tg (nt - 1) tb9 te9 tk9 tt9 nu ub ue uk ut re ro fu bl go ra rc ex tc es wy) (va_A (w3 a cI cZ nk pa fa nc fo th tg nt tb te tk tt nu ub ue uk ut re ro fu bl go ra rc ex tc es wy) sz) t) (va_A (w3 a cI cZ nk pa fa nc fo th tg nt tb te tk tt nu ub ue uk ut re ro fu bl go ra rc ex tc es wy) sz)) (vx_X (fun (_ : Unit) => True) (fun E _ t => ((E = "java/lang/IndexOutOfBoundsException" ∧ hasI x nt = false)) ∧ zWo (dC, dI) [(cI, .int), (cZ, .boolean), (cJ, .long)] (w3 a cI cZ nk pa fa nc fo th tg nt tb te tk tt nu ub ue uk ut re ro fu bl go ra rc ex tc es wy) (va_A (w3 a cI cZ nk pa fa nc fo th tg nt tb te tk tt nu ub ue uk ut re ro fu bl go ra rc ex tc es wy) sz) t) (va_A (w3 a cI cZ nk pa fa nc fo th tg nt tb te tk tt nu ub ue uk ut re ro fu bl go ra rc ex tc es wy) sz)) 1 6 (va_A (w3 a cI cZ nk pa fa nc fo th tg nt tb te tk tt nu ub ue uk ut re ro fu bl go ra rc ex tc es wy) sz) := by
  refine vx_ofW (cc := cX3_removeEntry) (maxL := 2) (ret := (some .int)) (by decide) rfl ?_
  intro p e s m args below meth c s₁ B hml hxt hv
  obtain ⟨hav, ⟨hsz, ⟨hP, hK, hn⟩, hD0⟩, hzt, hzu⟩ := hv
  have hx := B.exec
  have hb := B.bytes
  have hr := B.returns
  have hts := atoms_spec (ws := wsX3_removeEntry) B.pre
  have hown : s.vm.findClass RX3 = some m.cls := findClass_of_methodNamed B.named
  have hlocks := B.notSynchronized
  subst hsz
  have hD := hD0.self (sz := s.heap.size)
  generalize hAe : (va_A (w3 a cI cZ nk pa fa nc fo th tg nt tb te tk tt nu ub ue uk ut re ro fu bl go ra rc ex tc es wy) s.heap.size) = A at hD hzu ⊢
  have hA : ∀ q : Nat, s.heap.size ≤ q → A q := fun q h => by rw [← hAe]; exact Or.inr h
  have hS : va_S A s.heap s.heap [] := va_S.rf
  generalize hQ : vx_MQ below (va_Qi (fun (r : Int32) (u : (Nat → Int32) × (Nat → Int32) × (Nat → Int32) × (Nat → Int32)) => match u with | (tb9, te9, tk9, tt9) => r = nI (nt - 1) ∧ hasI x nt = true ∧ g3 nk fa up (nt - 1) tb9 te9 tk9 tt9 (dT T x.toNatClampNeg)) (fun u t => match u with | (tb9, te9, tk9, tt9) => zWo (dC, dI) [(cI, .int), (cZ, .boolean), (cJ, .long)] (w3 a cI cZ nk pa fa nc fo th tg (nt - 1) tb9 te9 tk9 tt9 nu ub ue uk ut re ro fu bl go ra rc ex tc es wy) A t) A) (vx_X (fun (_ : Unit) => True) (fun E _ t => ((E = "java/lang/IndexOutOfBoundsException" ∧ hasI x nt = false)) ∧ zWo (dC, dI) [(cI, .int), (cZ, .boolean), (cJ, .long)] (w3 a cI cZ nk pa fa nc fo th tg nt tb te tk tt nu ub ue uk ut re ro fu bl go ra rc ex tc es wy) A t) A) args s 1 6 A = Q
  refine W.eq (g2 := entryFrame m ([.ref (a 0), .int x] : List Value).toArray 2) (by rw [hav]) ?_
  have hl := lv_entry ([.ref (a 0), .int x]) (n := 2) (Nat.le_of_ble_eq_true rfl)
  rw [lg_entry_eq]
  generalize (lg_sl ([.ref (a 0), .int x]) ++ List.replicate (2 - (lg_sl ([.ref (a 0), .int x])).length) Slot.unset).toArray = ls at hl ⊢
  have hl : lv_has ls 2 [(0, .ref (a 0)), (1, .int x)] := hl
  obtain ⟨H, hH⟩ : ∃ H, H = s.heap := ⟨_, rfl⟩
  obtain ⟨locs, hlo⟩ : ∃ q : List Loc, q = [] := ⟨_, rfl⟩
  have hP : va_P (dC, dI) vwCl (w3 a cI cZ nk pa fa nc fo th tg nt tb te tk tt nu ub ue uk ut re ro fu bl go ra rc ex tc es wy) H := by rw [hH]; exact hP
  have hS : va_S A s.heap H locs := by rw [hH, hlo]; exact hS
  refine zz_hl hH hlo ?_
  obtain ⟨hk01, hk8, hnt, hT, hO, hF, hU⟩ := id hg
  obtain ⟨hnc, hC⟩ := id hc
  refine lv_aload_n hx hb dX3_removeEntry_0 rfl (lv_at hl 0 rfl) ?_
  refine lv_iload_n hx hb dX3_removeEntry_1 rfl (lv_at hl 1 rfl) ?_
  have hFc := va_free (wc := w3 a cI cZ nk pa fa nc fo th tg nt tb te tk tt nu ub ue uk ut re ro fu bl go ra rc ex tc es wy) hD hS hA [0, 1, 2, 3, 4, 5, 6, 7, 8, 9, 10, 11, 12, 13, 14, 15, 16, 17, 18, 19, 20, 21, 22, 23] rfl
  refine vx_callv (vx_runV (As := [.int x]) (rest := []) ⟨hx, hb, hml, hown, hts⟩ (c_X3_requireEntry l dC dI cI cZ cJ a nk pa fa nc fo th tg nt tb te tk tt nu ub ue uk ut re ro fu bl go ra rc ex tc es wy x H.size hlt ) (cwV 1 hts gX3_removeEntry_X3_requireEntry rfl rfl rfl (by decide +kernel) ⟨Nat.le_of_ble_eq_true rfl, Nat.le_of_ble_eq_true rfl⟩) ⟨zTr_blind, va_recv hK hP (ci := 3) (q0 := 0) rfl rfl, zTr_at hP hK hn (hD.weaken (fun _ _ _ _ => trivial)) hzt hzu hS hFc⟩ rfl rfl hl.1 rfl (lv_room (Nat.le_of_ble_eq_true rfl)) dX3_removeEntry_2 ⟨Nat.le_of_ble_eq_true rfl, Nat.le_of_ble_eq_true rfl⟩) hS (fun q _ h => hFc q h) hFc (fun q _ h => hFc q h) (fun E ce q9 u_9 t H1 locs ht hvm hpx hBX hz1 hk1 hS hc9 hv9 hcl => ?_) (fun u_9 t H1 locs ht hvm hw hB hz1 hk1 hS => ?_)
  · skip
    obtain ⟨hXE, hP1, -, hD1⟩ := hBX
    rw [ht] at hP1
    rw [← hQ]
    refine vx_widen (k := 1) (n := 6) (Nat.le_of_ble_eq_true rfl) (Nat.le_of_ble_eq_true rfl) ?_
    exact vx_out (fun x h => absurd (hxt x h) id) hlocks hc9 hv9 hcl (fun t2 ht2 hvm2 => ⟨(), trivial, ⟨(hXE), (by rw [ht2]; exact hP1), va_K.moved hvm2 hK, hD⟩, hS.F ht2⟩) hS.2.2 (Nat.le_refl _) (Nat.le_refl _)
  obtain ⟨hP1, -, hD1⟩ := hB
  rw [ht] at hP1
  obtain ⟨hP, hD⟩ := va_join (wr := []) (w1 := w3 a cI cZ nk pa fa nc fo th tg nt tb te tk tt nu ub ue uk ut re ro fu bl go ra rc ex tc es wy) hP hD [0, 1, 2, 3, 4, 5, 6, 7, 8, 9, 10, 11, 12, 13, 14, 15, 16, 17, 18, 19, 20, 21, 22, 23] [] rfl rfl (by decide) (by decide) hk1 hFc hP1 hD1
  generalize H1 = H at hP hS ⊢
  have hP : va_P (dC, dI) vwCl (w3 a cI cZ nk pa fa nc fo th tg nt tb te tk tt nu ub ue uk ut re ro fu bl go ra rc ex tc es wy) H := hP
  have hD : va_D A (w3 a cI cZ nk pa fa nc fo th tg nt tb te tk tt nu ub ue uk ut re ro fu bl go ra rc ex tc es wy) := hD
  refine W.widen (k := 1) (n := 6) (by omega) (by omega) ?_
  have hok := hw
  obtain ⟨i, hi, rfl⟩ := hasI_at (by omega) hw
  refine lv_aload_n hx hb dX3_removeEntry_5 rfl (lv_at hl 0 rfl) ?_
  refine va_get (D := (dC, dI)) (ci := 3) (v := .ref (a 8)) (C := RX3) (T := TX3) (N := 15) hx hb hts (by decide +kernel) hown hK hP 0 rfl rfl 2 (by decide) (hts (.fieldLink RX3 26 "HandlerOptimizer" "table" "LHandlerOptimizer$Table;") (by decide +kernel)) (fun _ h9 => h9) rfl dX3_removeEntry_6 ?_
  refine lv_iload_n hx hb dX3_removeEntry_9 rfl (lv_at hl 1 rfl) ?_
  have hPc := hP.sub (ws' := wT (a 8) (a 9) (a 10) (a 11) (a 12) cI nt tb te tk tt) [8, 9, 10, 11, 12] rfl
  have hDc := hD.sub (ws' := wT (a 8) (a 9) (a 10) (a 11) (a 12) cI nt tb te tk tt) [8, 9, 10, 11, 12] (by decide) rfl
  have hFc := va_free (wc := wT (a 8) (a 9) (a 10) (a 11) (a 12) cI nt tb te tk tt) hD hS hA [8, 9, 10, 11, 12] rfl
  refine va_callv (va_runVN (As := [.int (nI i)]) (rest := []) ⟨hx, hb, hml, hown, hts⟩ (c_X2_delete l dC dI cI cZ cJ (a 8) (a 9) (a 10) (a 11) (a 12) nt tb te tk tt i T H.size (hi) (by first | assumption | omega) (by first | assumption | omega)) ⟨va_cnB 1 hts gX3_removeEntry_X2_delete_n131 rfl rfl rfl (hn (.methodLinkNest RX3 131 yX2_delete "HandlerOptimizer") (by decide +kernel)) (hts (.initialized RX2) (by decide +kernel)) (by decide +kernel) ⟨Nat.le_of_ble_eq_true rfl, Nat.le_of_ble_eq_true rfl⟩, hts (.instanceMethod yX2_delete) (by decide +kernel), hts (.selects RX2 yX2_delete yX2_delete) (by decide +kernel)⟩ ⟨zWr_blind, va_recv hK hPc (ci := 2) (q0 := 0) rfl rfl, zWr_at hPc hK hn (hDc.weaken (fun _ _ _ _ => trivial))⟩ rfl rfl hl.1 rfl (lv_room (Nat.le_of_ble_eq_true rfl)) dX3_removeEntry_10 ⟨Nat.le_of_ble_eq_true rfl, Nat.le_of_ble_eq_true rfl⟩) hS (fun q _ h => hFc q h) hFc (fun u_9 t H1 locs ht hvm hw hB hz1 hk1 hS => ?_)
  obtain ⟨tb_n, te_n, tk_n, tt_n⟩ := u_9
  dsimp only at hw hB
  obtain ⟨hP1, -, hD1⟩ := hB
  rw [ht] at hP1
  obtain ⟨hP, hD⟩ := va_join (wr := [(a 0, .inr (3, [.ref (a 1), .ref (a 4), .ref (a 8), .ref (a 13), .ref (a 18), .ref (a 19), .int (nI rc), .ref (a 20), .ref (a 21), .ref (a 22), .ref (a 23), .int ex, .int tc, .int es, .long wy]))] ++ wK (a 1) (a 2) (a 3) cI nk pa fa ++ wC (a 4) (a 5) (a 6) (a 7) cI nc fo th tg ++ wT (a 13) (a 14) (a 15) (a 16) (a 17) cI nu ub ue uk ut ++ [(a 18, .inl (cZ, 48, .inl re)), (a 19, .inl (cI, 48, .inl ro)), (a 20, .inl (cI, 24, .inl fu)), (a 21, .inl (cI, 24, .inl bl)), (a 22, .inl (cI, 384, .inl go)), (a 23, .inl (cI, 49, .inl ra))]) (w1 := wT (a 8) (a 9) (a 10) (a 11) (a 12) cI (nt - 1) tb_n te_n tk_n tt_n) hP hD [8, 9, 10, 11, 12] [0, 1, 2, 3, 4, 5, 6, 7, 13, 14, 15, 16, 17, 18, 19, 20, 21, 22, 23] rfl rfl (by decide) (by decide) hk1 hFc hP1 hD1
  generalize H1 = H at hP hS ⊢
  have hP := hP.sub (ws' := w3 a cI cZ nk pa fa nc fo th tg (nt - 1) tb_n te_n tk_n tt_n nu ub ue uk ut re ro fu bl go ra rc ex tc es wy) [0, 1, 2, 3, 4, 5, 6, 7, 19, 20, 21, 22, 23, 8, 9, 10, 11, 12, 13, 14, 15, 16, 17, 18] rfl
  have hD := hD.sub (ws' := w3 a cI cZ nk pa fa nc fo th tg (nt - 1) tb_n te_n tk_n tt_n nu ub ue uk ut re ro fu bl go ra rc ex tc es wy) [0, 1, 2, 3, 4, 5, 6, 7, 19, 20, 21, 22, 23, 8, 9, 10, 11, 12, 13, 14, 15, 16, 17, 18] (by decide) rfl
  have hP : va_P (dC, dI) vwCl (w3 a cI cZ nk pa fa nc fo th tg (nt - 1) tb_n te_n tk_n tt_n nu ub ue uk ut re ro fu bl go ra rc ex tc es wy) H := hP
  have hD : va_D A (w3 a cI cZ nk pa fa nc fo th tg (nt - 1) tb_n te_n tk_n tt_n nu ub ue uk ut re ro fu bl go ra rc ex tc es wy) := hD
  have hTd := hw
  refine lv_aload_n hx hb dX3_removeEntry_13 rfl (lv_at hl 0 rfl) ?_
  refine va_get (D := (dC, dI)) (ci := 3) (v := .ref (a 8)) (C := RX3) (T := TX3) (N := 15) hx hb hts (by decide +kernel) hown hK hP 0 rfl rfl 2 (by decide) (hts (.fieldLink RX3 26 "HandlerOptimizer" "table" "LHandlerOptimizer$Table;") (by decide +kernel)) (fun _ h9 => h9) rfl dX3_removeEntry_14 ?_
  refine va_getN (D := (dC, dI)) (ci := 2) (v := .int (nI (nt - 1))) (C := RX2) (T := TX2) (N := 5) hx hb hts (by decide +kernel) hown hK hP 8 rfl rfl 4 (by decide) (va_Nw.use rfl (hn (.fieldLinkNest RX3 134 "HandlerOptimizer$Table" "count" "I" "HandlerOptimizer") (by decide +kernel))) (fun _ h9 => h9) rfl dX3_removeEntry_17 ?_
  rw [← hQ]
  refine vx_ret ?_
  have hP9 := hP
  have hD9 := hD
  exact W.iret (v := nI (nt - 1)) hx hb hr (fun t ht hW => ⟨⟨nI (nt - 1), (tb_n, te_n, tk_n, tt_n), rfl, (by rw [nI_clamp (by omega)]; exact ⟨rfl, hok, hk01, hk8, by omega, hTd, okT_del hO, hF, hU⟩), (by rw [ht]; exact hP9), va_K.moved hW.alike hK, hD9⟩, hS.F ht⟩) hS.2.2 dX3_removeEntry_20


set_option maxHeartbeats 4000000 in
set_option maxRecDepth 100000 in
theorem c_X3_taker (l : Launch) (dC : Nat → ClassId) (dI : Nat → Nat → Nat) (cI cZ cJ : ClassId) (a : Nat → Nat) (nk : Nat) (pa : Nat → Int32) (fa : Nat → Int32) (nc : Nat) (fo : Nat → Int32) (th : Nat → Int32) (tg : Nat → Int32) (nt : Nat) (tb : Nat → Int32) (te : Nat → Int32) (tk : Nat → Int32) (tt : Nat → Int32) (nu : Nat) (ub : Nat → Int32) (ue : Nat → Int32) (uk : Nat → Int32) (ut : Nat → Int32) (re : Nat → Int32) (ro : Nat → Int32) (fu : Nat → Int32) (bl : Nat → Int32) (go : Nat → Int32) (ra : Nat → Int32) (rc : Nat) (ex : Int32) (tc : Int32) (es : Int32) (wy : Int64) (x : Int32) (y : Int32) (T : Nat → Nat → Nat) (up : Nat → Nat → Bool) (sz : Nat) (hlt : l.stackTraces = false) (hg : g3 nk fa up nt tb te tk tt T) (hc : okC nk nc fo th tg) : vx_Met l yX3_taker wsX3_taker ({ frames := 7, cells := 2, slots := 12, locals := 103 } : Room) (va_Pc [.ref (a 0), .int x, .int y] (zTr (dC, dI) [(cI, .int), (cZ, .boolean), (cJ, .long)] (w3 a cI cZ nk pa fa nc fo th tg nt tb te tk tt nu ub ue uk ut re ro fu bl go ra rc ex tc es wy) sz)) (va_Qi (fun (r : Int32) (_ : Unit) => r = tkI T nt up x.toNatClampNeg y.toNatClampNeg ∧ (hasI x nc && hasI y nk) = true) (fun _ t => zWo (dC, dI) [(cI, .int), (cZ, .boolean), (cJ, .long)] (w3 a cI cZ nk pa fa nc fo th tg nt tb te tk tt nu ub ue uk ut re ro fu bl go ra rc ex tc es wy) (va_A (w3 a cI cZ nk pa fa nc fo th tg nt tb te tk tt nu ub ue uk ut re ro fu bl go ra rc ex tc es wy) sz) t) (va_A (w3 a cI cZ nk pa fa nc fo th tg nt tb te tk tt nu ub ue uk ut re ro fu bl go ra rc ex tc es wy) sz)) (vx_X (fun (_ : Unit) => True) (fun E _ t => ((E = "java/lang/IndexOutOfBoundsException" ∧ (hasI x nc && hasI y nk) = false)) ∧ zWo (dC, dI) [(cI, .int), (cZ, .boolean), (cJ, .long)] (w3 a cI cZ nk pa fa nc fo th tg nt tb te tk tt nu ub ue uk ut re ro fu bl go ra rc ex tc es wy) (va_A (w3 a cI cZ nk pa fa nc fo th tg nt tb te tk tt nu ub ue uk ut re ro fu bl go ra rc ex tc es wy) sz) t) (va_A (w3 a cI cZ nk pa fa nc fo th tg nt tb te tk tt nu ub ue uk ut re ro fu bl go ra rc ex tc es wy) sz)) 2 12 (va_A (w3 a cI cZ nk pa fa nc fo th tg nt tb te tk tt nu ub ue uk ut re ro fu bl go ra rc ex tc es wy) sz) := by
  refine vx_ofW (cc := cX3_taker) (maxL := 3) (ret := (some .int)) (by decide) rfl ?_
  intro p e s m args below meth c s₁ B hml hxt hv
  obtain ⟨hav, ⟨hsz, ⟨hP, hK, hn⟩, hD0⟩, hzt, hzu⟩ := hv
  have hx := B.exec
  have hb := B.bytes
  have hr := B.returns
  have hts := atoms_spec (ws := wsX3_taker) B.pre
  have hown : s.vm.findClass RX3 = some m.cls := findClass_of_methodNamed B.named
  have hlocks := B.notSynchronized
  subst hsz
  have hD := hD0.self (sz := s.heap.size)
  generalize hAe : (va_A (w3 a cI cZ nk pa fa nc fo th tg nt tb te tk tt nu ub ue uk ut re ro fu bl go ra rc ex tc es wy) s.heap.size) = A at hD hzu ⊢
  have hA : ∀ q : Nat, s.heap.size ≤ q → A q := fun q h => by rw [← hAe]; exact Or.inr h
  have hS : va_S A s.heap s.heap [] := va_S.rf
  generalize hQ : vx_MQ below (va_Qi (fun (r : Int32) (_ : Unit) => r = tkI T nt up x.toNatClampNeg y.toNatClampNeg ∧ (hasI x nc && hasI y nk) = true) (fun _ t => zWo (dC, dI) [(cI, .int), (cZ, .boolean), (cJ, .long)] (w3 a cI cZ nk pa fa nc fo th tg nt tb te tk tt nu ub ue uk ut re ro fu bl go ra rc ex tc es wy) A t) A) (vx_X (fun (_ : Unit) => True) (fun E _ t => ((E = "java/lang/IndexOutOfBoundsException" ∧ (hasI x nc && hasI y nk) = false)) ∧ zWo (dC, dI) [(cI, .int), (cZ, .boolean), (cJ, .long)] (w3 a cI cZ nk pa fa nc fo th tg nt tb te tk tt nu ub ue uk ut re ro fu bl go ra rc ex tc es wy) A t) A) args s 2 12 A = Q
  refine W.eq (g2 := entryFrame m ([.ref (a 0), .int x, .int y] : List Value).toArray 3) (by rw [hav]) ?_
  have hl := lv_entry ([.ref (a 0), .int x, .int y]) (n := 3) (Nat.le_of_ble_eq_true rfl)
  rw [lg_entry_eq]
  generalize (lg_sl ([.ref (a 0), .int x, .int y]) ++ List.replicate (3 - (lg_sl ([.ref (a 0), .int x, .int y])).length) Slot.unset).toArray = ls at hl ⊢
  have hl : lv_has ls 3 [(0, .ref (a 0)), (1, .int x), (2, .int y)] := hl
  obtain ⟨H, hH⟩ : ∃ H, H = s.heap := ⟨_, rfl⟩
  obtain ⟨locs, hlo⟩ : ∃ q : List Loc, q = [] := ⟨_, rfl⟩
  have hP : va_P (dC, dI) vwCl (w3 a cI cZ nk pa fa nc fo th tg nt tb te tk tt nu ub ue uk ut re ro fu bl go ra rc ex tc es wy) H := by rw [hH]; exact hP
  have hS : va_S A s.heap H locs := by rw [hH, hlo]; exact hS
  refine zz_hl hH hlo ?_
  obtain ⟨hk01, hk8, hnt, hT, hO, hF, hU⟩ := id hg
  obtain ⟨hnc, hC⟩ := id hc
  refine lv_aload_n hx hb dX3_taker_0 rfl (lv_at hl 0 rfl) ?_
  refine lv_iload_n hx hb dX3_taker_1 rfl (lv_at hl 1 rfl) ?_
  have hFc := va_free (wc := w3 a cI cZ nk pa fa nc fo th tg nt tb te tk tt nu ub ue uk ut re ro fu bl go ra rc ex tc es wy) hD hS hA [0, 1, 2, 3, 4, 5, 6, 7, 8, 9, 10, 11, 12, 13, 14, 15, 16, 17, 18, 19, 20, 21, 22, 23] rfl
  refine vx_callv (vx_runV (As := [.int x]) (rest := []) ⟨hx, hb, hml, hown, hts⟩ (c_X3_requireInstruction l dC dI cI cZ cJ a nk pa fa nc fo th tg nt tb te tk tt nu ub ue uk ut re ro fu bl go ra rc ex tc es wy x H.size hlt ) (cwV 1 hts gX3_taker_X3_requireInstruction rfl rfl rfl (by decide +kernel) ⟨Nat.le_of_ble_eq_true rfl, Nat.le_of_ble_eq_true rfl⟩) ⟨zTr_blind, va_recv hK hP (ci := 3) (q0 := 0) rfl rfl, zTr_at hP hK hn (hD.weaken (fun _ _ _ _ => trivial)) hzt hzu hS hFc⟩ rfl rfl hl.1 rfl (lv_room (Nat.le_of_ble_eq_true rfl)) dX3_taker_2 ⟨Nat.le_of_ble_eq_true rfl, Nat.le_of_ble_eq_true rfl⟩) hS (fun q _ h => hFc q h) hFc (fun q _ h => hFc q h) (fun E ce q9 u_9 t H1 locs ht hvm hpx hBX hz1 hk1 hS hc9 hv9 hcl => ?_) (fun u_9 t H1 locs ht hvm hw hB hz1 hk1 hS => ?_)
  · skip
    obtain ⟨hXE, hP1, -, hD1⟩ := hBX
    rw [ht] at hP1
    rw [← hQ]
    refine vx_widen (k := 2) (n := 12) (Nat.le_of_ble_eq_true rfl) (Nat.le_of_ble_eq_true rfl) ?_
    exact vx_out (fun x h => absurd (hxt x h) id) hlocks hc9 hv9 hcl (fun t2 ht2 hvm2 => ⟨(), trivial, ⟨(⟨hXE.1, by rw [hXE.2]; rfl⟩), (by rw [ht2]; exact hP1), va_K.moved hvm2 hK, hD⟩, hS.F ht2⟩) hS.2.2 (Nat.le_refl _) (Nat.le_refl _)
  obtain ⟨hP1, -, hD1⟩ := hB
  rw [ht] at hP1
  obtain ⟨hP, hD⟩ := va_join (wr := []) (w1 := w3 a cI cZ nk pa fa nc fo th tg nt tb te tk tt nu ub ue uk ut re ro fu bl go ra rc ex tc es wy) hP hD [0, 1, 2, 3, 4, 5, 6, 7, 8, 9, 10, 11, 12, 13, 14, 15, 16, 17, 18, 19, 20, 21, 22, 23] [] rfl rfl (by decide) (by decide) hk1 hFc hP1 hD1
  generalize H1 = H at hP hS ⊢
  have hP : va_P (dC, dI) vwCl (w3 a cI cZ nk pa fa nc fo th tg nt tb te tk tt nu ub ue uk ut re ro fu bl go ra rc ex tc es wy) H := hP
  have hD : va_D A (w3 a cI cZ nk pa fa nc fo th tg nt tb te tk tt nu ub ue uk ut re ro fu bl go ra rc ex tc es wy) := hD
  refine W.widen (k := 1) (n := 6) (by omega) (by omega) ?_
  have hok1 := hw
  obtain ⟨i, hi, rfl⟩ := hasI_at (by omega) hw
  refine lv_aload_n hx hb dX3_taker_5 rfl (lv_at hl 0 rfl) ?_
  refine lv_iload_n hx hb dX3_taker_6 rfl (lv_at hl 2 rfl) ?_
  have hFc := va_free (wc := w3 a cI cZ nk pa fa nc fo th tg nt tb te tk tt nu ub ue uk ut re ro fu bl go ra rc ex tc es wy) hD hS hA [0, 1, 2, 3, 4, 5, 6, 7, 8, 9, 10, 11, 12, 13, 14, 15, 16, 17, 18, 19, 20, 21, 22, 23] rfl
  refine vx_callv (vx_runV (As := [.int y]) (rest := []) ⟨hx, hb, hml, hown, hts⟩ (c_X3_requireKind l dC dI cI cZ cJ a nk pa fa nc fo th tg nt tb te tk tt nu ub ue uk ut re ro fu bl go ra rc ex tc es wy y H.size hlt ) (cwV 1 hts gX3_taker_X3_requireKind rfl rfl rfl (by decide +kernel) ⟨Nat.le_of_ble_eq_true rfl, Nat.le_of_ble_eq_true rfl⟩) ⟨zTr_blind, va_recv hK hP (ci := 3) (q0 := 0) rfl rfl, zTr_at hP hK hn (hD.weaken (fun _ _ _ _ => trivial)) hzt hzu hS hFc⟩ rfl rfl hl.1 rfl (lv_room (Nat.le_of_ble_eq_true rfl)) dX3_taker_7 ⟨Nat.le_of_ble_eq_true rfl, Nat.le_of_ble_eq_true rfl⟩) hS (fun q _ h => hFc q h) hFc (fun q _ h => hFc q h) (fun E ce q9 u_9 t H1 locs ht hvm hpx hBX hz1 hk1 hS hc9 hv9 hcl => ?_) (fun u_9 t H1 locs ht hvm hw hB hz1 hk1 hS => ?_)
  · skip
    obtain ⟨hXE, hP1, -, hD1⟩ := hBX
    rw [ht] at hP1
    rw [← hQ]
    refine vx_widen (k := 2) (n := 12) (Nat.le_of_ble_eq_true rfl) (Nat.le_of_ble_eq_true rfl) ?_
    exact vx_out (fun x h => absurd (hxt x h) id) hlocks hc9 hv9 hcl (fun t2 ht2 hvm2 => ⟨(), trivial, ⟨(⟨hXE.1, by rw [hXE.2]; exact Bool.and_false _⟩), (by rw [ht2]; exact hP1), va_K.moved hvm2 hK, hD⟩, hS.F ht2⟩) hS.2.2 (Nat.le_refl _) (Nat.le_refl _)
  obtain ⟨hP1, -, hD1⟩ := hB
  rw [ht] at hP1
  obtain ⟨hP, hD⟩ := va_join (wr := []) (w1 := w3 a cI cZ nk pa fa nc fo th tg nt tb te tk tt nu ub ue uk ut re ro fu bl go ra rc ex tc es wy) hP hD [0, 1, 2, 3, 4, 5, 6, 7, 8, 9, 10, 11, 12, 13, 14, 15, 16, 17, 18, 19, 20, 21, 22, 23] [] rfl rfl (by decide) (by decide) hk1 hFc hP1 hD1
  generalize H1 = H at hP hS ⊢
  have hP : va_P (dC, dI) vwCl (w3 a cI cZ nk pa fa nc fo th tg nt tb te tk tt nu ub ue uk ut re ro fu bl go ra rc ex tc es wy) H := hP
  have hD : va_D A (w3 a cI cZ nk pa fa nc fo th tg nt tb te tk tt nu ub ue uk ut re ro fu bl go ra rc ex tc es wy) := hD
  refine W.widen (k := 2) (n := 12) (by omega) (by omega) ?_
  have hok2 := hw
  obtain ⟨j, hj, rfl⟩ := hasI_at (by omega) hw
  refine lv_aload_n hx hb dX3_taker_10 rfl (lv_at hl 0 rfl) ?_
  refine va_get (D := (dC, dI)) (ci := 3) (v := .ref (a 8)) (C := RX3) (T := TX3) (N := 15) hx hb hts (by decide +kernel) hown hK hP 0 rfl rfl 2 (by decide) (hts (.fieldLink RX3 26 "HandlerOptimizer" "table" "LHandlerOptimizer$Table;") (by decide +kernel)) (fun _ h9 => h9) rfl dX3_taker_11 ?_
  refine lv_aload_n hx hb dX3_taker_14 rfl (lv_at hl 0 rfl) ?_
  refine va_get (D := (dC, dI)) (ci := 3) (v := .ref (a 1)) (C := RX3) (T := TX3) (N := 15) hx hb hts (by decide +kernel) hown hK hP 0 rfl rfl 0 (by decide) (hts (.fieldLink RX3 12 "HandlerOptimizer" "kinds" "LHandlerOptimizer$Kinds;") (by decide +kernel)) (fun _ h9 => h9) rfl dX3_taker_15 ?_
  refine lv_iload_n hx hb dX3_taker_18 rfl (lv_at hl 1 rfl) ?_
  refine lv_iload_n hx hb dX3_taker_19 rfl (lv_at hl 2 rfl) ?_
  have hPc := hP.sub (ws' := wT (a 8) (a 9) (a 10) (a 11) (a 12) cI nt tb te tk tt ++ wK (a 1) (a 2) (a 3) cI nk pa fa) [8, 9, 10, 11, 12, 1, 2, 3] rfl
  refine va_calli (va_runVN (As := [.ref (a 1), .int (nI i), .int (nI j)]) (rest := []) ⟨hx, hb, hml, hown, hts⟩ (c_X2_firstTaker l dC dI cI cZ cJ (a 8) (a 9) (a 10) (a 11) (a 12) nt tb te tk tt (a 1) (a 2) (a 3) nk pa fa i j T up (by omega) (hj) (by first | assumption | omega) (by first | assumption | omega) (by first | assumption | omega) (by first | assumption | omega) (by first | assumption | omega)) ⟨va_cnB 3 hts gX3_taker_X2_firstTaker_n146 rfl rfl rfl (hn (.methodLinkNest RX3 146 yX2_firstTaker "HandlerOptimizer") (by decide +kernel)) (hts (.initialized RX2) (by decide +kernel)) (by decide +kernel) ⟨Nat.le_of_ble_eq_true rfl, Nat.le_of_ble_eq_true rfl⟩, hts (.instanceMethod yX2_firstTaker) (by decide +kernel), hts (.selects RX2 yX2_firstTaker yX2_firstTaker) (by decide +kernel)⟩ ⟨zPre_blind, va_recv hK hPc (ci := 2) (q0 := 0) rfl rfl, zPre_at hPc hK hn⟩ rfl rfl hl.1 rfl (lv_room (Nat.le_of_ble_eq_true rfl)) dX3_taker_20 ⟨Nat.le_of_ble_eq_true rfl, Nat.le_of_ble_eq_true rfl⟩) hS (fun _ _ h => h.elim) (fun _ h => h.elim) (fun r_3 u_9 t H locs ht hvm hw hB hz1 hk1 hS => ?_)
  have hP := zkeep hP hk1
  subst hw
  rw [← hQ]
  refine vx_ret ?_
  have hP9 := hP
  have hD9 := hD
  exact W.iret (v := tkI T nt up i j) hx hb hr (fun t ht hW => ⟨⟨tkI T nt up i j, (), rfl, (by rw [nI_clamp (by omega), nI_clamp (by omega)]; simp [*]), (by rw [ht]; exact hP9), va_K.moved hW.alike hK, hD9⟩, hS.F ht⟩) hS.2.2 dX3_taker_23


set_option maxHeartbeats 4000000 in
set_option maxRecDepth 100000 in
theorem c_X3_isReached (l : Launch) (dC : Nat → ClassId) (dI : Nat → Nat → Nat) (cI cZ cJ : ClassId) (a : Nat → Nat) (nk : Nat) (pa : Nat → Int32) (fa : Nat → Int32) (nc : Nat) (fo : Nat → Int32) (th : Nat → Int32) (tg : Nat → Int32) (nt : Nat) (tb : Nat → Int32) (te : Nat → Int32) (tk : Nat → Int32) (tt : Nat → Int32) (nu : Nat) (ub : Nat → Int32) (ue : Nat → Int32) (uk : Nat → Int32) (ut : Nat → Int32) (re : Nat → Int32) (ro : Nat → Int32) (fu : Nat → Int32) (bl : Nat → Int32) (go : Nat → Int32) (ra : Nat → Int32) (rc : Nat) (ex : Int32) (tc : Int32) (es : Int32) (wy : Int64) (x : Int32) (T : Nat → Nat → Nat) (up : Nat → Nat → Bool) (sz : Nat) (hlt : l.stackTraces = false) (hg : g3 nk fa up nt tb te tk tt T) (hc : okC nk nc fo th tg) : vx_Met l yX3_isReached wsX3_isReached ({ frames := 7, cells := 1, slots := 6, locals := 103 } : Room) (va_Pc [.ref (a 0), .int x] (zTr (dC, dI) [(cI, .int), (cZ, .boolean), (cJ, .long)] (w3 a cI cZ nk pa fa nc fo th tg nt tb te tk tt nu ub ue uk ut re ro fu bl go ra rc ex tc es wy) sz)) (va_Qi (fun (r : Int32) (u : (Nat → Int32) × (Nat → Int32) × Nat) => match u with | (re9, ro9, rc9) => r = bI (RB nk nc fo th tg T nt up x.toNatClampNeg) ∧ hasI x nc = true) (fun u t => match u with | (re9, ro9, rc9) => zWo (dC, dI) [(cI, .int), (cZ, .boolean), (cJ, .long)] (w3 a cI cZ nk pa fa nc fo th tg nt tb te tk tt nu ub ue uk ut re9 ro9 fu bl go ra rc9 ex tc es wy) (va_A (w3 a cI cZ nk pa fa nc fo th tg nt tb te tk tt nu ub ue uk ut re ro fu bl go ra rc ex tc es wy) sz) t) (va_A (w3 a cI cZ nk pa fa nc fo th tg nt tb te tk tt nu ub ue uk ut re ro fu bl go ra rc ex tc es wy) sz)) (vx_X (fun (_ : Unit) => True) (fun E _ t => ((E = "java/lang/IndexOutOfBoundsException" ∧ hasI x nc = false)) ∧ zWo (dC, dI) [(cI, .int), (cZ, .boolean), (cJ, .long)] (w3 a cI cZ nk pa fa nc fo th tg nt tb te tk tt nu ub ue uk ut re ro fu bl go ra rc ex tc es wy) (va_A (w3 a cI cZ nk pa fa nc fo th tg nt tb te tk tt nu ub ue uk ut re ro fu bl go ra rc ex tc es wy) sz) t) (va_A (w3 a cI cZ nk pa fa nc fo th tg nt tb te tk tt nu ub ue uk ut re ro fu bl go ra rc ex tc es wy) sz)) 1 6 (va_A (w3 a cI cZ nk pa fa nc fo th tg nt tb te tk tt nu ub ue uk ut re ro fu bl go ra rc ex tc es wy) sz) := by
  refine vx_ofW (cc := cX3_isReached) (maxL := 2) (ret := (some .boolean)) (by decide) rfl ?_
  intro p e s m args below meth c s₁ B hml hxt hv
  obtain ⟨hav, ⟨hsz, ⟨hP, hK, hn⟩, hD0⟩, hzt, hzu⟩ := hv
  have hx := B.exec
  have hb := B.bytes
  have hr := B.returns
  have hts := atoms_spec (ws := wsX3_isReached) B.pre
  have hown : s.vm.findClass RX3 = some m.cls := findClass_of_methodNamed B.named
  have hlocks := B.notSynchronized
  subst hsz
  have hD := hD0.self (sz := s.heap.size)
  generalize hAe : (va_A (w3 a cI cZ nk pa fa nc fo th tg nt tb te tk tt nu ub ue uk ut re ro fu bl go ra rc ex tc es wy) s.heap.size) = A at hD hzu ⊢
  have hA : ∀ q : Nat, s.heap.size ≤ q → A q := fun q h => by rw [← hAe]; exact Or.inr h
  have hS : va_S A s.heap s.heap [] := va_S.rf
  generalize hQ : vx_MQ below (va_Qi (fun (r : Int32) (u : (Nat → Int32) × (Nat → Int32) × Nat) => match u with | (re9, ro9, rc9) => r = bI (RB nk nc fo th tg T nt up x.toNatClampNeg) ∧ hasI x nc = true) (fun u t => match u with | (re9, ro9, rc9) => zWo (dC, dI) [(cI, .int), (cZ, .boolean), (cJ, .long)] (w3 a cI cZ nk pa fa nc fo th tg nt tb te tk tt nu ub ue uk ut re9 ro9 fu bl go ra rc9 ex tc es wy) A t) A) (vx_X (fun (_ : Unit) => True) (fun E _ t => ((E = "java/lang/IndexOutOfBoundsException" ∧ hasI x nc = false)) ∧ zWo (dC, dI) [(cI, .int), (cZ, .boolean), (cJ, .long)] (w3 a cI cZ nk pa fa nc fo th tg nt tb te tk tt nu ub ue uk ut re ro fu bl go ra rc ex tc es wy) A t) A) args s 1 6 A = Q
  refine W.eq (g2 := entryFrame m ([.ref (a 0), .int x] : List Value).toArray 2) (by rw [hav]) ?_
  have hl := lv_entry ([.ref (a 0), .int x]) (n := 2) (Nat.le_of_ble_eq_true rfl)
  rw [lg_entry_eq]
  generalize (lg_sl ([.ref (a 0), .int x]) ++ List.replicate (2 - (lg_sl ([.ref (a 0), .int x])).length) Slot.unset).toArray = ls at hl ⊢
  have hl : lv_has ls 2 [(0, .ref (a 0)), (1, .int x)] := hl
  obtain ⟨H, hH⟩ : ∃ H, H = s.heap := ⟨_, rfl⟩
  obtain ⟨locs, hlo⟩ : ∃ q : List Loc, q = [] := ⟨_, rfl⟩
  have hP : va_P (dC, dI) vwCl (w3 a cI cZ nk pa fa nc fo th tg nt tb te tk tt nu ub ue uk ut re ro fu bl go ra rc ex tc es wy) H := by rw [hH]; exact hP
  have hS : va_S A s.heap H locs := by rw [hH, hlo]; exact hS
  refine zz_hl hH hlo ?_
  obtain ⟨hk01, hk8, hnt, hT, hO, hF, hU⟩ := id hg
  obtain ⟨hnc, hC⟩ := id hc
  refine lv_aload_n hx hb dX3_isReached_0 rfl (lv_at hl 0 rfl) ?_
  refine lv_iload_n hx hb dX3_isReached_1 rfl (lv_at hl 1 rfl) ?_
  have hFc := va_free (wc := w3 a cI cZ nk pa fa nc fo th tg nt tb te tk tt nu ub ue uk ut re ro fu bl go ra rc ex tc es wy) hD hS hA [0, 1, 2, 3, 4, 5, 6, 7, 8, 9, 10, 11, 12, 13, 14, 15, 16, 17, 18, 19, 20, 21, 22, 23] rfl
  refine vx_callv (vx_runV (As := [.int x]) (rest := []) ⟨hx, hb, hml, hown, hts⟩ (c_X3_requireInstruction l dC dI cI cZ cJ a nk pa fa nc fo th tg nt tb te tk tt nu ub ue uk ut re ro fu bl go ra rc ex tc es wy x H.size hlt ) (cwV 1 hts gX3_isReached_X3_requireInstruction rfl rfl rfl (by decide +kernel) ⟨Nat.le_of_ble_eq_true rfl, Nat.le_of_ble_eq_true rfl⟩) ⟨zTr_blind, va_recv hK hP (ci := 3) (q0 := 0) rfl rfl, zTr_at hP hK hn (hD.weaken (fun _ _ _ _ => trivial)) hzt hzu hS hFc⟩ rfl rfl hl.1 rfl (lv_room (Nat.le_of_ble_eq_true rfl)) dX3_isReached_2 ⟨Nat.le_of_ble_eq_true rfl, Nat.le_of_ble_eq_true rfl⟩) hS (fun q _ h => hFc q h) hFc (fun q _ h => hFc q h) (fun E ce q9 u_9 t H1 locs ht hvm hpx hBX hz1 hk1 hS hc9 hv9 hcl => ?_) (fun u_9 t H1 locs ht hvm hw hB hz1 hk1 hS => ?_)
  · skip
    obtain ⟨hXE, hP1, -, hD1⟩ := hBX
    rw [ht] at hP1
    rw [← hQ]
    refine vx_widen (k := 1) (n := 6) (Nat.le_of_ble_eq_true rfl) (Nat.le_of_ble_eq_true rfl) ?_
    exact vx_out (fun x h => absurd (hxt x h) id) hlocks hc9 hv9 hcl (fun t2 ht2 hvm2 => ⟨(), trivial, ⟨(hXE), (by rw [ht2]; exact hP1), va_K.moved hvm2 hK, hD⟩, hS.F ht2⟩) hS.2.2 (Nat.le_refl _) (Nat.le_refl _)
  obtain ⟨hP1, -, hD1⟩ := hB
  rw [ht] at hP1
  obtain ⟨hP, hD⟩ := va_join (wr := []) (w1 := w3 a cI cZ nk pa fa nc fo th tg nt tb te tk tt nu ub ue uk ut re ro fu bl go ra rc ex tc es wy) hP hD [0, 1, 2, 3, 4, 5, 6, 7, 8, 9, 10, 11, 12, 13, 14, 15, 16, 17, 18, 19, 20, 21, 22, 23] [] rfl rfl (by decide) (by decide) hk1 hFc hP1 hD1
  generalize H1 = H at hP hS ⊢
  have hP : va_P (dC, dI) vwCl (w3 a cI cZ nk pa fa nc fo th tg nt tb te tk tt nu ub ue uk ut re ro fu bl go ra rc ex tc es wy) H := hP
  have hD : va_D A (w3 a cI cZ nk pa fa nc fo th tg nt tb te tk tt nu ub ue uk ut re ro fu bl go ra rc ex tc es wy) := hD
  refine W.widen (k := 1) (n := 6) (by omega) (by omega) ?_
  have hok := hw
  obtain ⟨i, hi, rfl⟩ := hasI_at (by omega) hw
  refine lv_aload_n hx hb dX3_isReached_5 rfl (lv_at hl 0 rfl) ?_
  have hDc := hD
  have hFc := va_free (wc := w3 a cI cZ nk pa fa nc fo th tg nt tb te tk tt nu ub ue uk ut re ro fu bl go ra rc ex tc es wy) hD hS hA [0, 1, 2, 3, 4, 5, 6, 7, 8, 9, 10, 11, 12, 13, 14, 15, 16, 17, 18, 19, 20, 21, 22, 23] rfl
  refine va_callv (va_runV (As := []) (rest := []) ⟨hx, hb, hml, hown, hts⟩ (c_X3_findReached l dC dI cI cZ cJ a nk pa fa nc fo th tg nt tb te tk tt nu ub ue uk ut re ro fu bl go ra rc ex tc es wy T up H.size (by first | assumption | omega) (by first | assumption | omega)) (cwV 0 hts gX3_isReached_X3_findReached rfl rfl rfl (by decide +kernel) ⟨Nat.le_of_ble_eq_true rfl, Nat.le_of_ble_eq_true rfl⟩) ⟨zWr_blind, va_recv hK hP (ci := 3) (q0 := 0) rfl rfl, zWr_at hP hK hn (hDc.weaken (fun _ _ _ _ => trivial))⟩ rfl rfl hl.1 rfl (lv_room (Nat.le_of_ble_eq_true rfl)) dX3_isReached_6 ⟨Nat.le_of_ble_eq_true rfl, Nat.le_of_ble_eq_true rfl⟩) hS (fun q _ h => hFc q h) hFc (fun u_9 t H1 locs ht hvm hw hB hz1 hk1 hS => ?_)
  obtain ⟨re_n, ro_n, rc_n⟩ := u_9
  dsimp only at hw hB
  obtain ⟨hP1, -, hD1⟩ := hB
  rw [ht] at hP1
  obtain ⟨hP, hD⟩ := va_join (wr := []) (w1 := w3 a cI cZ nk pa fa nc fo th tg nt tb te tk tt nu ub ue uk ut re_n ro_n fu bl go ra rc_n ex tc es wy) hP hD [0, 1, 2, 3, 4, 5, 6, 7, 8, 9, 10, 11, 12, 13, 14, 15, 16, 17, 18, 19, 20, 21, 22, 23] [] rfl rfl (by decide) (by decide) hk1 hFc hP1 hD1
  generalize H1 = H at hP hS ⊢
  have hP : va_P (dC, dI) vwCl (w3 a cI cZ nk pa fa nc fo th tg nt tb te tk tt nu ub ue uk ut re_n ro_n fu bl go ra rc_n ex tc es wy) H := hP
  have hD : va_D A (w3 a cI cZ nk pa fa nc fo th tg nt tb te tk tt nu ub ue uk ut re_n ro_n fu bl go ra rc_n ex tc es wy) := hD
  have hre := hw
  refine lv_aload_n hx hb dX3_isReached_9 rfl (lv_at hl 0 rfl) ?_
  refine va_get (D := (dC, dI)) (ci := 3) (v := .ref (a 18)) (C := RX3) (T := TX3) (N := 15) hx hb hts (by decide +kernel) hown hK hP 0 rfl rfl 4 (by decide) (hts (.fieldLink RX3 33 "HandlerOptimizer" "reached" "[Z") (by decide +kernel)) (fun _ h9 => h9) rfl dX3_isReached_10 ?_
  refine lv_iload_n hx hb dX3_isReached_13 rfl (lv_at hl 1 rfl) ?_
  refine va_zald hx hb hK hP 18 1 rfl rfl (vp_in_nI (n := i) (by omega) (by decide)) dX3_isReached_14 ?_
  refine zz_top (y := re_n i) (congrArg _ (nI_clamp (by omega))) ?_
  refine zz_top (y := bI (RB nk nc fo th tg T nt up i)) (hre i (by omega)) ?_
  rw [← hQ]
  refine vx_ret ?_
  have hP9 := hP
  have hD9 := hD
  exact W.zret (v := bI (RB nk nc fo th tg T nt up i)) hx hb hr (zz_nb _) (fun t ht hW => ⟨⟨bI (RB nk nc fo th tg T nt up i), (re_n, ro_n, rc_n), rfl, (by rw [nI_clamp (by omega)]; exact ⟨rfl, hok⟩), (by rw [ht]; exact hP9), va_K.moved hW.alike hK, hD9⟩, hS.F ht⟩) hS.2.2 dX3_isReached_15


set_option maxHeartbeats 4000000 in
set_option maxRecDepth 100000 in
theorem c_X3_isUsed (l : Launch) (dC : Nat → ClassId) (dI : Nat → Nat → Nat) (cI cZ cJ : ClassId) (a : Nat → Nat) (nk : Nat) (pa : Nat → Int32) (fa : Nat → Int32) (nc : Nat) (fo : Nat → Int32) (th : Nat → Int32) (tg : Nat → Int32) (nt : Nat) (tb : Nat → Int32) (te : Nat → Int32) (tk : Nat → Int32) (tt : Nat → Int32) (nu : Nat) (ub : Nat → Int32) (ue : Nat → Int32) (uk : Nat → Int32) (ut : Nat → Int32) (re : Nat → Int32) (ro : Nat → Int32) (fu : Nat → Int32) (bl : Nat → Int32) (go : Nat → Int32) (ra : Nat → Int32) (rc : Nat) (ex : Int32) (tc : Int32) (es : Int32) (wy : Int64) (x : Int32) (T : Nat → Nat → Nat) (up : Nat → Nat → Bool) (sz : Nat) (hlt : l.stackTraces = false) (hg : g3 nk fa up nt tb te tk tt T) (hc : okC nk nc fo th tg) : vx_Met l yX3_isUsed wsX3_isUsed ({ frames := 7, cells := 1, slots := 6, locals := 115 } : Room) (va_Pc [.ref (a 0), .int x] (zTr (dC, dI) [(cI, .int), (cZ, .boolean), (cJ, .long)] (w3 a cI cZ nk pa fa nc fo th tg nt tb te tk tt nu ub ue uk ut re ro fu bl go ra rc ex tc es wy) sz)) (va_Qi (fun (r : Int32) (u : (Nat → Int32) × (Nat → Int32) × Nat × (Nat → Int32) × (Nat → Int32)) => match u with | (re9, ro9, rc9, fu9, bl9) => r = bI (an (US nk nc fo th tg T nt up x.toNatClampNeg) nc) ∧ hasI x nt = true) (fun u t => match u with | (re9, ro9, rc9, fu9, bl9) => zWo (dC, dI) [(cI, .int), (cZ, .boolean), (cJ, .long)] (w3 a cI cZ nk pa fa nc fo th tg nt tb te tk tt nu ub ue uk ut re9 ro9 fu9 bl9 go ra rc9 ex tc es wy) (va_A (w3 a cI cZ nk pa fa nc fo th tg nt tb te tk tt nu ub ue uk ut re ro fu bl go ra rc ex tc es wy) sz) t) (va_A (w3 a cI cZ nk pa fa nc fo th tg nt tb te tk tt nu ub ue uk ut re ro fu bl go ra rc ex tc es wy) sz)) (vx_X (fun (_ : Unit) => True) (fun E _ t => ((E = "java/lang/IndexOutOfBoundsException" ∧ hasI x nt = false)) ∧ zWo (dC, dI) [(cI, .int), (cZ, .boolean), (cJ, .long)] (w3 a cI cZ nk pa fa nc fo th tg nt tb te tk tt nu ub ue uk ut re ro fu bl go ra rc ex tc es wy) (va_A (w3 a cI cZ nk pa fa nc fo th tg nt tb te tk tt nu ub ue uk ut re ro fu bl go ra rc ex tc es wy) sz) t) (va_A (w3 a cI cZ nk pa fa nc fo th tg nt tb te tk tt nu ub ue uk ut re ro fu bl go ra rc ex tc es wy) sz)) 1 6 (va_A (w3 a cI cZ nk pa fa nc fo th tg nt tb te tk tt nu ub ue uk ut re ro fu bl go ra rc ex tc es wy) sz) := by
  refine vx_ofW (cc := cX3_isUsed) (maxL := 2) (ret := (some .boolean)) (by decide) rfl ?_
  intro p e s m args below meth c s₁ B hml hxt hv
  obtain ⟨hav, ⟨hsz, ⟨hP, hK, hn⟩, hD0⟩, hzt, hzu⟩ := hv
  have hx := B.exec
  have hb := B.bytes
  have hr := B.returns
  have hts := atoms_spec (ws := wsX3_isUsed) B.pre
  have hown : s.vm.findClass RX3 = some m.cls := findClass_of_methodNamed B.named
  have hlocks := B.notSynchronized
  subst hsz
  have hD := hD0.self (sz := s.heap.size)
  generalize hAe : (va_A (w3 a cI cZ nk pa fa nc fo th tg nt tb te tk tt nu ub ue uk ut re ro fu bl go ra rc ex tc es wy) s.heap.size) = A at hD hzu ⊢
  have hA : ∀ q : Nat, s.heap.size ≤ q → A q := fun q h => by rw [← hAe]; exact Or.inr h
  have hS : va_S A s.heap s.heap [] := va_S.rf
  generalize hQ : vx_MQ below (va_Qi (fun (r : Int32) (u : (Nat → Int32) × (Nat → Int32) × Nat × (Nat → Int32) × (Nat → Int32)) => match u with | (re9, ro9, rc9, fu9, bl9) => r = bI (an (US nk nc fo th tg T nt up x.toNatClampNeg) nc) ∧ hasI x nt = true) (fun u t => match u with | (re9, ro9, rc9, fu9, bl9) => zWo (dC, dI) [(cI, .int), (cZ, .boolean), (cJ, .long)] (w3 a cI cZ nk pa fa nc fo th tg nt tb te tk tt nu ub ue uk ut re9 ro9 fu9 bl9 go ra rc9 ex tc es wy) A t) A) (vx_X (fun (_ : Unit) => True) (fun E _ t => ((E = "java/lang/IndexOutOfBoundsException" ∧ hasI x nt = false)) ∧ zWo (dC, dI) [(cI, .int), (cZ, .boolean), (cJ, .long)] (w3 a cI cZ nk pa fa nc fo th tg nt tb te tk tt nu ub ue uk ut re ro fu bl go ra rc ex tc es wy) A t) A) args s 1 6 A = Q
  refine W.eq (g2 := entryFrame m ([.ref (a 0), .int x] : List Value).toArray 2) (by rw [hav]) ?_
  have hl := lv_entry ([.ref (a 0), .int x]) (n := 2) (Nat.le_of_ble_eq_true rfl)
  rw [lg_entry_eq]
  generalize (lg_sl ([.ref (a 0), .int x]) ++ List.replicate (2 - (lg_sl ([.ref (a 0), .int x])).length) Slot.unset).toArray = ls at hl ⊢
  have hl : lv_has ls 2 [(0, .ref (a 0)), (1, .int x)] := hl
  obtain ⟨H, hH⟩ : ∃ H, H = s.heap := ⟨_, rfl⟩
  obtain ⟨locs, hlo⟩ : ∃ q : List Loc, q = [] := ⟨_, rfl⟩
  have hP : va_P (dC, dI) vwCl (w3 a cI cZ nk pa fa nc fo th tg nt tb te tk tt nu ub ue uk ut re ro fu bl go ra rc ex tc es wy) H := by rw [hH]; exact hP
  have hS : va_S A s.heap H locs := by rw [hH, hlo]; exact hS
  refine zz_hl hH hlo ?_
  obtain ⟨hk01, hk8, hnt, hT, hO, hF, hU⟩ := id hg
  obtain ⟨hnc, hC⟩ := id hc
  refine lv_aload_n hx hb dX3_isUsed_0 rfl (lv_at hl 0 rfl) ?_
  refine lv_iload_n hx hb dX3_isUsed_1 rfl (lv_at hl 1 rfl) ?_
  have hFc := va_free (wc := w3 a cI cZ nk pa fa nc fo th tg nt tb te tk tt nu ub ue uk ut re ro fu bl go ra rc ex tc es wy) hD hS hA [0, 1, 2, 3, 4, 5, 6, 7, 8, 9, 10, 11, 12, 13, 14, 15, 16, 17, 18, 19, 20, 21, 22, 23] rfl
  refine vx_callv (vx_runV (As := [.int x]) (rest := []) ⟨hx, hb, hml, hown, hts⟩ (c_X3_requireEntry l dC dI cI cZ cJ a nk pa fa nc fo th tg nt tb te tk tt nu ub ue uk ut re ro fu bl go ra rc ex tc es wy x H.size hlt ) (cwV 1 hts gX3_isUsed_X3_requireEntry rfl rfl rfl (by decide +kernel) ⟨Nat.le_of_ble_eq_true rfl, Nat.le_of_ble_eq_true rfl⟩) ⟨zTr_blind, va_recv hK hP (ci := 3) (q0 := 0) rfl rfl, zTr_at hP hK hn (hD.weaken (fun _ _ _ _ => trivial)) hzt hzu hS hFc⟩ rfl rfl hl.1 rfl (lv_room (Nat.le_of_ble_eq_true rfl)) dX3_isUsed_2 ⟨Nat.le_of_ble_eq_true rfl, Nat.le_of_ble_eq_true rfl⟩) hS (fun q _ h => hFc q h) hFc (fun q _ h => hFc q h) (fun E ce q9 u_9 t H1 locs ht hvm hpx hBX hz1 hk1 hS hc9 hv9 hcl => ?_) (fun u_9 t H1 locs ht hvm hw hB hz1 hk1 hS => ?_)
  · skip
    obtain ⟨hXE, hP1, -, hD1⟩ := hBX
    rw [ht] at hP1
    rw [← hQ]
    refine vx_widen (k := 1) (n := 6) (Nat.le_of_ble_eq_true rfl) (Nat.le_of_ble_eq_true rfl) ?_
    exact vx_out (fun x h => absurd (hxt x h) id) hlocks hc9 hv9 hcl (fun t2 ht2 hvm2 => ⟨(), trivial, ⟨(hXE), (by rw [ht2]; exact hP1), va_K.moved hvm2 hK, hD⟩, hS.F ht2⟩) hS.2.2 (Nat.le_refl _) (Nat.le_refl _)
  obtain ⟨hP1, -, hD1⟩ := hB
  rw [ht] at hP1
  obtain ⟨hP, hD⟩ := va_join (wr := []) (w1 := w3 a cI cZ nk pa fa nc fo th tg nt tb te tk tt nu ub ue uk ut re ro fu bl go ra rc ex tc es wy) hP hD [0, 1, 2, 3, 4, 5, 6, 7, 8, 9, 10, 11, 12, 13, 14, 15, 16, 17, 18, 19, 20, 21, 22, 23] [] rfl rfl (by decide) (by decide) hk1 hFc hP1 hD1
  generalize H1 = H at hP hS ⊢
  have hP : va_P (dC, dI) vwCl (w3 a cI cZ nk pa fa nc fo th tg nt tb te tk tt nu ub ue uk ut re ro fu bl go ra rc ex tc es wy) H := hP
  have hD : va_D A (w3 a cI cZ nk pa fa nc fo th tg nt tb te tk tt nu ub ue uk ut re ro fu bl go ra rc ex tc es wy) := hD
  refine W.widen (k := 1) (n := 6) (by omega) (by omega) ?_
  have hok := hw
  obtain ⟨i, hi, rfl⟩ := hasI_at (by omega) hw
  refine lv_aload_n hx hb dX3_isUsed_5 rfl (lv_at hl 0 rfl) ?_
  have hDc := hD
  have hFc := va_free (wc := w3 a cI cZ nk pa fa nc fo th tg nt tb te tk tt nu ub ue uk ut re ro fu bl go ra rc ex tc es wy) hD hS hA [0, 1, 2, 3, 4, 5, 6, 7, 8, 9, 10, 11, 12, 13, 14, 15, 16, 17, 18, 19, 20, 21, 22, 23] rfl
  refine va_callv (va_runV (As := []) (rest := []) ⟨hx, hb, hml, hown, hts⟩ (c_X3_findUses l dC dI cI cZ cJ a nk pa fa nc fo th tg nt tb te tk tt nu ub ue uk ut re ro fu bl go ra rc ex tc es wy T up H.size (by first | assumption | omega) (by first | assumption | omega)) (cwV 0 hts gX3_isUsed_X3_findUses rfl rfl rfl (by decide +kernel) ⟨Nat.le_of_ble_eq_true rfl, Nat.le_of_ble_eq_true rfl⟩) ⟨zWr_blind, va_recv hK hP (ci := 3) (q0 := 0) rfl rfl, zWr_at hP hK hn (hDc.weaken (fun _ _ _ _ => trivial))⟩ rfl rfl hl.1 rfl (lv_room (Nat.le_of_ble_eq_true rfl)) dX3_isUsed_6 ⟨Nat.le_of_ble_eq_true rfl, Nat.le_of_ble_eq_true rfl⟩) hS (fun q _ h => hFc q h) hFc (fun u_9 t H1 locs ht hvm hw hB hz1 hk1 hS => ?_)
  obtain ⟨re_n, ro_n, rc_n, fu_n, bl_n⟩ := u_9
  dsimp only at hw hB
  obtain ⟨hP1, -, hD1⟩ := hB
  rw [ht] at hP1
  obtain ⟨hP, hD⟩ := va_join (wr := []) (w1 := w3 a cI cZ nk pa fa nc fo th tg nt tb te tk tt nu ub ue uk ut re_n ro_n fu_n bl_n go ra rc_n ex tc es wy) hP hD [0, 1, 2, 3, 4, 5, 6, 7, 8, 9, 10, 11, 12, 13, 14, 15, 16, 17, 18, 19, 20, 21, 22, 23] [] rfl rfl (by decide) (by decide) hk1 hFc hP1 hD1
  generalize H1 = H at hP hS ⊢
  have hP : va_P (dC, dI) vwCl (w3 a cI cZ nk pa fa nc fo th tg nt tb te tk tt nu ub ue uk ut re_n ro_n fu_n bl_n go ra rc_n ex tc es wy) H := hP
  have hD : va_D A (w3 a cI cZ nk pa fa nc fo th tg nt tb te tk tt nu ub ue uk ut re_n ro_n fu_n bl_n go ra rc_n ex tc es wy) := hD
  obtain ⟨hre, huf⟩ := hw
  refine lv_aload_n hx hb dX3_isUsed_9 rfl (lv_at hl 0 rfl) ?_
  refine lv_iload_n hx hb dX3_isUsed_10 rfl (lv_at hl 1 rfl) ?_
  refine va_calli (va_runV (As := [.int (nI i)]) (rest := []) ⟨hx, hb, hml, hown, hts⟩ (c_X3_hasUse l dC dI cI cZ cJ a nk pa fa nc fo th tg nt tb te tk tt nu ub ue uk ut re_n ro_n fu_n bl_n go ra rc_n ex tc es wy i (by omega)) (cwV 1 hts gX3_isUsed_X3_hasUse rfl rfl rfl (by decide +kernel) ⟨Nat.le_of_ble_eq_true rfl, Nat.le_of_ble_eq_true rfl⟩) ⟨zPre_blind, va_recv hK hP (ci := 3) (q0 := 0) rfl rfl, zPre_at hP hK hn⟩ rfl rfl hl.1 rfl (lv_room (Nat.le_of_ble_eq_true rfl)) dX3_isUsed_11 ⟨Nat.le_of_ble_eq_true rfl, Nat.le_of_ble_eq_true rfl⟩) hS (fun _ _ h => h.elim) (fun _ h => h.elim) (fun r_8 u_9 t H locs ht hvm hw hB hz1 hk1 hS => ?_)
  have hP := zkeep hP hk1
  subst hw
  rw [← hQ]
  refine vx_ret ?_
  have hP9 := hP
  have hD9 := hD
  exact W.zret (v := bI (decide (0 < bl_n i))) hx hb hr (zz_nb _) (fun t ht hW => ⟨⟨bI (decide (0 < bl_n i)), (re_n, ro_n, rc_n, fu_n, bl_n), rfl, (by rw [nI_clamp (by omega), uF_has huf hi hnc]; exact ⟨rfl, hok⟩), (by rw [ht]; exact hP9), va_K.moved hW.alike hK, hD9⟩, hS.F ht⟩) hS.2.2 dX3_isUsed_14

theorem zx_X3_run_17 : ∀ w ∈ (vx_atS RX3 121 "java/lang/IllegalArgumentException" ["java/lang/RuntimeException", "java/lang/Exception"]).filter goodWord, w ∈ wsX3_run := fun w h => List.mem_cons_of_mem _ (List.mem_append_right _ h)

set_option maxHeartbeats 4000000 in
set_option maxRecDepth 100000 in
theorem c_X3_run (l : Launch) (dC : Nat → ClassId) (dI : Nat → Nat → Nat) (cI cZ cJ : ClassId) (a : Nat → Nat) (nk : Nat) (pa : Nat → Int32) (fa : Nat → Int32) (nc : Nat) (fo : Nat → Int32) (th : Nat → Int32) (tg : Nat → Int32) (nt : Nat) (tb : Nat → Int32) (te : Nat → Int32) (tk : Nat → Int32) (tt : Nat → Int32) (nu : Nat) (ub : Nat → Int32) (ue : Nat → Int32) (uk : Nat → Int32) (ut : Nat → Int32) (re : Nat → Int32) (ro : Nat → Int32) (fu : Nat → Int32) (bl : Nat → Int32) (go : Nat → Int32) (ra : Nat → Int32) (rc : Nat) (ex : Int32) (tc : Int32) (es : Int32) (wy : Int64) (ch : Int64) (mo : Int32) (T : Nat → Nat → Nat) (up : Nat → Nat → Bool) (sz : Nat) (hlt : l.stackTraces = false) (hg : g3 nk fa up nt tb te tk tt T) (hc : okC nk nc fo th tg) : vx_Met l yX3_run wsX3_run ({ frames := 6, cells := 1, slots := 6, locals := 82 } : Room) (va_Pc [.ref (a 0), .long ch, .int mo] (zTr (dC, dI) [(cI, .int), (cZ, .boolean), (cJ, .long)] (w3 a cI cZ nk pa fa nc fo th tg nt tb te tk tt nu ub ue uk ut re ro fu bl go ra rc ex tc es wy) sz)) (va_Qi (fun (r : Int32) (u : Int32 × Int32 × Int32 × Int64) => match u with | (ex9, tc9, es9, wy9) => r = ouS nc (rnS nc (stS fo th tg nk T nt up) mo.toNatClampNeg ((0, ch.toInt.toNat, 0, 0, -1, 7) : RS)) ∧ rOK ch mo = true ∧ ex9 = nI (rnS nc (stS fo th tg nk T nt up) mo.toNatClampNeg ((0, ch.toInt.toNat, 0, 0, -1, 7) : RS)).2.2.1 ∧ (tc9, es9, wy9) = (rnS nc (stS fo th tg nk T nt up) mo.toNatClampNeg ((0, ch.toInt.toNat, 0, 0, -1, 7) : RS)).2.2.2) (fun u t => match u with | (ex9, tc9, es9, wy9) => zWo (dC, dI) [(cI, .int), (cZ, .boolean), (cJ, .long)] (w3 a cI cZ nk pa fa nc fo th tg nt tb te tk tt nu ub ue uk ut re ro fu bl go ra rc ex9 tc9 es9 wy9) (va_A (w3 a cI cZ nk pa fa nc fo th tg nt tb te tk tt nu ub ue uk ut re ro fu bl go ra rc ex tc es wy) sz) t) (va_A (w3 a cI cZ nk pa fa nc fo th tg nt tb te tk tt nu ub ue uk ut re ro fu bl go ra rc ex tc es wy) sz)) (vx_X (fun (_ : Unit) => True) (fun E _ t => ((E = "java/lang/IllegalArgumentException" ∧ rOK ch mo = false)) ∧ zWo (dC, dI) [(cI, .int), (cZ, .boolean), (cJ, .long)] (w3 a cI cZ nk pa fa nc fo th tg nt tb te tk tt nu ub ue uk ut re ro fu bl go ra rc ex tc es wy) (va_A (w3 a cI cZ nk pa fa nc fo th tg nt tb te tk tt nu ub ue uk ut re ro fu bl go ra rc ex tc es wy) sz) t) (va_A (w3 a cI cZ nk pa fa nc fo th tg nt tb te tk tt nu ub ue uk ut re ro fu bl go ra rc ex tc es wy) sz)) 1 6 (va_A (w3 a cI cZ nk pa fa nc fo th tg nt tb te tk tt nu ub ue uk ut re ro fu bl go ra rc ex tc es wy) sz) := by
  refine vx_ofW (cc := cX3_run) (maxL := 10) (ret := (some .int)) (by decide) rfl ?_
  intro p e s m args below meth c s₁ B hml hxt hv
  obtain ⟨hav, ⟨hsz, ⟨hP, hK, hn⟩, hD0⟩, hzt, hzu⟩ := hv
  have hx := B.exec
  have hb := B.bytes
  have hr := B.returns
  have hts := atoms_spec (ws := wsX3_run) B.pre
  have hown : s.vm.findClass RX3 = some m.cls := findClass_of_methodNamed B.named
  have hlocks := B.notSynchronized
  subst hsz
  have hD := hD0.self (sz := s.heap.size)
  generalize hAe : (va_A (w3 a cI cZ nk pa fa nc fo th tg nt tb te tk tt nu ub ue uk ut re ro fu bl go ra rc ex tc es wy) s.heap.size) = A at hD hzu ⊢
  have hA : ∀ q : Nat, s.heap.size ≤ q → A q := fun q h => by rw [← hAe]; exact Or.inr h
  have hS : va_S A s.heap s.heap [] := va_S.rf
  generalize hQ : vx_MQ below (va_Qi (fun (r : Int32) (u : Int32 × Int32 × Int32 × Int64) => match u with | (ex9, tc9, es9, wy9) => r = ouS nc (rnS nc (stS fo th tg nk T nt up) mo.toNatClampNeg ((0, ch.toInt.toNat, 0, 0, -1, 7) : RS)) ∧ rOK ch mo = true ∧ ex9 = nI (rnS nc (stS fo th tg nk T nt up) mo.toNatClampNeg ((0, ch.toInt.toNat, 0, 0, -1, 7) : RS)).2.2.1 ∧ (tc9, es9, wy9) = (rnS nc (stS fo th tg nk T nt up) mo.toNatClampNeg ((0, ch.toInt.toNat, 0, 0, -1, 7) : RS)).2.2.2) (fun u t => match u with | (ex9, tc9, es9, wy9) => zWo (dC, dI) [(cI, .int), (cZ, .boolean), (cJ, .long)] (w3 a cI cZ nk pa fa nc fo th tg nt tb te tk tt nu ub ue uk ut re ro fu bl go ra rc ex9 tc9 es9 wy9) A t) A) (vx_X (fun (_ : Unit) => True) (fun E _ t => ((E = "java/lang/IllegalArgumentException" ∧ rOK ch mo = false)) ∧ zWo (dC, dI) [(cI, .int), (cZ, .boolean), (cJ, .long)] (w3 a cI cZ nk pa fa nc fo th tg nt tb te tk tt nu ub ue uk ut re ro fu bl go ra rc ex tc es wy) A t) A) args s 1 6 A = Q
  refine W.eq (g2 := entryFrame m ([.ref (a 0), .long ch, .int mo] : List Value).toArray 10) (by rw [hav]) ?_
  have hl := lv_entry ([.ref (a 0), .long ch, .int mo]) (n := 10) (Nat.le_of_ble_eq_true rfl)
  rw [lg_entry_eq]
  generalize (lg_sl ([.ref (a 0), .long ch, .int mo]) ++ List.replicate (10 - (lg_sl ([.ref (a 0), .long ch, .int mo])).length) Slot.unset).toArray = ls at hl ⊢
  have hl : lv_has ls 10 [(0, .ref (a 0)), (1, .long ch), (3, .int mo)] := hl
  obtain ⟨H, hH⟩ : ∃ H, H = s.heap := ⟨_, rfl⟩
  obtain ⟨locs, hlo⟩ : ∃ q : List Loc, q = [] := ⟨_, rfl⟩
  have hP : va_P (dC, dI) vwCl (w3 a cI cZ nk pa fa nc fo th tg nt tb te tk tt nu ub ue uk ut re ro fu bl go ra rc ex tc es wy) H := by rw [hH]; exact hP
  have hS : va_S A s.heap H locs := by rw [hH, hlo]; exact hS
  refine zz_hl hH hlo ?_
  obtain ⟨hk01, hk8, hnt, hT, hO, hF, hU⟩ := id hg
  obtain ⟨hnc, hC⟩ := id hc
  refine lv_lload_n hx hb dX3_run_0 rfl (lv_at hl 1 rfl) ?_
  refine lv_lconst (v := 0) hx hb dX3_run_1 (by decide) ?_
  refine W.lcmp hx hb dX3_run_2 ?_
  refine lv_if_lt (tgt := 17) hx hb dX3_run_3 (by decide) (fun c_1 => ?_) (fun c_1 => ?_)
  · skip
    have c9 : rOK ch mo = false := by simp only [rOK]; rw [decide_eq_true (lg_lt0.mp c_1)]; rfl
    rw [← hQ]
    obtain ⟨sa, hstr⟩ := hzt.2 (194, "choices or most out of range") (by decide +kernel)
    have hat := vx_hat (args := args) (s := s) (L := vx_atS RX3 121 "java/lang/IllegalArgumentException" ["java/lang/RuntimeException", "java/lang/Exception"]) (B := zw_l) (fun w hw => hts w (zx_X3_run_17 w hw)) (by decide +kernel) (zt_use hzt)
    exact vx_throwS hx hb hlt (own := RX3) (cls := "java/lang/IllegalArgumentException") (text := "choices or most out of range") (names := ["java/lang/RuntimeException", "java/lang/Exception"]) (ik := 117) (is := 194) (ic := 121) (sa := sa) hown (by decide +kernel) (by decide +kernel) (hts (.classLink RX3 117 "java/lang/IllegalArgumentException") (by decide +kernel)) (hts (.initialized "java/lang/IllegalArgumentException") (by decide +kernel)) hstr hat (by decide +kernel) hzu.1 hzu.2 hS (hl.1.trans hml.symm) dX3_run_17 dX3_run_20 dX3_run_21 dX3_run_23 dX3_run_26 (fun x h => absurd (hxt x h) id) (Nat.le_of_ble_eq_true rfl) (Nat.le_of_ble_eq_true rfl) (Nat.le_of_ble_eq_true rfl) (Nat.le_of_ble_eq_true rfl) hlocks (fun t hvm hz hk => ⟨(), trivial, ⟨(⟨rfl, c9⟩), zz_keep2 hP hk, va_K.moved hvm hK, hD⟩, zz_thr hS hz hk⟩) hS.2.2 (Nat.le_of_ble_eq_true rfl) (Nat.le_of_ble_eq_true rfl)
  · skip
    have c1 : ¬ ch < 0 := fun q => c_1 (lg_lt0.mpr q)
    refine lv_iload_n hx hb dX3_run_6 rfl (lv_at hl 2 rfl) ?_
    refine lv_if_lt (tgt := 17) hx hb dX3_run_7 (by decide) (fun c_2 => ?_) (fun c_2 => ?_)
    · skip
      have c9 : rOK ch mo = false := by simp only [rOK]; rw [decide_eq_true c_2]; simp
      rw [← hQ]
      obtain ⟨sa, hstr⟩ := hzt.2 (194, "choices or most out of range") (by decide +kernel)
      have hat := vx_hat (args := args) (s := s) (L := vx_atS RX3 121 "java/lang/IllegalArgumentException" ["java/lang/RuntimeException", "java/lang/Exception"]) (B := zw_l) (fun w hw => hts w (zx_X3_run_17 w hw)) (by decide +kernel) (zt_use hzt)
      exact vx_throwS hx hb hlt (own := RX3) (cls := "java/lang/IllegalArgumentException") (text := "choices or most out of range") (names := ["java/lang/RuntimeException", "java/lang/Exception"]) (ik := 117) (is := 194) (ic := 121) (sa := sa) hown (by decide +kernel) (by decide +kernel) (hts (.classLink RX3 117 "java/lang/IllegalArgumentException") (by decide +kernel)) (hts (.initialized "java/lang/IllegalArgumentException") (by decide +kernel)) hstr hat (by decide +kernel) hzu.1 hzu.2 hS (hl.1.trans hml.symm) dX3_run_17 dX3_run_20 dX3_run_21 dX3_run_23 dX3_run_26 (fun x h => absurd (hxt x h) id) (Nat.le_of_ble_eq_true rfl) (Nat.le_of_ble_eq_true rfl) (Nat.le_of_ble_eq_true rfl) (Nat.le_of_ble_eq_true rfl) hlocks (fun t hvm hz hk => ⟨(), trivial, ⟨(⟨rfl, c9⟩), zz_keep2 hP hk, va_K.moved hvm hK, hD⟩, zz_thr hS hz hk⟩) hS.2.2 (Nat.le_of_ble_eq_true rfl) (Nat.le_of_ble_eq_true rfl)
    · skip
      have c2 := c_2
      refine lv_iload_n hx hb dX3_run_10 rfl (lv_at hl 2 rfl) ?_
      refine lv_sipush (v := 500) hx hb dX3_run_11 (by decide) ?_
      refine lv_icmp_le (tgt := 27) hx hb dX3_run_14 (by decide) (fun c_3 => ?_) (fun c_3 => ?_)
      · skip
        obtain ⟨X0, hX0, rfl, hX0e⟩ := lN_of c1
        obtain ⟨M, hM, rfl⟩ := nI_of c2
        have hM5 : M ≤ 500 := by have := (zz_let (a := M) (b := 500) hM (by omega)).mp c_3; exact this
        have hok : rOK (lN X0) (nI M) = true := by simp only [rOK]; rw [decide_eq_false c1, decide_eq_false c2, decide_eq_false (fun q => by have := (nI_ltI (a := 500) (by omega) hM).mp q; omega)]; rfl
        rw [← hX0e, nI_clamp hM] at hQ
        refine lv_aload_n hx hb dX3_run_27 rfl (lv_at hl 0 rfl) ?_
        refine lv_iconst (v := 0) hx hb dX3_run_28 (by decide) ?_
        refine va_put (D := (dC, dI)) (ci := 3) (v := .int 0) (ty := .int) (C := RX3) (T := TX3) (N := 15) hx hb hts (by decide +kernel) tyX3 tyX3_ok nmX3 hown hK hP hD hS 0 rfl rfl 11 (by decide) (hts (.fieldLink RX3 196 "HandlerOptimizer" "executedCount" "I") (by decide +kernel)) (fun _ h9 => h9) rfl (by decide +kernel) rfl rfl (Nat.le_of_ble_eq_true rfl) dX3_run_29 (fun H locs hP hD hS => ?_)
        have hP : va_P (dC, dI) vwCl (w3 a cI cZ nk pa fa nc fo th tg nt tb te tk tt nu ub ue uk ut re ro fu bl go ra rc 0 tc es wy) H := hP
        have hD : va_D A (w3 a cI cZ nk pa fa nc fo th tg nt tb te tk tt nu ub ue uk ut re ro fu bl go ra rc 0 tc es wy) := hD
        refine lv_aload_n hx hb dX3_run_32 rfl (lv_at hl 0 rfl) ?_
        refine lv_iconst (v := 0) hx hb dX3_run_33 (by decide) ?_
        refine va_put (D := (dC, dI)) (ci := 3) (v := .int 0) (ty := .int) (C := RX3) (T := TX3) (N := 15) hx hb hts (by decide +kernel) tyX3 tyX3_ok nmX3 hown hK hP hD hS 0 rfl rfl 12 (by decide) (hts (.fieldLink RX3 199 "HandlerOptimizer" "takenCount" "I") (by decide +kernel)) (fun _ h9 => h9) rfl (by decide +kernel) rfl rfl (Nat.le_of_ble_eq_true rfl) dX3_run_34 (fun H locs hP hD hS => ?_)
        have hP : va_P (dC, dI) vwCl (w3 a cI cZ nk pa fa nc fo th tg nt tb te tk tt nu ub ue uk ut re ro fu bl go ra rc 0 0 es wy) H := hP
        have hD : va_D A (w3 a cI cZ nk pa fa nc fo th tg nt tb te tk tt nu ub ue uk ut re ro fu bl go ra rc 0 0 es wy) := hD
        refine lv_aload_n hx hb dX3_run_37 rfl (lv_at hl 0 rfl) ?_
        refine lv_iconst (v := -1) hx hb dX3_run_38 (by decide) ?_
        refine va_put (D := (dC, dI)) (ci := 3) (v := .int (-1)) (ty := .int) (C := RX3) (T := TX3) (N := 15) hx hb hts (by decide +kernel) tyX3 tyX3_ok nmX3 hown hK hP hD hS 0 rfl rfl 13 (by decide) (hts (.fieldLink RX3 53 "HandlerOptimizer" "escapedKind" "I") (by decide +kernel)) (fun _ h9 => h9) rfl (by decide +kernel) rfl rfl (Nat.le_of_ble_eq_true rfl) dX3_run_39 (fun H locs hP hD hS => ?_)
        have hP : va_P (dC, dI) vwCl (w3 a cI cZ nk pa fa nc fo th tg nt tb te tk tt nu ub ue uk ut re ro fu bl go ra rc 0 0 (-1) wy) H := hP
        have hD : va_D A (w3 a cI cZ nk pa fa nc fo th tg nt tb te tk tt nu ub ue uk ut re ro fu bl go ra rc 0 0 (-1) wy) := hD
        refine lv_aload_n hx hb dX3_run_42 rfl (lv_at hl 0 rfl) ?_
        refine lv_ldc2 (own := RX3) (v := 7) hx hb hown (hts (.constantLong RX3 202 7) (by decide +kernel)) dX3_run_43 ?_
        refine va_put (D := (dC, dI)) (ci := 3) (v := .long 7) (ty := .long) (C := RX3) (T := TX3) (N := 15) hx hb hts (by decide +kernel) tyX3 tyX3_ok nmX3 hown hK hP hD hS 0 rfl rfl 14 (by decide) (hts (.fieldLink RX3 204 "HandlerOptimizer" "wayNumber" "J") (by decide +kernel)) (fun _ h9 => h9) rfl (by decide +kernel) rfl rfl (Nat.le_of_ble_eq_true rfl) dX3_run_46 (fun H locs hP hD hS => ?_)
        have hP : va_P (dC, dI) vwCl (w3 a cI cZ nk pa fa nc fo th tg nt tb te tk tt nu ub ue uk ut re ro fu bl go ra rc 0 0 (-1) 7) H := hP
        have hD : va_D A (w3 a cI cZ nk pa fa nc fo th tg nt tb te tk tt nu ub ue uk ut re ro fu bl go ra rc 0 0 (-1) 7) := hD
        refine lv_lload_n hx hb dX3_run_49 rfl (lv_at hl 1 rfl) ?_
        refine lv_lstore (lv' := [(4, .long (lN X0)), (0, .ref (a 0)), (1, .long (lN X0)), (3, .int (nI M))]) hx hb dX3_run_50 hl (by decide) rfl (fun ls hl => ?_)
        refine lv_iconst (v := 0) hx hb dX3_run_52 (by decide) ?_
        refine lv_istore (lv' := [(6, .int 0), (4, .long (lN X0)), (0, .ref (a 0)), (1, .long (lN X0)), (3, .int (nI M))]) hx hb dX3_run_53 hl (by decide) rfl (fun ls hl => ?_)
        refine lv_iconst (v := 0) hx hb dX3_run_55 (by decide) ?_
        refine lv_istore (lv' := [(7, .int 0), (6, .int 0), (4, .long (lN X0)), (0, .ref (a 0)), (1, .long (lN X0)), (3, .int (nI M))]) hx hb dX3_run_56 hl (by decide) rfl (fun ls hl => ?_)
        have J_58 : ∀ (n9 : Nat) (y : Nat) (gat : Int32) (gX : Nat) (gex : Int32) (gtc : Int32) (ges : Int32) (gwy : Int64) (H : Heap) (locs : List Loc) (ls : Array Slot), (y ≤ M) → (gX < 2 ^ 63) → (gex = nI y) → (rnS nc (stS fo th tg nk T nt up) M ((0, X0, 0, 0, -1, 7) : RS) = rnS nc (stS fo th tg nk T nt up) (M - y) ((gat, gX, y, gtc, ges, gwy) : RS)) → M - y < n9 → va_P (dC, dI) vwCl (w3 a cI cZ nk pa fa nc fo th tg nt tb te tk tt nu ub ue uk ut re ro fu bl go ra rc gex gtc ges gwy) H → va_D A (w3 a cI cZ nk pa fa nc fo th tg nt tb te tk tt nu ub ue uk ut re ro fu bl go ra rc gex gtc ges gwy) → va_S A s.heap H locs → lv_has ls 10 [(0, .ref (a 0)), (1, .long (lN X0)), (3, .int (nI M)), (4, .long (lN gX)), (6, .int gat), (7, .int (nI y))] → W p l e (headSpec wsX3_run ({ frames := 6, cells := 1, slots := 6, locals := 82 } : Room)).room s m args below meth c H locs 0 0 Q (F0 m 58 ls []) := by
          intro n9
          induction n9 with
          | zero => intro y gat gX gex gtc ges gwy H locs ls hy hX hex hq hmu; exact absurd hmu (Nat.not_lt_zero _)
          | succ n9 ih_58 =>
            intro y gat gX gex gtc ges gwy H locs ls hy hX hex hq hmu hP hD hS hl
            refine lv_iload hx hb dX3_run_58 (lv_at hl 5 rfl) ?_
            refine lv_iload_n hx hb dX3_run_60 rfl (lv_at hl 2 rfl) ?_
            refine lv_icmp_ge (tgt := 143) hx hb dX3_run_61 (by decide) (fun c_4 => ?_) (fun c_4 => ?_)
            · skip
              have hend : rnS nc (stS fo th tg nk T nt up) M ((0, X0, 0, 0, -1, 7) : RS) = ((gat, gX, y, gtc, ges, gwy) : RS) := by have := (zz_get (a := y) (b := M) (by omega) (by omega)).mp c_4; rw [hq, show M - y = 0 from by omega]; rfl
              refine lv_aload_n hx hb dX3_run_143 rfl (lv_at hl 0 rfl) ?_
              refine va_get (D := (dC, dI)) (ci := 3) (v := .int ges) (C := RX3) (T := TX3) (N := 15) hx hb hts (by decide +kernel) hown hK hP 0 rfl rfl 13 (by decide) (hts (.fieldLink RX3 53 "HandlerOptimizer" "escapedKind" "I") (by decide +kernel)) (fun _ h9 => h9) rfl dX3_run_144 ?_
              refine lv_iconst (v := -1) hx hb dX3_run_147 (by decide) ?_
              refine lv_icmp_eq (tgt := 153) hx hb dX3_run_148 (by decide) (fun c_5 => ?_) (fun c_5 => ?_)
              · skip
                have c7 := c_5
                refine lv_aload_n hx hb dX3_run_153 rfl (lv_at hl 0 rfl) ?_
                refine va_get (D := (dC, dI)) (ci := 3) (v := .ref (a 4)) (C := RX3) (T := TX3) (N := 15) hx hb hts (by decide +kernel) hown hK hP 0 rfl rfl 1 (by decide) (hts (.fieldLink RX3 19 "HandlerOptimizer" "code" "LHandlerOptimizer$Code;") (by decide +kernel)) (fun _ h9 => h9) rfl dX3_run_154 ?_
                refine lv_iload hx hb dX3_run_157 (lv_at hl 4 rfl) ?_
                have hPc := hP.sub (ws' := wC (a 4) (a 5) (a 6) (a 7) cI nc fo th tg) [4, 5, 6, 7] rfl
                refine va_calli (va_runVN (As := [.int gat]) (rest := []) ⟨hx, hb, hml, hown, hts⟩ (c_X0_has l dC dI cI cZ cJ (a 4) (a 5) (a 6) (a 7) nc fo th tg gat ) ⟨va_cnB 1 hts gX3_run_X0_has_n208 rfl rfl rfl (hn (.methodLinkNest RX3 208 yX0_has "HandlerOptimizer") (by decide +kernel)) (hts (.initialized RX0) (by decide +kernel)) (by decide +kernel) ⟨Nat.le_of_ble_eq_true rfl, Nat.le_of_ble_eq_true rfl⟩, hts (.instanceMethod yX0_has) (by decide +kernel), hts (.selects RX0 yX0_has yX0_has) (by decide +kernel)⟩ ⟨zPre_blind, va_recv hK hPc (ci := 0) (q0 := 0) rfl rfl, zPre_at hPc hK hn⟩ rfl rfl hl.1 rfl (lv_room (Nat.le_of_ble_eq_true rfl)) dX3_run_159 ⟨Nat.le_of_ble_eq_true rfl, Nat.le_of_ble_eq_true rfl⟩) hS (fun _ _ h => h.elim) (fun _ h => h.elim) (fun r_6 u_9 t H locs ht hvm hw hB hz1 hk1 hS => ?_)
                have hP := zkeep hP hk1
                subst hw
                refine lv_if_eq (tgt := 169) hx hb dX3_run_162 (by decide) (fun c_7 => ?_) (fun c_7 => ?_)
                · skip
                  have c6 := zb_0.mp c_7
                  refine lv_iconst (v := 0) hx hb dX3_run_169 (by decide) ?_
                  rw [← hQ]
                  refine vx_ret ?_
                  refine W.widen (k := 1) (n := 6) (by omega) (by omega) ?_
                  have hP9 := hP
                  have hD9 := hD
                  exact W.iret (v := 0) hx hb hr (fun t ht hW => ⟨⟨0, (gex, gtc, ges, gwy), rfl, (by first | exact absurd (c9.symm.trans c6) (by decide) | (rw [hend]; exact ⟨by simp [ouS, *], hok, hex, rfl⟩)), (by rw [ht]; exact hP9), va_K.moved hW.alike hK, hD9⟩, hS.F ht⟩) hS.2.2 dX3_run_170
                · skip
                  have c6 := zb_1.mp c_7
                  refine lv_iconst (v := 2) hx hb dX3_run_165 (by decide) ?_
                  refine lv_goto (tgt := 170) hx hb dX3_run_166 (by decide) ?_
                  rw [← hQ]
                  refine vx_ret ?_
                  refine W.widen (k := 1) (n := 6) (by omega) (by omega) ?_
                  have hP9 := hP
                  have hD9 := hD
                  exact W.iret (v := 2) hx hb hr (fun t ht hW => ⟨⟨2, (gex, gtc, ges, gwy), rfl, (by first | exact absurd (c9.symm.trans c6) (by decide) | (rw [hend]; exact ⟨by simp [ouS, *], hok, hex, rfl⟩)), (by rw [ht]; exact hP9), va_K.moved hW.alike hK, hD9⟩, hS.F ht⟩) hS.2.2 dX3_run_170
              · skip
                have c7 := c_5
                refine lv_iconst (v := 1) hx hb dX3_run_151 (by decide) ?_
                rw [← hQ]
                refine vx_ret ?_
                refine W.widen (k := 1) (n := 6) (by omega) (by omega) ?_
                have hP9 := hP
                have hD9 := hD
                exact W.iret (v := 1) hx hb hr (fun t ht hW => ⟨⟨1, (gex, gtc, ges, gwy), rfl, (by first | exact absurd (c9.symm.trans c6) (by decide) | (rw [hend]; exact ⟨by simp [ouS, *], hok, hex, rfl⟩)), (by rw [ht]; exact hP9), va_K.moved hW.alike hK, hD9⟩, hS.F ht⟩) hS.2.2 dX3_run_152
            · skip
              have hyM := (zz_gef (a := y) (b := M) (by omega) (by omega)).mp c_4
              refine lv_aload_n hx hb dX3_run_64 rfl (lv_at hl 0 rfl) ?_
              refine va_get (D := (dC, dI)) (ci := 3) (v := .ref (a 4)) (C := RX3) (T := TX3) (N := 15) hx hb hts (by decide +kernel) hown hK hP 0 rfl rfl 1 (by decide) (hts (.fieldLink RX3 19 "HandlerOptimizer" "code" "LHandlerOptimizer$Code;") (by decide +kernel)) (fun _ h9 => h9) rfl dX3_run_65 ?_
              refine lv_iload hx hb dX3_run_68 (lv_at hl 4 rfl) ?_
              have hPc := hP.sub (ws' := wC (a 4) (a 5) (a 6) (a 7) cI nc fo th tg) [4, 5, 6, 7] rfl
              refine va_calli (va_runVN (As := [.int gat]) (rest := []) ⟨hx, hb, hml, hown, hts⟩ (c_X0_has l dC dI cI cZ cJ (a 4) (a 5) (a 6) (a 7) nc fo th tg gat ) ⟨va_cnB 1 hts gX3_run_X0_has_n208 rfl rfl rfl (hn (.methodLinkNest RX3 208 yX0_has "HandlerOptimizer") (by decide +kernel)) (hts (.initialized RX0) (by decide +kernel)) (by decide +kernel) ⟨Nat.le_of_ble_eq_true rfl, Nat.le_of_ble_eq_true rfl⟩, hts (.instanceMethod yX0_has) (by decide +kernel), hts (.selects RX0 yX0_has yX0_has) (by decide +kernel)⟩ ⟨zPre_blind, va_recv hK hPc (ci := 0) (q0 := 0) rfl rfl, zPre_at hPc hK hn⟩ rfl rfl hl.1 rfl (lv_room (Nat.le_of_ble_eq_true rfl)) dX3_run_70 ⟨Nat.le_of_ble_eq_true rfl, Nat.le_of_ble_eq_true rfl⟩) hS (fun _ _ h => h.elim) (fun _ h => h.elim) (fun r_8 u_9 t H locs ht hvm hw hB hz1 hk1 hS => ?_)
              have hP := zkeep hP hk1
              subst hw
              refine lv_if_eq (tgt := 143) hx hb dX3_run_73 (by decide) (fun c_9 => ?_) (fun c_9 => ?_)
              · skip
                have c9 := zb_0.mp c_9
                have hend : rnS nc (stS fo th tg nk T nt up) M ((0, X0, 0, 0, -1, 7) : RS) = ((gat, gX, y, gtc, ges, gwy) : RS) := hq.trans (rnS_0 c9)
                refine lv_aload_n hx hb dX3_run_143 rfl (lv_at hl 0 rfl) ?_
                refine va_get (D := (dC, dI)) (ci := 3) (v := .int ges) (C := RX3) (T := TX3) (N := 15) hx hb hts (by decide +kernel) hown hK hP 0 rfl rfl 13 (by decide) (hts (.fieldLink RX3 53 "HandlerOptimizer" "escapedKind" "I") (by decide +kernel)) (fun _ h9 => h9) rfl dX3_run_144 ?_
                refine lv_iconst (v := -1) hx hb dX3_run_147 (by decide) ?_
                refine lv_icmp_eq (tgt := 153) hx hb dX3_run_148 (by decide) (fun c_10 => ?_) (fun c_10 => ?_)
                · skip
                  have c7 := c_10
                  refine lv_aload_n hx hb dX3_run_153 rfl (lv_at hl 0 rfl) ?_
                  refine va_get (D := (dC, dI)) (ci := 3) (v := .ref (a 4)) (C := RX3) (T := TX3) (N := 15) hx hb hts (by decide +kernel) hown hK hP 0 rfl rfl 1 (by decide) (hts (.fieldLink RX3 19 "HandlerOptimizer" "code" "LHandlerOptimizer$Code;") (by decide +kernel)) (fun _ h9 => h9) rfl dX3_run_154 ?_
                  refine lv_iload hx hb dX3_run_157 (lv_at hl 4 rfl) ?_
                  have hPc := hP.sub (ws' := wC (a 4) (a 5) (a 6) (a 7) cI nc fo th tg) [4, 5, 6, 7] rfl
                  refine va_calli (va_runVN (As := [.int gat]) (rest := []) ⟨hx, hb, hml, hown, hts⟩ (c_X0_has l dC dI cI cZ cJ (a 4) (a 5) (a 6) (a 7) nc fo th tg gat ) ⟨va_cnB 1 hts gX3_run_X0_has_n208 rfl rfl rfl (hn (.methodLinkNest RX3 208 yX0_has "HandlerOptimizer") (by decide +kernel)) (hts (.initialized RX0) (by decide +kernel)) (by decide +kernel) ⟨Nat.le_of_ble_eq_true rfl, Nat.le_of_ble_eq_true rfl⟩, hts (.instanceMethod yX0_has) (by decide +kernel), hts (.selects RX0 yX0_has yX0_has) (by decide +kernel)⟩ ⟨zPre_blind, va_recv hK hPc (ci := 0) (q0 := 0) rfl rfl, zPre_at hPc hK hn⟩ rfl rfl hl.1 rfl (lv_room (Nat.le_of_ble_eq_true rfl)) dX3_run_159 ⟨Nat.le_of_ble_eq_true rfl, Nat.le_of_ble_eq_true rfl⟩) hS (fun _ _ h => h.elim) (fun _ h => h.elim) (fun r_11 u_9 t H locs ht hvm hw hB hz1 hk1 hS => ?_)
                  have hP := zkeep hP hk1
                  subst hw
                  refine lv_if_eq (tgt := 169) hx hb dX3_run_162 (by decide) (fun c_12 => ?_) (fun c_12 => ?_)
                  · skip
                    have c6 := zb_0.mp c_12
                    refine lv_iconst (v := 0) hx hb dX3_run_169 (by decide) ?_
                    rw [← hQ]
                    refine vx_ret ?_
                    refine W.widen (k := 1) (n := 6) (by omega) (by omega) ?_
                    have hP9 := hP
                    have hD9 := hD
                    exact W.iret (v := 0) hx hb hr (fun t ht hW => ⟨⟨0, (gex, gtc, ges, gwy), rfl, (by first | exact absurd (c9.symm.trans c6) (by decide) | (rw [hend]; exact ⟨by simp [ouS, *], hok, hex, rfl⟩)), (by rw [ht]; exact hP9), va_K.moved hW.alike hK, hD9⟩, hS.F ht⟩) hS.2.2 dX3_run_170
                  · skip
                    have c6 := zb_1.mp c_12
                    refine lv_iconst (v := 2) hx hb dX3_run_165 (by decide) ?_
                    refine lv_goto (tgt := 170) hx hb dX3_run_166 (by decide) ?_
                    rw [← hQ]
                    refine vx_ret ?_
                    refine W.widen (k := 1) (n := 6) (by omega) (by omega) ?_
                    have hP9 := hP
                    have hD9 := hD
                    exact W.iret (v := 2) hx hb hr (fun t ht hW => ⟨⟨2, (gex, gtc, ges, gwy), rfl, (by first | exact absurd (c9.symm.trans c6) (by decide) | (rw [hend]; exact ⟨by simp [ouS, *], hok, hex, rfl⟩)), (by rw [ht]; exact hP9), va_K.moved hW.alike hK, hD9⟩, hS.F ht⟩) hS.2.2 dX3_run_170
                · skip
                  have c7 := c_10
                  refine lv_iconst (v := 1) hx hb dX3_run_151 (by decide) ?_
                  rw [← hQ]
                  refine vx_ret ?_
                  refine W.widen (k := 1) (n := 6) (by omega) (by omega) ?_
                  have hP9 := hP
                  have hD9 := hD
                  exact W.iret (v := 1) hx hb hr (fun t ht hW => ⟨⟨1, (gex, gtc, ges, gwy), rfl, (by first | exact absurd (c9.symm.trans c6) (by decide) | (rw [hend]; exact ⟨by simp [ouS, *], hok, hex, rfl⟩)), (by rw [ht]; exact hP9), va_K.moved hW.alike hK, hD9⟩, hS.F ht⟩) hS.2.2 dX3_run_152
              · skip
                have c9 := zb_1.mp c_9
                obtain ⟨i, hi, rfl⟩ := hasI_at (by omega) c9
                have hm0 : 0 < noN (fo i) + bc (th i) := opN_pos hc hk8 hi
                have hm1 := noN_le (fo i)
                have hm2 := bc_le (th i)
                have hmod : gX % (noN (fo i) + bc (th i)) < noN (fo i) + bc (th i) := Nat.mod_lt _ hm0
                have hdiv : gX / (noN (fo i) + bc (th i)) ≤ gX := Nat.div_le_self _ _
                refine lv_aload_n hx hb dX3_run_76 rfl (lv_at hl 0 rfl) ?_
                refine va_get (D := (dC, dI)) (ci := 3) (v := .ref (a 4)) (C := RX3) (T := TX3) (N := 15) hx hb hts (by decide +kernel) hown hK hP 0 rfl rfl 1 (by decide) (hts (.fieldLink RX3 19 "HandlerOptimizer" "code" "LHandlerOptimizer$Code;") (by decide +kernel)) (fun _ h9 => h9) rfl dX3_run_77 ?_
                refine lv_iload hx hb dX3_run_80 (lv_at hl 4 rfl) ?_
                have hPc := hP.sub (ws' := wC (a 4) (a 5) (a 6) (a 7) cI nc fo th tg) [4, 5, 6, 7] rfl
                refine va_calli (va_runVN (As := [.int (nI i)]) (rest := []) ⟨hx, hb, hml, hown, hts⟩ (c_X0_normalOptions l dC dI cI cZ cJ (a 4) (a 5) (a 6) (a 7) nc fo th tg i (by omega)) ⟨va_cnB 1 hts gX3_run_X0_normalOptions_n211 rfl rfl rfl (hn (.methodLinkNest RX3 211 yX0_normalOptions "HandlerOptimizer") (by decide +kernel)) (hts (.initialized RX0) (by decide +kernel)) (by decide +kernel) ⟨Nat.le_of_ble_eq_true rfl, Nat.le_of_ble_eq_true rfl⟩, hts (.instanceMethod yX0_normalOptions) (by decide +kernel), hts (.selects RX0 yX0_normalOptions yX0_normalOptions) (by decide +kernel)⟩ ⟨zPre_blind, va_recv hK hPc (ci := 0) (q0 := 0) rfl rfl, zPre_at hPc hK hn⟩ rfl rfl hl.1 rfl (lv_room (Nat.le_of_ble_eq_true rfl)) dX3_run_82 ⟨Nat.le_of_ble_eq_true rfl, Nat.le_of_ble_eq_true rfl⟩) hS (fun _ _ h => h.elim) (fun _ h => h.elim) (fun r_13 u_9 t H locs ht hvm hw hB hz1 hk1 hS => ?_)
                have hP := zkeep hP hk1
                subst hw
                refine lv_aload_n hx hb dX3_run_85 rfl (lv_at hl 0 rfl) ?_
                refine va_get (D := (dC, dI)) (ci := 3) (v := .ref (a 4)) (C := RX3) (T := TX3) (N := 15) hx hb hts (by decide +kernel) hown hK hP 0 rfl rfl 1 (by decide) (hts (.fieldLink RX3 19 "HandlerOptimizer" "code" "LHandlerOptimizer$Code;") (by decide +kernel)) (fun _ h9 => h9) rfl dX3_run_86 ?_
                refine va_getN (D := (dC, dI)) (ci := 0) (v := .ref (a 6)) (C := RX0) (T := TX0) (N := 4) hx hb hts (by decide +kernel) hown hK hP 4 rfl rfl 1 (by decide) (va_Nw.use rfl (hn (.fieldLinkNest RX3 106 "HandlerOptimizer$Code" "thrown" "[I" "HandlerOptimizer") (by decide +kernel))) (fun _ h9 => h9) rfl dX3_run_89 ?_
                refine lv_iload hx hb dX3_run_92 (lv_at hl 4 rfl) ?_
                refine va_iald hx hb hK hP 6 0 rfl rfl (vp_in_nI (n := i) (by omega) (by decide)) dX3_run_94 ?_
                refine zz_top (y := th i) (congrArg _ (nI_clamp (by omega))) ?_
                have hPc : va_P (dC, dI) vwCl [] H := fun k q h => by simp at h
                refine va_calli (va_runS (As := [.int (th i)]) (rest := [.int (nI (noN (fo i)))]) ⟨hx, hb, hml, hown, hts⟩ (c_J6_bitCount_0f7a4 l dC dI cI cZ cJ (th i) ((hC i hi).2.1)) (va_cwS 1 hts gX3_run_J6_bitCount_0f7a4 rfl rfl rfl (by decide +kernel) ⟨Nat.le_of_ble_eq_true rfl, Nat.le_of_ble_eq_true rfl⟩) ⟨zPre_blind, zPre_at hPc hK hn⟩ rfl rfl hl.1 rfl (lv_room (Nat.le_of_ble_eq_true rfl)) dX3_run_95 ⟨Nat.le_of_ble_eq_true rfl, Nat.le_of_ble_eq_true rfl⟩) hS (fun _ _ h => h.elim) (fun _ h => h.elim) (fun r_14 u_9 t H locs ht hvm hw hB hz1 hk1 hS => ?_)
                have hP := zkeep hP hk1
                subst hw
                refine lv_iadd hx hb dX3_run_98 ?_
                refine zz_top (y := nI ((noN (fo i)) + (bc (th i)))) (nI_add _ _) ?_
                refine lv_istore (lv' := [(8, .int (nI ((noN (fo i)) + (bc (th i))))), (0, .ref (a 0)), (1, .long (lN X0)), (3, .int (nI M)), (4, .long (lN gX)), (6, .int (nI i)), (7, .int (nI y))]) hx hb dX3_run_99 hl (by decide) rfl (fun ls hl => ?_)
                refine lv_iconst (v := 0) hx hb dX3_run_101 (by decide) ?_
                refine lv_istore (lv' := [(9, .int 0), (8, .int (nI ((noN (fo i)) + (bc (th i))))), (0, .ref (a 0)), (1, .long (lN X0)), (3, .int (nI M)), (4, .long (lN gX)), (6, .int (nI i)), (7, .int (nI y))]) hx hb dX3_run_102 hl (by decide) rfl (fun ls hl => ?_)
                refine lv_iload hx hb dX3_run_104 (lv_at hl 1 rfl) ?_
                refine lv_iconst (v := 1) hx hb dX3_run_106 (by decide) ?_
                refine lv_icmp_le (tgt := 127) hx hb dX3_run_107 (by decide) (fun c_15 => ?_) (fun c_15 => ?_)
                · skip
                  have c8 := (zz_let (a := noN (fo i) + bc (th i)) (b := 1) (by omega) (by omega)).mp c_15
                  have e1 : noN (fo i) + bc (th i) = 1 := by omega
                  obtain ⟨gX9, hgX9⟩ : ∃ q, q = gX := ⟨_, rfl⟩
                  have hoX1 : gX % (noN (fo i) + bc (th i)) = 0 := by rw [e1]; omega
                  have hoX2 : gX / (noN (fo i) + bc (th i)) = gX9 := by rw [e1, hgX9]; omega
                  have hX9 : gX9 < 2 ^ 63 := by omega
                  rw [← hgX9] at hl
                  refine lv_aload_n hx hb dX3_run_127 rfl (lv_at hl 2 rfl) ?_
                  refine lv_iload hx hb dX3_run_128 (lv_at hl 6 rfl) ?_
                  refine lv_iload hx hb dX3_run_130 (lv_at hl 0 rfl) ?_
                  have hDc := hD
                  have hFc := va_free (wc := w3 a cI cZ nk pa fa nc fo th tg nt tb te tk tt nu ub ue uk ut re ro fu bl go ra rc gex gtc ges gwy) hD hS hA [0, 1, 2, 3, 4, 5, 6, 7, 8, 9, 10, 11, 12, 13, 14, 15, 16, 17, 18, 19, 20, 21, 22, 23] rfl
                  refine va_calli (va_runV (As := [.int (nI i), .int 0]) (rest := []) ⟨hx, hb, hml, hown, hts⟩ (c_X3_execute l dC dI cI cZ cJ a nk pa fa nc fo th tg nt tb te tk tt nu ub ue uk ut re ro fu bl go ra rc gex gtc ges gwy i 0 T up H.size (by first | assumption | omega) (by first | assumption | omega) (by first | assumption | omega) (by omega)) (cwV 2 hts gX3_run_X3_execute rfl rfl rfl (by decide +kernel) ⟨Nat.le_of_ble_eq_true rfl, Nat.le_of_ble_eq_true rfl⟩) ⟨zWr_blind, va_recv hK hP (ci := 3) (q0 := 0) rfl rfl, zWr_at hP hK hn (hDc.weaken (fun _ _ _ _ => trivial))⟩ rfl rfl hl.1 rfl (lv_room (Nat.le_of_ble_eq_true rfl)) dX3_run_132 ⟨Nat.le_of_ble_eq_true rfl, Nat.le_of_ble_eq_true rfl⟩) hS (fun q _ h => hFc q h) hFc (fun r_16 u_9 t H1 locs ht hvm hw hB hz1 hk1 hS => ?_)
                  obtain ⟨tc_n, es_n, wy_n⟩ := u_9
                  dsimp only at hw hB
                  obtain ⟨hP1, -, hD1⟩ := hB
                  rw [ht] at hP1
                  obtain ⟨hP, hD⟩ := va_join (wr := []) (w1 := w3 a cI cZ nk pa fa nc fo th tg nt tb te tk tt nu ub ue uk ut re ro fu bl go ra rc (gex + 1) tc_n es_n wy_n) hP hD [0, 1, 2, 3, 4, 5, 6, 7, 8, 9, 10, 11, 12, 13, 14, 15, 16, 17, 18, 19, 20, 21, 22, 23] [] rfl rfl (by decide) (by decide) hk1 hFc hP1 hD1
                  generalize H1 = H at hP hS ⊢
                  have hP : va_P (dC, dI) vwCl (w3 a cI cZ nk pa fa nc fo th tg nt tb te tk tt nu ub ue uk ut re ro fu bl go ra rc (gex + 1) tc_n es_n wy_n) H := hP
                  have hD : va_D A (w3 a cI cZ nk pa fa nc fo th tg nt tb te tk tt nu ub ue uk ut re ro fu bl go ra rc (gex + 1) tc_n es_n wy_n) := hD
                  obtain ⟨hw0, hw⟩ := hw
                  subst hw0
                  have hst : (stS fo th tg nk T nt up) ((nI i, gX, y, gtc, ges, gwy) : RS) = ((exS fo th tg nk T nt up i 0 gtc ges gwy).1, gX9, y + 1, tc_n, es_n, wy_n) := by
                    simp only [stS, nI_clamp (show i < 2 ^ 31 by omega), opN]
                    rw [hoX1, hoX2]
                    have h1 := congrArg Prod.fst hw
                    have h2 := congrArg (fun q => q.2.1) hw
                    have h3 := congrArg (fun q => q.2.2) hw
                    simp only at h1 h2 h3
                    rw [h1, h2, h3]
                  have hq9 := hq.trans (rnS_s (f := (stS fo th tg nk T nt up)) hyM c9)
                  rw [hst] at hq9
                  refine lv_istore (lv' := [(6, .int ((exS fo th tg nk T nt up i 0 gtc ges gwy).1)), (9, .int 0), (8, .int (nI ((noN (fo i)) + (bc (th i))))), (0, .ref (a 0)), (1, .long (lN X0)), (3, .int (nI M)), (4, .long (lN gX9)), (7, .int (nI y))]) hx hb dX3_run_135 hl (by decide) rfl (fun ls hl => ?_)
                  refine lv_iinc (v := nI (y + 1)) (lv' := [(7, .int (nI (y + 1))), (6, .int ((exS fo th tg nk T nt up i 0 gtc ges gwy).1)), (9, .int 0), (8, .int (nI ((noN (fo i)) + (bc (th i))))), (0, .ref (a 0)), (1, .long (lN X0)), (3, .int (nI M)), (4, .long (lN gX9))]) hx hb dX3_run_137 hl (k := 7) rfl (zz_inc y 1) (by decide) rfl (fun ls hl => ?_)
                  refine lv_goto (tgt := 58) hx hb dX3_run_140 (by decide) ?_
                  exact ih_58 (y + 1) ((exS fo th tg nk T nt up i 0 gtc ges gwy).1) gX9 (gex + 1) tc_n es_n wy_n _ _ _ (by first | assumption | omega) hX9 (by rw [hex]; exact nI_1 y) hq9 (by omega) hP hD hS (lv_sub hl [4, 5, 6, 7, 1, 0] rfl)
                · skip
                  obtain ⟨gX9, hgX9⟩ : ∃ q, q = gX / (noN (fo i) + bc (th i)) := ⟨_, rfl⟩
                  have hoX2 : gX / (noN (fo i) + bc (th i)) = gX9 := hgX9.symm
                  obtain ⟨o9, ho9e⟩ : ∃ q, q = gX % (noN (fo i) + bc (th i)) := ⟨_, rfl⟩
                  have hoX1 : gX % (noN (fo i) + bc (th i)) = o9 := ho9e.symm
                  have hX9 : gX9 < 2 ^ 63 := by omega
                  refine lv_lload hx hb dX3_run_110 (lv_at hl 5 rfl) ?_
                  refine lv_iload hx hb dX3_run_112 (lv_at hl 1 rfl) ?_
                  refine lv_i2l (v := (nI ((noN (fo i)) + (bc (th i)))).toInt64) hx hb dX3_run_114 rfl ?_
                  refine zz_topl (y := lN (noN (fo i) + bc (th i))) (nI_l (by omega)) ?_
                  refine lv_lrem hx hb dX3_run_115 (lN_ne0 hm0 (by omega)) ?_
                  refine zz_topl (y := lN o9) (by rw [ho9e]; exact pk_lRem hX hm0 (by omega)) ?_
                  refine lv_l2i (v := (lN o9).toInt32) hx hb dX3_run_116 rfl ?_
                  refine zz_top (y := nI o9) (lN_i _) ?_
                  refine lv_istore (lv' := [(9, .int (nI o9)), (8, .int (nI ((noN (fo i)) + (bc (th i))))), (0, .ref (a 0)), (1, .long (lN X0)), (3, .int (nI M)), (4, .long (lN gX)), (6, .int (nI i)), (7, .int (nI y))]) hx hb dX3_run_117 hl (by decide) rfl (fun ls hl => ?_)
                  refine lv_lload hx hb dX3_run_119 (lv_at hl 5 rfl) ?_
                  refine lv_iload hx hb dX3_run_121 (lv_at hl 1 rfl) ?_
                  refine lv_i2l (v := (nI ((noN (fo i)) + (bc (th i)))).toInt64) hx hb dX3_run_123 rfl ?_
                  refine zz_topl (y := lN (noN (fo i) + bc (th i))) (nI_l (by omega)) ?_
                  refine lv_ldiv hx hb dX3_run_124 (lN_ne0 hm0 (by omega)) ?_
                  refine zz_topl (y := lN gX9) (by rw [hgX9]; exact pk_lDiv hX hm0 (by omega)) ?_
                  refine lv_lstore (lv' := [(4, .long (lN gX9)), (9, .int (nI o9)), (8, .int (nI ((noN (fo i)) + (bc (th i))))), (0, .ref (a 0)), (1, .long (lN X0)), (3, .int (nI M)), (6, .int (nI i)), (7, .int (nI y))]) hx hb dX3_run_125 hl (by decide) rfl (fun ls hl => ?_)
                  refine lv_aload_n hx hb dX3_run_127 rfl (lv_at hl 3 rfl) ?_
                  refine lv_iload hx hb dX3_run_128 (lv_at hl 6 rfl) ?_
                  refine lv_iload hx hb dX3_run_130 (lv_at hl 1 rfl) ?_
                  have hDc := hD
                  have hFc := va_free (wc := w3 a cI cZ nk pa fa nc fo th tg nt tb te tk tt nu ub ue uk ut re ro fu bl go ra rc gex gtc ges gwy) hD hS hA [0, 1, 2, 3, 4, 5, 6, 7, 8, 9, 10, 11, 12, 13, 14, 15, 16, 17, 18, 19, 20, 21, 22, 23] rfl
                  refine va_calli (va_runV (As := [.int (nI i), .int (nI o9)]) (rest := []) ⟨hx, hb, hml, hown, hts⟩ (c_X3_execute l dC dI cI cZ cJ a nk pa fa nc fo th tg nt tb te tk tt nu ub ue uk ut re ro fu bl go ra rc gex gtc ges gwy i o9 T up H.size (by first | assumption | omega) (by first | assumption | omega) (by first | assumption | omega) (by omega)) (cwV 2 hts gX3_run_X3_execute rfl rfl rfl (by decide +kernel) ⟨Nat.le_of_ble_eq_true rfl, Nat.le_of_ble_eq_true rfl⟩) ⟨zWr_blind, va_recv hK hP (ci := 3) (q0 := 0) rfl rfl, zWr_at hP hK hn (hDc.weaken (fun _ _ _ _ => trivial))⟩ rfl rfl hl.1 rfl (lv_room (Nat.le_of_ble_eq_true rfl)) dX3_run_132 ⟨Nat.le_of_ble_eq_true rfl, Nat.le_of_ble_eq_true rfl⟩) hS (fun q _ h => hFc q h) hFc (fun r_20 u_9 t H1 locs ht hvm hw hB hz1 hk1 hS => ?_)
                  obtain ⟨tc_n, es_n, wy_n⟩ := u_9
                  dsimp only at hw hB
                  obtain ⟨hP1, -, hD1⟩ := hB
                  rw [ht] at hP1
                  obtain ⟨hP, hD⟩ := va_join (wr := []) (w1 := w3 a cI cZ nk pa fa nc fo th tg nt tb te tk tt nu ub ue uk ut re ro fu bl go ra rc (gex + 1) tc_n es_n wy_n) hP hD [0, 1, 2, 3, 4, 5, 6, 7, 8, 9, 10, 11, 12, 13, 14, 15, 16, 17, 18, 19, 20, 21, 22, 23] [] rfl rfl (by decide) (by decide) hk1 hFc hP1 hD1
                  generalize H1 = H at hP hS ⊢
                  have hP : va_P (dC, dI) vwCl (w3 a cI cZ nk pa fa nc fo th tg nt tb te tk tt nu ub ue uk ut re ro fu bl go ra rc (gex + 1) tc_n es_n wy_n) H := hP
                  have hD : va_D A (w3 a cI cZ nk pa fa nc fo th tg nt tb te tk tt nu ub ue uk ut re ro fu bl go ra rc (gex + 1) tc_n es_n wy_n) := hD
                  obtain ⟨hw0, hw⟩ := hw
                  subst hw0
                  have hst : (stS fo th tg nk T nt up) ((nI i, gX, y, gtc, ges, gwy) : RS) = ((exS fo th tg nk T nt up i o9 gtc ges gwy).1, gX9, y + 1, tc_n, es_n, wy_n) := by
                    simp only [stS, nI_clamp (show i < 2 ^ 31 by omega), opN]
                    rw [hoX1, hoX2]
                    have h1 := congrArg Prod.fst hw
                    have h2 := congrArg (fun q => q.2.1) hw
                    have h3 := congrArg (fun q => q.2.2) hw
                    simp only at h1 h2 h3
                    rw [h1, h2, h3]
                  have hq9 := hq.trans (rnS_s (f := (stS fo th tg nk T nt up)) hyM c9)
                  rw [hst] at hq9
                  refine lv_istore (lv' := [(6, .int ((exS fo th tg nk T nt up i o9 gtc ges gwy).1)), (4, .long (lN gX9)), (9, .int (nI o9)), (8, .int (nI ((noN (fo i)) + (bc (th i))))), (0, .ref (a 0)), (1, .long (lN X0)), (3, .int (nI M)), (7, .int (nI y))]) hx hb dX3_run_135 hl (by decide) rfl (fun ls hl => ?_)
                  refine lv_iinc (v := nI (y + 1)) (lv' := [(7, .int (nI (y + 1))), (6, .int ((exS fo th tg nk T nt up i o9 gtc ges gwy).1)), (4, .long (lN gX9)), (9, .int (nI o9)), (8, .int (nI ((noN (fo i)) + (bc (th i))))), (0, .ref (a 0)), (1, .long (lN X0)), (3, .int (nI M))]) hx hb dX3_run_137 hl (k := 7) rfl (zz_inc y 1) (by decide) rfl (fun ls hl => ?_)
                  refine lv_goto (tgt := 58) hx hb dX3_run_140 (by decide) ?_
                  exact ih_58 (y + 1) ((exS fo th tg nk T nt up i o9 gtc ges gwy).1) gX9 (gex + 1) tc_n es_n wy_n _ _ _ (by first | assumption | omega) hX9 (by rw [hex]; exact nI_1 y) hq9 (by omega) hP hD hS (lv_sub hl [5, 6, 7, 2, 1, 0] rfl)
        exact J_58 _ 0 0 X0 0 0 (-1) 7 _ _ _ (by first | assumption | omega) (by first | assumption | omega) rfl rfl (Nat.lt_succ_self _) hP hD hS (lv_sub hl [3, 4, 5, 2, 1, 0] rfl)
      · skip
        have c9 : rOK ch mo = false := by simp only [rOK]; rw [decide_eq_true (Int32.not_le.mp c_3)]; simp
        rw [← hQ]
        obtain ⟨sa, hstr⟩ := hzt.2 (194, "choices or most out of range") (by decide +kernel)
        have hat := vx_hat (args := args) (s := s) (L := vx_atS RX3 121 "java/lang/IllegalArgumentException" ["java/lang/RuntimeException", "java/lang/Exception"]) (B := zw_l) (fun w hw => hts w (zx_X3_run_17 w hw)) (by decide +kernel) (zt_use hzt)
        exact vx_throwS hx hb hlt (own := RX3) (cls := "java/lang/IllegalArgumentException") (text := "choices or most out of range") (names := ["java/lang/RuntimeException", "java/lang/Exception"]) (ik := 117) (is := 194) (ic := 121) (sa := sa) hown (by decide +kernel) (by decide +kernel) (hts (.classLink RX3 117 "java/lang/IllegalArgumentException") (by decide +kernel)) (hts (.initialized "java/lang/IllegalArgumentException") (by decide +kernel)) hstr hat (by decide +kernel) hzu.1 hzu.2 hS (hl.1.trans hml.symm) dX3_run_17 dX3_run_20 dX3_run_21 dX3_run_23 dX3_run_26 (fun x h => absurd (hxt x h) id) (Nat.le_of_ble_eq_true rfl) (Nat.le_of_ble_eq_true rfl) (Nat.le_of_ble_eq_true rfl) (Nat.le_of_ble_eq_true rfl) hlocks (fun t hvm hz hk => ⟨(), trivial, ⟨(⟨rfl, c9⟩), zz_keep2 hP hk, va_K.moved hvm hK, hD⟩, zz_thr hS hz hk⟩) hS.2.2 (Nat.le_of_ble_eq_true rfl) (Nat.le_of_ble_eq_true rfl)

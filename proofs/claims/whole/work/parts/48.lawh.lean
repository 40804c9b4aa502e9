set_option maxHeartbeats 4000000 in
set_option maxRecDepth 100000 in
theorem c_L_addKind (l : Launch) (dC : Nat → ClassId) (dI : Nat → Nat → Nat) (cI cZ cJ : ClassId) (a : Nat → Nat) (nk : Nat) (pa : Nat → Int32) (fa : Nat → Int32) (nc : Nat) (fo : Nat → Int32) (th : Nat → Int32) (tg : Nat → Int32) (nt : Nat) (tb : Nat → Int32) (te : Nat → Int32) (tk : Nat → Int32) (tt : Nat → Int32) (nu : Nat) (ub : Nat → Int32) (ue : Nat → Int32) (uk : Nat → Int32) (ut : Nat → Int32) (re : Nat → Int32) (ro : Nat → Int32) (fu : Nat → Int32) (bl : Nat → Int32) (go : Nat → Int32) (ra : Nat → Int32) (rc : Nat) (ex : Int32) (tc : Int32) (es : Int32) (wy : Int64) (x : Int32) (T : Nat → Nat → Nat) (up : Nat → Nat → Bool) (ou : Nat) (fz : Nat → Int64) (sz : Nat) (hlt : l.stackTraces = false) (hg : g3 nk fa up nt tb te tk tt T) (hc : okC nk nc fo th tg) : Met l yL_addKind wsL_addKind ({ frames := 8, cells := 2, slots := 12, locals := 124 } : Room) (va_Pc [.ref (a 0), .int x, .ref ou] (zTl (dC, dI) [(cI, .int), (cZ, .boolean), (cJ, .long)] ((w3 a cI cZ nk pa fa nc fo th tg nt tb te tk tt nu ub ue uk ut re ro fu bl go ra rc ex tc es wy) ++ ([(ou, .inl (cJ, 1, .inr (.inl fz)))])) sz)) (va_Qi (fun (r : Int32) (u : Nat × (Nat → Int32) × (Nat → Int32) × (Nat → Int64)) => match u with | (v_k_2, v_kp, v_kf, fz9) => (∃ (fa9 : Nat → Int32), (r = 0 ∧ fz9 = vp_updL fz 0 ((nI nk).toInt64) ∧ v_k_2 = (nk + 1) ∧ v_kp = (upd pa nk x) ∧ v_kf = fa9 ∧ ((hasI x nk = true ∧ nk < 8) ∧ g3 (nk + 1) fa9 (upN up nk x.toNatClampNeg) nt tb te tk tt T ∧ okC (nk + 1) nc fo th tg))) ∨ (r = 1 ∧ (hasI x nk = false) ∧ fz9 = fz ∧ v_k_2 = nk ∧ v_kp = pa ∧ v_kf = fa) ∨ (r = 2 ∧ (hasI x nk = true ∧ nk = 8) ∧ fz9 = fz ∧ v_k_2 = nk ∧ v_kp = pa ∧ v_kf = fa)) (fun u t => match u with | (v_k_2, v_kp, v_kf, fz9) => zWo (dC, dI) [(cI, .int), (cZ, .boolean), (cJ, .long)] ((w3 a cI cZ v_k_2 v_kp v_kf nc fo th tg nt tb te tk tt nu ub ue uk ut re ro fu bl go ra rc ex tc es wy) ++ ([(ou, .inl (cJ, 1, .inr (.inl fz9)))])) (va_A ((w3 a cI cZ nk pa fa nc fo th tg nt tb te tk tt nu ub ue uk ut re ro fu bl go ra rc ex tc es wy) ++ ([(ou, .inl (cJ, 1, .inr (.inl fz)))])) sz) t) (va_A ((w3 a cI cZ nk pa fa nc fo th tg nt tb te tk tt nu ub ue uk ut re ro fu bl go ra rc ex tc es wy) ++ ([(ou, .inl (cJ, 1, .inr (.inl fz)))])) sz)) 2 12 (va_A ((w3 a cI cZ nk pa fa nc fo th tg nt tb te tk tt nu ub ue uk ut re ro fu bl go ra rc ex tc es wy) ++ ([(ou, .inl (cJ, 1, .inr (.inl fz)))])) sz) := by
  refine va_MetW (cc := cL_addKind) (maxL := 4) (ret := (some .int)) (hh := [(0, 9, 12, 13), (0, 9, 15, 15)]) (by decide) rfl ?_
  intro p e s m args below meth c s₁ B hml hv
  obtain ⟨hav, ⟨⟨hsz, ⟨hP, hK, hn⟩, hD0⟩, hzt, hzu⟩, hzc⟩ := hv
  have hx := B.exec
  have hb := B.bytes
  have hr := B.returns
  have hts := atoms_spec (ws := wsL_addKind) B.pre
  have hown : s.vm.findClass RL = some m.cls := findClass_of_methodNamed B.named
  have hlocks := B.notSynchronized
  have htab : c.exceptionTable.toList = [⟨0, 9, 12, 13⟩, ⟨0, 9, 15, 15⟩] := vx_table (x := yL_addKind) B (hh := [(0, 9, 12, 13), (0, 9, 15, 15)]) (hts _ (by unfold wsL_addKind; exact List.mem_cons_self))
  subst hsz
  have hD := hD0.self (sz := s.heap.size)
  generalize hAe : (va_A ((w3 a cI cZ nk pa fa nc fo th tg nt tb te tk tt nu ub ue uk ut re ro fu bl go ra rc ex tc es wy) ++ ([(ou, .inl (cJ, 1, .inr (.inl fz)))])) s.heap.size) = A at hD hzu ⊢
  have hA : ∀ q : Nat, s.heap.size ≤ q → A q := fun q h => by rw [← hAe]; exact Or.inr h
  have hS : va_S A s.heap s.heap [] := va_S.rf
  generalize hQ : MQ below (va_Qi (fun (r : Int32) (u : Nat × (Nat → Int32) × (Nat → Int32) × (Nat → Int64)) => match u with | (v_k_2, v_kp, v_kf, fz9) => (∃ (fa9 : Nat → Int32), (r = 0 ∧ fz9 = vp_updL fz 0 ((nI nk).toInt64) ∧ v_k_2 = (nk + 1) ∧ v_kp = (upd pa nk x) ∧ v_kf = fa9 ∧ ((hasI x nk = true ∧ nk < 8) ∧ g3 (nk + 1) fa9 (upN up nk x.toNatClampNeg) nt tb te tk tt T ∧ okC (nk + 1) nc fo th tg))) ∨ (r = 1 ∧ (hasI x nk = false) ∧ fz9 = fz ∧ v_k_2 = nk ∧ v_kp = pa ∧ v_kf = fa) ∨ (r = 2 ∧ (hasI x nk = true ∧ nk = 8) ∧ fz9 = fz ∧ v_k_2 = nk ∧ v_kp = pa ∧ v_kf = fa)) (fun u t => match u with | (v_k_2, v_kp, v_kf, fz9) => zWo (dC, dI) [(cI, .int), (cZ, .boolean), (cJ, .long)] ((w3 a cI cZ v_k_2 v_kp v_kf nc fo th tg nt tb te tk tt nu ub ue uk ut re ro fu bl go ra rc ex tc es wy) ++ ([(ou, .inl (cJ, 1, .inr (.inl fz9)))])) A t) A) args s 2 12 A = Q
  refine W.eq (g2 := entryFrame m ([.ref (a 0), .int x, .ref ou] : List Value).toArray 4) (by rw [hav]) ?_
  have hl := lv_entry ([.ref (a 0), .int x, .ref ou]) (n := 4) (Nat.le_of_ble_eq_true rfl)
  rw [lg_entry_eq]
  generalize (lg_sl ([.ref (a 0), .int x, .ref ou]) ++ List.replicate (4 - (lg_sl ([.ref (a 0), .int x, .ref ou])).length) Slot.unset).toArray = ls at hl ⊢
  have hl : lv_has ls 4 [(0, .ref (a 0)), (1, .int x), (2, .ref ou)] := hl
  obtain ⟨H, hH⟩ : ∃ H, H = s.heap := ⟨_, rfl⟩
  obtain ⟨locs, hlo⟩ : ∃ q : List Loc, q = [] := ⟨_, rfl⟩
  have hP : va_P (dC, dI) vwCl ((w3 a cI cZ nk pa fa nc fo th tg nt tb te tk tt nu ub ue uk ut re ro fu bl go ra rc ex tc es wy) ++ ([(ou, .inl (cJ, 1, .inr (.inl fz)))])) H := by rw [hH]; exact hP
  have hS : va_S A s.heap H locs := by rw [hH, hlo]; exact hS
  refine zz_hl hH hlo ?_
  refine lv_aload_n hx hb dL_addKind_0 rfl (lv_at hl 2 rfl) ?_
  refine lv_iconst (v := 0) hx hb dL_addKind_1 (by decide) ?_
  refine lv_aload_n hx hb dL_addKind_2 rfl (lv_at hl 0 rfl) ?_
  refine lv_iload_n hx hb dL_addKind_3 rfl (lv_at hl 1 rfl) ?_
  have hPc := hP.sub (ws' := w3 a cI cZ nk pa fa nc fo th tg nt tb te tk tt nu ub ue uk ut re ro fu bl go ra rc ex tc es wy) [0, 1, 2, 3, 4, 5, 6, 7, 8, 9, 10, 11, 12, 13, 14, 15, 16, 17, 18, 19, 20, 21, 22, 23] rfl
  have hDc := hD.sub (ws' := w3 a cI cZ nk pa fa nc fo th tg nt tb te tk tt nu ub ue uk ut re ro fu bl go ra rc ex tc es wy) [0, 1, 2, 3, 4, 5, 6, 7, 8, 9, 10, 11, 12, 13, 14, 15, 16, 17, 18, 19, 20, 21, 22, 23] (by decide) rfl
  have hFc := va_free (wc := w3 a cI cZ nk pa fa nc fo th tg nt tb te tk tt nu ub ue uk ut re ro fu bl go ra rc ex tc es wy) hD hS hA [0, 1, 2, 3, 4, 5, 6, 7, 8, 9, 10, 11, 12, 13, 14, 15, 16, 17, 18, 19, 20, 21, 22, 23] rfl
  refine vx_calli (vx_runV (As := [.int x]) (rest := [.int 0, .ref ou]) ⟨hx, hb, hml, hown, hts⟩ (c_X3_addKind l dC dI cI cZ cJ a nk pa fa nc fo th tg nt tb te tk tt nu ub ue uk ut re ro fu bl go ra rc ex tc es wy x T up H.size hlt (hg) (hc)) (cwV 1 hts gL_addKind_X3_addKind rfl rfl rfl (by decide +kernel) ⟨Nat.le_of_ble_eq_true rfl, Nat.le_of_ble_eq_true rfl⟩) ⟨zTr_blind, va_recv hK hPc (ci := 3) (q0 := 0) rfl rfl, zTr_at hPc hK hn (hDc.weaken (fun _ _ _ _ => trivial)) hzt hzu hS hFc⟩ rfl rfl hl.1 rfl (lv_room (Nat.le_of_ble_eq_true rfl)) dL_addKind_4 ⟨Nat.le_of_ble_eq_true rfl, Nat.le_of_ble_eq_true rfl⟩) hS (fun q _ h => hFc q h) hFc (fun q _ h => hFc q h) (fun E ce q9 u_9 t H1 locs ht hvm hpx hBX hz1 hk1 hS hc9 hv9 hcl => ?_) (fun r_1 u_9 t H1 locs ht hvm hw hB hz1 hk1 hS => ?_)
  · skip
    obtain ⟨hXE, hP1, -, hD1⟩ := hBX
    rw [ht] at hP1
    obtain ⟨hP, hD⟩ := va_join (wr := [(ou, .inl (cJ, 1, .inr (.inl fz)))]) (w1 := w3 a cI cZ nk pa fa nc fo th tg nt tb te tk tt nu ub ue uk ut re ro fu bl go ra rc ex tc es wy) hP hD [0, 1, 2, 3, 4, 5, 6, 7, 8, 9, 10, 11, 12, 13, 14, 15, 16, 17, 18, 19, 20, 21, 22, 23] [24] rfl rfl (by decide) (by decide) hk1 hFc hP1 hD1
    generalize H1 = H at hP hS hc9 ⊢
    have hP := hP.sub (ws' := (w3 a cI cZ nk pa fa nc fo th tg nt tb te tk tt nu ub ue uk ut re ro fu bl go ra rc ex tc es wy) ++ ([(ou, .inl (cJ, 1, .inr (.inl fz)))])) [1, 2, 3, 4, 5, 6, 7, 8, 9, 10, 11, 12, 13, 14, 15, 16, 17, 18, 19, 20, 21, 22, 23, 24, 0] rfl
    have hD := hD.sub (ws' := (w3 a cI cZ nk pa fa nc fo th tg nt tb te tk tt nu ub ue uk ut re ro fu bl go ra rc ex tc es wy) ++ ([(ou, .inl (cJ, 1, .inr (.inl fz)))])) [1, 2, 3, 4, 5, 6, 7, 8, 9, 10, 11, 12, 13, 14, 15, 16, 17, 18, 19, 20, 21, 22, 23, 24, 0] (by decide) rfl
    have hP : va_P (dC, dI) vwCl ((w3 a cI cZ nk pa fa nc fo th tg nt tb te tk tt nu ub ue uk ut re ro fu bl go ra rc ex tc es wy) ++ ([(ou, .inl (cJ, 1, .inr (.inl fz)))])) H := hP
    have hD : va_D A ((w3 a cI cZ nk pa fa nc fo th tg nt tb te tk tt nu ub ue uk ut re ro fu bl go ra rc ex tc es wy) ++ ([(ou, .inl (cJ, 1, .inr (.inl fz)))])) := hD
    refine vx_widen (k := 2) (n := 12) (by omega) (by omega) ?_
    rcases hXE with ⟨rfl, hp9⟩ | ⟨rfl, hp9⟩
    · skip
      refine vx_catch (own := RL) (name := "java/lang/IndexOutOfBoundsException") hown [] ⟨0, 9, 12, 13⟩ [⟨0, 9, 15, 15⟩] htab (fun z hz => absurd hz List.not_mem_nil) (by decide) (by decide) (hts (.classLink RL 13 "java/lang/IndexOutOfBoundsException") (by decide +kernel)) (va_Nw.use rfl (hzt.1 (.castable "java/lang/IndexOutOfBoundsException" "java/lang/IndexOutOfBoundsException") (by decide +kernel))) hc9 hv9 hcl ?_
      refine lv_astore_n (lv' := [(3, .ref q9), (0, .ref (a 0)), (1, .int x), (2, .ref ou)]) hx hb dL_addKind_12 rfl hl (by decide) rfl (fun ls hl => ?_)
      refine lv_iconst (v := 1) hx hb dL_addKind_13 (by decide) ?_
      rw [← hQ]
      have hP9 := hP
      have hD9 := hD
      exact W.iret (v := 1) hx hb hr (fun t ht hW => ⟨⟨1, (nk, pa, fa, fz), rfl, (Or.inr (Or.inl ⟨rfl, hp9, rfl, rfl, rfl, rfl⟩)), (by rw [ht]; exact hP9), va_K.moved hW.alike hK, hD9⟩, hS.F ht⟩) hS.2.2 dL_addKind_14
    · skip
      refine vx_catch (own := RL) (name := "java/lang/IllegalStateException") hown [⟨0, 9, 12, 13⟩] ⟨0, 9, 15, 15⟩ [] htab (fun z hz => by rcases List.mem_singleton.mp hz with rfl; exact Or.inr ⟨by decide, "java/lang/IndexOutOfBoundsException", hts (.classLink RL 13 "java/lang/IndexOutOfBoundsException") (by decide +kernel), hzc.1⟩) (by decide) (by decide) (hts (.classLink RL 15 "java/lang/IllegalStateException") (by decide +kernel)) (va_Nw.use rfl (hzt.1 (.castable "java/lang/IllegalStateException" "java/lang/IllegalStateException") (by decide +kernel))) hc9 hv9 hcl ?_
      refine lv_astore_n (lv' := [(3, .ref q9), (0, .ref (a 0)), (1, .int x), (2, .ref ou)]) hx hb dL_addKind_15 rfl hl (by decide) rfl (fun ls hl => ?_)
      refine lv_iconst (v := 2) hx hb dL_addKind_16 (by decide) ?_
      rw [← hQ]
      have hP9 := hP
      have hD9 := hD
      exact W.iret (v := 2) hx hb hr (fun t ht hW => ⟨⟨2, (nk, pa, fa, fz), rfl, (Or.inr (Or.inr ⟨rfl, hp9, rfl, rfl, rfl, rfl⟩)), (by rw [ht]; exact hP9), va_K.moved hW.alike hK, hD9⟩, hS.F ht⟩) hS.2.2 dL_addKind_17
  obtain ⟨fa_n, rfl⟩ : ∃ z, z = u_9 := ⟨_, rfl⟩
  obtain ⟨hP1, -, hD1⟩ := hB
  rw [ht] at hP1
  obtain ⟨hP, hD⟩ := va_join (wr := [(ou, .inl (cJ, 1, .inr (.inl fz)))]) (w1 := w3 a cI cZ (nk + 1) (upd pa nk x) fa_n nc fo th tg nt tb te tk tt nu ub ue uk ut re ro fu bl go ra rc ex tc es wy) hP hD [0, 1, 2, 3, 4, 5, 6, 7, 8, 9, 10, 11, 12, 13, 14, 15, 16, 17, 18, 19, 20, 21, 22, 23] [24] rfl rfl (by decide) (by decide) hk1 hFc hP1 hD1
  generalize H1 = H at hP hS ⊢
  have hP := hP.sub (ws' := (w3 a cI cZ (nk + 1) (upd pa nk x) fa_n nc fo th tg nt tb te tk tt nu ub ue uk ut re ro fu bl go ra rc ex tc es wy) ++ ([(ou, .inl (cJ, 1, .inr (.inl fz)))])) [1, 2, 3, 4, 5, 6, 7, 8, 9, 10, 11, 12, 13, 14, 15, 16, 17, 18, 19, 20, 21, 22, 23, 24, 0] rfl
  have hD := hD.sub (ws' := (w3 a cI cZ (nk + 1) (upd pa nk x) fa_n nc fo th tg nt tb te tk tt nu ub ue uk ut re ro fu bl go ra rc ex tc es wy) ++ ([(ou, .inl (cJ, 1, .inr (.inl fz)))])) [1, 2, 3, 4, 5, 6, 7, 8, 9, 10, 11, 12, 13, 14, 15, 16, 17, 18, 19, 20, 21, 22, 23, 24, 0] (by decide) rfl
  have hP : va_P (dC, dI) vwCl ((w3 a cI cZ (nk + 1) (upd pa nk x) fa_n nc fo th tg nt tb te tk tt nu ub ue uk ut re ro fu bl go ra rc ex tc es wy) ++ ([(ou, .inl (cJ, 1, .inr (.inl fz)))])) H := hP
  have hD : va_D A ((w3 a cI cZ (nk + 1) (upd pa nk x) fa_n nc fo th tg nt tb te tk tt nu ub ue uk ut re ro fu bl go ra rc ex tc es wy) ++ ([(ou, .inl (cJ, 1, .inr (.inl fz)))])) := hD
  refine W.widen (k := 2) (n := 12) (by omega) (by omega) ?_
  obtain ⟨hw0, hw⟩ := hw
  subst hw0
  refine lv_i2l (v := (nI nk).toInt64) hx hb dL_addKind_7 rfl ?_
  refine va_last hx hb hK hP hD hS 24 2 rfl rfl (vp_in_nI (n := 0) (by omega) (by decide)) dL_addKind_8 (fun H locs hP hD hS => ?_)
  have hP : va_P (dC, dI) vwCl ((w3 a cI cZ (nk + 1) (upd pa nk x) fa_n nc fo th tg nt tb te tk tt nu ub ue uk ut re ro fu bl go ra rc ex tc es wy) ++ ([(ou, .inl (cJ, 1, .inr (.inl (vp_updL fz 0 ((nI nk).toInt64)))))])) H := hP
  have hD : va_D A ((w3 a cI cZ (nk + 1) (upd pa nk x) fa_n nc fo th tg nt tb te tk tt nu ub ue uk ut re ro fu bl go ra rc ex tc es wy) ++ ([(ou, .inl (cJ, 1, .inr (.inl (vp_updL fz 0 ((nI nk).toInt64)))))])) := hD
  refine lv_goto (tgt := 18) hx hb dL_addKind_9 (by decide) ?_
  refine lv_iconst (v := 0) hx hb dL_addKind_18 (by decide) ?_
  rw [← hQ]
  have hP9 := hP
  have hD9 := hD
  exact W.iret (v := 0) hx hb hr (fun t ht hW => ⟨⟨0, (nk + 1, upd pa nk x, fa_n, vp_updL fz 0 ((nI nk).toInt64)), rfl, (Or.inl ⟨fa_n, rfl, rfl, rfl, rfl, rfl, hw⟩), (by rw [ht]; exact hP9), va_K.moved hW.alike hK, hD9⟩, hS.F ht⟩) hS.2.2 dL_addKind_19

set_option maxHeartbeats 4000000 in
set_option maxRecDepth 100000 in
theorem c_L_isBelow (l : Launch) (dC : Nat → ClassId) (dI : Nat → Nat → Nat) (cI cZ cJ : ClassId) (a : Nat → Nat) (nk : Nat) (pa : Nat → Int32) (fa : Nat → Int32) (nc : Nat) (fo : Nat → Int32) (th : Nat → Int32) (tg : Nat → Int32) (nt : Nat) (tb : Nat → Int32) (te : Nat → Int32) (tk : Nat → Int32) (tt : Nat → Int32) (nu : Nat) (ub : Nat → Int32) (ue : Nat → Int32) (uk : Nat → Int32) (ut : Nat → Int32) (re : Nat → Int32) (ro : Nat → Int32) (fu : Nat → Int32) (bl : Nat → Int32) (go : Nat → Int32) (ra : Nat → Int32) (rc : Nat) (ex : Int32) (tc : Int32) (es : Int32) (wy : Int64) (x : Int32) (y : Int32) (T : Nat → Nat → Nat) (up : Nat → Nat → Bool) (ou : Nat) (fz : Nat → Int64) (sz : Nat) (hlt : l.stackTraces = false) (hg : g3 nk fa up nt tb te tk tt T) (hc : okC nk nc fo th tg) : Met l yL_isBelow wsL_isBelow ({ frames := 8, cells := 2, slots := 12, locals := 125 } : Room) (va_Pc [.ref (a 0), .int x, .int y, .ref ou] (zTl (dC, dI) [(cI, .int), (cZ, .boolean), (cJ, .long)] ((w3 a cI cZ nk pa fa nc fo th tg nt tb te tk tt nu ub ue uk ut re ro fu bl go ra rc ex tc es wy) ++ ([(ou, .inl (cJ, 1, .inr (.inl fz)))])) sz)) (va_Qi (fun (r : Int32) (fz9 : Nat → Int64) => ((r = 0 ∧ fz9 = vp_updL fz 0 (bL ((!decide (x = y) && up x.toNatClampNeg y.toNatClampNeg))) ∧ ((hasI x nk && hasI y nk) = true))) ∨ (r = 1 ∧ ((hasI x nk && hasI y nk) = false) ∧ fz9 = fz)) (fun fz9 t => zWo (dC, dI) [(cI, .int), (cZ, .boolean), (cJ, .long)] ((w3 a cI cZ nk pa fa nc fo th tg nt tb te tk tt nu ub ue uk ut re ro fu bl go ra rc ex tc es wy) ++ ([(ou, .inl (cJ, 1, .inr (.inl fz9)))])) (va_A ((w3 a cI cZ nk pa fa nc fo th tg nt tb te tk tt nu ub ue uk ut re ro fu bl go ra rc ex tc es wy) ++ ([(ou, .inl (cJ, 1, .inr (.inl fz)))])) sz) t) (va_A ((w3 a cI cZ nk pa fa nc fo th tg nt tb te tk tt nu ub ue uk ut re ro fu bl go ra rc ex tc es wy) ++ ([(ou, .inl (cJ, 1, .inr (.inl fz)))])) sz)) 2 12 (va_A ((w3 a cI cZ nk pa fa nc fo th tg nt tb te tk tt nu ub ue uk ut re ro fu bl go ra rc ex tc es wy) ++ ([(ou, .inl (cJ, 1, .inr (.inl fz)))])) sz) := by
  refine va_MetW (cc := cL_isBelow) (maxL := 5) (ret := (some .int)) (hh := [(0, 17, 20, 13)]) (by decide) rfl ?_
  intro p e s m args below meth c s₁ B hml hv
  obtain ⟨hav, ⟨⟨hsz, ⟨hP, hK, hn⟩, hD0⟩, hzt, hzu⟩, hzc⟩ := hv
  have hx := B.exec
  have hb := B.bytes
  have hr := B.returns
  have hts := atoms_spec (ws := wsL_isBelow) B.pre
  have hown : s.vm.findClass RL = some m.cls := findClass_of_methodNamed B.named
  have hlocks := B.notSynchronized
  have htab : c.exceptionTable.toList = [⟨0, 17, 20, 13⟩] := vx_table (x := yL_isBelow) B (hh := [(0, 17, 20, 13)]) (hts _ (by unfold wsL_isBelow; exact List.mem_cons_self))
  subst hsz
  have hD := hD0.self (sz := s.heap.size)
  generalize hAe : (va_A ((w3 a cI cZ nk pa fa nc fo th tg nt tb te tk tt nu ub ue uk ut re ro fu bl go ra rc ex tc es wy) ++ ([(ou, .inl (cJ, 1, .inr (.inl fz)))])) s.heap.size) = A at hD hzu ⊢
  have hA : ∀ q : Nat, s.heap.size ≤ q → A q := fun q h => by rw [← hAe]; exact Or.inr h
  have hS : va_S A s.heap s.heap [] := va_S.rf
  generalize hQ : MQ below (va_Qi (fun (r : Int32) (fz9 : Nat → Int64) => ((r = 0 ∧ fz9 = vp_updL fz 0 (bL ((!decide (x = y) && up x.toNatClampNeg y.toNatClampNeg))) ∧ ((hasI x nk && hasI y nk) = true))) ∨ (r = 1 ∧ ((hasI x nk && hasI y nk) = false) ∧ fz9 = fz)) (fun fz9 t => zWo (dC, dI) [(cI, .int), (cZ, .boolean), (cJ, .long)] ((w3 a cI cZ nk pa fa nc fo th tg nt tb te tk tt nu ub ue uk ut re ro fu bl go ra rc ex tc es wy) ++ ([(ou, .inl (cJ, 1, .inr (.inl fz9)))])) A t) A) args s 2 12 A = Q
  refine W.eq (g2 := entryFrame m ([.ref (a 0), .int x, .int y, .ref ou] : List Value).toArray 5) (by rw [hav]) ?_
  have hl := lv_entry ([.ref (a 0), .int x, .int y, .ref ou]) (n := 5) (Nat.le_of_ble_eq_true rfl)
  rw [lg_entry_eq]
  generalize (lg_sl ([.ref (a 0), .int x, .int y, .ref ou]) ++ List.replicate (5 - (lg_sl ([.ref (a 0), .int x, .int y, .ref ou])).length) Slot.unset).toArray = ls at hl ⊢
  have hl : lv_has ls 5 [(0, .ref (a 0)), (1, .int x), (2, .int y), (3, .ref ou)] := hl
  obtain ⟨H, hH⟩ : ∃ H, H = s.heap := ⟨_, rfl⟩
  obtain ⟨locs, hlo⟩ : ∃ q : List Loc, q = [] := ⟨_, rfl⟩
  have hP : va_P (dC, dI) vwCl ((w3 a cI cZ nk pa fa nc fo th tg nt tb te tk tt nu ub ue uk ut re ro fu bl go ra rc ex tc es wy) ++ ([(ou, .inl (cJ, 1, .inr (.inl fz)))])) H := by rw [hH]; exact hP
  have hS : va_S A s.heap H locs := by rw [hH, hlo]; exact hS
  refine zz_hl hH hlo ?_
  refine lv_aload_n hx hb dL_isBelow_0 rfl (lv_at hl 3 rfl) ?_
  refine lv_iconst (v := 0) hx hb dL_isBelow_1 (by decide) ?_
  refine lv_aload_n hx hb dL_isBelow_2 rfl (lv_at hl 0 rfl) ?_
  refine lv_iload_n hx hb dL_isBelow_3 rfl (lv_at hl 1 rfl) ?_
  refine lv_iload_n hx hb dL_isBelow_4 rfl (lv_at hl 2 rfl) ?_
  have hPc := hP.sub (ws' := w3 a cI cZ nk pa fa nc fo th tg nt tb te tk tt nu ub ue uk ut re ro fu bl go ra rc ex tc es wy) [0, 1, 2, 3, 4, 5, 6, 7, 8, 9, 10, 11, 12, 13, 14, 15, 16, 17, 18, 19, 20, 21, 22, 23] rfl
  have hDc := hD.sub (ws' := w3 a cI cZ nk pa fa nc fo th tg nt tb te tk tt nu ub ue uk ut re ro fu bl go ra rc ex tc es wy) [0, 1, 2, 3, 4, 5, 6, 7, 8, 9, 10, 11, 12, 13, 14, 15, 16, 17, 18, 19, 20, 21, 22, 23] (by decide) rfl
  have hFc := va_free (wc := w3 a cI cZ nk pa fa nc fo th tg nt tb te tk tt nu ub ue uk ut re ro fu bl go ra rc ex tc es wy) hD hS hA [0, 1, 2, 3, 4, 5, 6, 7, 8, 9, 10, 11, 12, 13, 14, 15, 16, 17, 18, 19, 20, 21, 22, 23] rfl
  refine vx_calli (vx_runV (As := [.int x, .int y]) (rest := [.int 0, .ref ou]) ⟨hx, hb, hml, hown, hts⟩ (c_X3_isBelow l dC dI cI cZ cJ a nk pa fa nc fo th tg nt tb te tk tt nu ub ue uk ut re ro fu bl go ra rc ex tc es wy x y T up H.size hlt (hg) (hc)) (cwV 2 hts gL_isBelow_X3_isBelow rfl rfl rfl (by decide +kernel) ⟨Nat.le_of_ble_eq_true rfl, Nat.le_of_ble_eq_true rfl⟩) ⟨zTr_blind, va_recv hK hPc (ci := 3) (q0 := 0) rfl rfl, zTr_at hPc hK hn (hDc.weaken (fun _ _ _ _ => trivial)) hzt hzu hS hFc⟩ rfl rfl hl.1 rfl (lv_room (Nat.le_of_ble_eq_true rfl)) dL_isBelow_5 ⟨Nat.le_of_ble_eq_true rfl, Nat.le_of_ble_eq_true rfl⟩) hS (fun q _ h => hFc q h) hFc (fun q _ h => hFc q h) (fun E ce q9 u_9 t H1 locs ht hvm hpx hBX hz1 hk1 hS hc9 hv9 hcl => ?_) (fun r_1 u_9 t H1 locs ht hvm hw hB hz1 hk1 hS => ?_)
  · skip
    obtain ⟨hXE, hP1, -, hD1⟩ := hBX
    rw [ht] at hP1
    obtain ⟨hP, hD⟩ := va_join (wr := [(ou, .inl (cJ, 1, .inr (.inl fz)))]) (w1 := w3 a cI cZ nk pa fa nc fo th tg nt tb te tk tt nu ub ue uk ut re ro fu bl go ra rc ex tc es wy) hP hD [0, 1, 2, 3, 4, 5, 6, 7, 8, 9, 10, 11, 12, 13, 14, 15, 16, 17, 18, 19, 20, 21, 22, 23] [24] rfl rfl (by decide) (by decide) hk1 hFc hP1 hD1
    generalize H1 = H at hP hS hc9 ⊢
    have hP := hP.sub (ws' := (w3 a cI cZ nk pa fa nc fo th tg nt tb te tk tt nu ub ue uk ut re ro fu bl go ra rc ex tc es wy) ++ ([(ou, .inl (cJ, 1, .inr (.inl fz)))])) [1, 2, 3, 4, 5, 6, 7, 8, 9, 10, 11, 12, 13, 14, 15, 16, 17, 18, 19, 20, 21, 22, 23, 24, 0] rfl
    have hD := hD.sub (ws' := (w3 a cI cZ nk pa fa nc fo th tg nt tb te tk tt nu ub ue uk ut re ro fu bl go ra rc ex tc es wy) ++ ([(ou, .inl (cJ, 1, .inr (.inl fz)))])) [1, 2, 3, 4, 5, 6, 7, 8, 9, 10, 11, 12, 13, 14, 15, 16, 17, 18, 19, 20, 21, 22, 23, 24, 0] (by decide) rfl
    have hP : va_P (dC, dI) vwCl ((w3 a cI cZ nk pa fa nc fo th tg nt tb te tk tt nu ub ue uk ut re ro fu bl go ra rc ex tc es wy) ++ ([(ou, .inl (cJ, 1, .inr (.inl fz)))])) H := hP
    have hD : va_D A ((w3 a cI cZ nk pa fa nc fo th tg nt tb te tk tt nu ub ue uk ut re ro fu bl go ra rc ex tc es wy) ++ ([(ou, .inl (cJ, 1, .inr (.inl fz)))])) := hD
    refine vx_widen (k := 2) (n := 12) (by omega) (by omega) ?_
    rcases hXE with ⟨rfl, hp9⟩
    · skip
      refine vx_catch (own := RL) (name := "java/lang/IndexOutOfBoundsException") hown [] ⟨0, 17, 20, 13⟩ [] htab (fun z hz => absurd hz List.not_mem_nil) (by decide) (by decide) (hts (.classLink RL 13 "java/lang/IndexOutOfBoundsException") (by decide +kernel)) (va_Nw.use rfl (hzt.1 (.castable "java/lang/IndexOutOfBoundsException" "java/lang/IndexOutOfBoundsException") (by decide +kernel))) hc9 hv9 hcl ?_
      refine lv_astore (lv' := [(4, .ref q9), (0, .ref (a 0)), (1, .int x), (2, .int y), (3, .ref ou)]) hx hb dL_isBelow_20 hl (by decide) rfl (fun ls hl => ?_)
      refine lv_iconst (v := 1) hx hb dL_isBelow_22 (by decide) ?_
      rw [← hQ]
      have hP9 := hP
      have hD9 := hD
      exact W.iret (v := 1) hx hb hr (fun t ht hW => ⟨⟨1, fz, rfl, (Or.inr ⟨rfl, hp9, rfl⟩), (by rw [ht]; exact hP9), va_K.moved hW.alike hK, hD9⟩, hS.F ht⟩) hS.2.2 dL_isBelow_23
  obtain ⟨hP1, -, hD1⟩ := hB
  rw [ht] at hP1
  obtain ⟨hP, hD⟩ := va_join (wr := [(ou, .inl (cJ, 1, .inr (.inl fz)))]) (w1 := w3 a cI cZ nk pa fa nc fo th tg nt tb te tk tt nu ub ue uk ut re ro fu bl go ra rc ex tc es wy) hP hD [0, 1, 2, 3, 4, 5, 6, 7, 8, 9, 10, 11, 12, 13, 14, 15, 16, 17, 18, 19, 20, 21, 22, 23] [24] rfl rfl (by decide) (by decide) hk1 hFc hP1 hD1
  generalize H1 = H at hP hS ⊢
  have hP := hP.sub (ws' := (w3 a cI cZ nk pa fa nc fo th tg nt tb te tk tt nu ub ue uk ut re ro fu bl go ra rc ex tc es wy) ++ ([(ou, .inl (cJ, 1, .inr (.inl fz)))])) [1, 2, 3, 4, 5, 6, 7, 8, 9, 10, 11, 12, 13, 14, 15, 16, 17, 18, 19, 20, 21, 22, 23, 24, 0] rfl
  have hD := hD.sub (ws' := (w3 a cI cZ nk pa fa nc fo th tg nt tb te tk tt nu ub ue uk ut re ro fu bl go ra rc ex tc es wy) ++ ([(ou, .inl (cJ, 1, .inr (.inl fz)))])) [1, 2, 3, 4, 5, 6, 7, 8, 9, 10, 11, 12, 13, 14, 15, 16, 17, 18, 19, 20, 21, 22, 23, 24, 0] (by decide) rfl
  have hP : va_P (dC, dI) vwCl ((w3 a cI cZ nk pa fa nc fo th tg nt tb te tk tt nu ub ue uk ut re ro fu bl go ra rc ex tc es wy) ++ ([(ou, .inl (cJ, 1, .inr (.inl fz)))])) H := hP
  have hD : va_D A ((w3 a cI cZ nk pa fa nc fo th tg nt tb te tk tt nu ub ue uk ut re ro fu bl go ra rc ex tc es wy) ++ ([(ou, .inl (cJ, 1, .inr (.inl fz)))])) := hD
  refine W.widen (k := 2) (n := 12) (by omega) (by omega) ?_
  obtain ⟨hw0, hw⟩ := hw
  subst hw0
  refine lv_if_eq (tgt := 15) hx hb dL_isBelow_8 (by decide) (fun c_2 => ?_) (fun c_2 => ?_)
  · skip
    have c9 := zb_0.mp c_2
    refine lv_lconst (v := 0) hx hb dL_isBelow_15 (by decide) ?_
    refine va_last hx hb hK hP hD hS 24 2 rfl rfl (vp_in_nI (n := 0) (by omega) (by decide)) dL_isBelow_16 (fun H locs hP hD hS => ?_)
    have hP : va_P (dC, dI) vwCl ((w3 a cI cZ nk pa fa nc fo th tg nt tb te tk tt nu ub ue uk ut re ro fu bl go ra rc ex tc es wy) ++ ([(ou, .inl (cJ, 1, .inr (.inl (vp_updL fz 0 0))))])) H := hP
    have hD : va_D A ((w3 a cI cZ nk pa fa nc fo th tg nt tb te tk tt nu ub ue uk ut re ro fu bl go ra rc ex tc es wy) ++ ([(ou, .inl (cJ, 1, .inr (.inl (vp_updL fz 0 0))))])) := hD
    refine lv_goto (tgt := 24) hx hb dL_isBelow_17 (by decide) ?_
    refine lv_iconst (v := 0) hx hb dL_isBelow_24 (by decide) ?_
    rw [← hQ]
    have hP9 := hP
    have hD9 := hD
    exact W.iret (v := 0) hx hb hr (fun t ht hW => ⟨⟨0, vp_updL fz 0 0, rfl, (by first | exact Or.inl ⟨rfl, congrArg (vp_updL fz 0) (bL_t c9), hw⟩ | exact Or.inl ⟨rfl, congrArg (vp_updL fz 0) (bL_f c9), hw⟩), (by rw [ht]; exact hP9), va_K.moved hW.alike hK, hD9⟩, hS.F ht⟩) hS.2.2 dL_isBelow_25
  · skip
    have c9 := zb_1.mp c_2
    refine lv_lconst (v := 1) hx hb dL_isBelow_11 (by decide) ?_
    refine lv_goto (tgt := 16) hx hb dL_isBelow_12 (by decide) ?_
    refine va_last hx hb hK hP hD hS 24 2 rfl rfl (vp_in_nI (n := 0) (by omega) (by decide)) dL_isBelow_16 (fun H locs hP hD hS => ?_)
    have hP : va_P (dC, dI) vwCl ((w3 a cI cZ nk pa fa nc fo th tg nt tb te tk tt nu ub ue uk ut re ro fu bl go ra rc ex tc es wy) ++ ([(ou, .inl (cJ, 1, .inr (.inl (vp_updL fz 0 1))))])) H := hP
    have hD : va_D A ((w3 a cI cZ nk pa fa nc fo th tg nt tb te tk tt nu ub ue uk ut re ro fu bl go ra rc ex tc es wy) ++ ([(ou, .inl (cJ, 1, .inr (.inl (vp_updL fz 0 1))))])) := hD
    refine lv_goto (tgt := 24) hx hb dL_isBelow_17 (by decide) ?_
    refine lv_iconst (v := 0) hx hb dL_isBelow_24 (by decide) ?_
    rw [← hQ]
    have hP9 := hP
    have hD9 := hD
    exact W.iret (v := 0) hx hb hr (fun t ht hW => ⟨⟨0, vp_updL fz 0 1, rfl, (by first | exact Or.inl ⟨rfl, congrArg (vp_updL fz 0) (bL_t c9), hw⟩ | exact Or.inl ⟨rfl, congrArg (vp_updL fz 0) (bL_f c9), hw⟩), (by rw [ht]; exact hP9), va_K.moved hW.alike hK, hD9⟩, hS.F ht⟩) hS.2.2 dL_isBelow_25

set_option maxHeartbeats 4000000 in
set_option maxRecDepth 100000 in
theorem c_L_common (l : Launch) (dC : Nat → ClassId) (dI : Nat → Nat → Nat) (cI cZ cJ : ClassId) (a : Nat → Nat) (nk : Nat) (pa : Nat → Int32) (fa : Nat → Int32) (nc : Nat) (fo : Nat → Int32) (th : Nat → Int32) (tg : Nat → Int32) (nt : Nat) (tb : Nat → Int32) (te : Nat → Int32) (tk : Nat → Int32) (tt : Nat → Int32) (nu : Nat) (ub : Nat → Int32) (ue : Nat → Int32) (uk : Nat → Int32) (ut : Nat → Int32) (re : Nat → Int32) (ro : Nat → Int32) (fu : Nat → Int32) (bl : Nat → Int32) (go : Nat → Int32) (ra : Nat → Int32) (rc : Nat) (ex : Int32) (tc : Int32) (es : Int32) (wy : Int64) (x : Int32) (y : Int32) (T : Nat → Nat → Nat) (up : Nat → Nat → Bool) (ou : Nat) (fz : Nat → Int64) (sz : Nat) (hlt : l.stackTraces = false) (hg : g3 nk fa up nt tb te tk tt T) (hc : okC nk nc fo th tg) : Met l yL_common wsL_common ({ frames := 8, cells := 2, slots := 12, locals := 125 } : Room) (va_Pc [.ref (a 0), .int x, .int y, .ref ou] (zTl (dC, dI) [(cI, .int), (cZ, .boolean), (cJ, .long)] ((w3 a cI cZ nk pa fa nc fo th tg nt tb te tk tt nu ub ue uk ut re ro fu bl go ra rc ex tc es wy) ++ ([(ou, .inl (cJ, 1, .inr (.inl fz)))])) sz)) (va_Qi (fun (r : Int32) (fz9 : Nat → Int64) => ((r = 0 ∧ fz9 = vp_updL fz 0 ((nI (lw up nk x.toNatClampNeg y.toNatClampNeg)).toInt64) ∧ ((hasI x nk && hasI y nk) = true))) ∨ (r = 1 ∧ ((hasI x nk && hasI y nk) = false) ∧ fz9 = fz)) (fun fz9 t => zWo (dC, dI) [(cI, .int), (cZ, .boolean), (cJ, .long)] ((w3 a cI cZ nk pa fa nc fo th tg nt tb te tk tt nu ub ue uk ut re ro fu bl go ra rc ex tc es wy) ++ ([(ou, .inl (cJ, 1, .inr (.inl fz9)))])) (va_A ((w3 a cI cZ nk pa fa nc fo th tg nt tb te tk tt nu ub ue uk ut re ro fu bl go ra rc ex tc es wy) ++ ([(ou, .inl (cJ, 1, .inr (.inl fz)))])) sz) t) (va_A ((w3 a cI cZ nk pa fa nc fo th tg nt tb te tk tt nu ub ue uk ut re ro fu bl go ra rc ex tc es wy) ++ ([(ou, .inl (cJ, 1, .inr (.inl fz)))])) sz)) 2 12 (va_A ((w3 a cI cZ nk pa fa nc fo th tg nt tb te tk tt nu ub ue uk ut re ro fu bl go ra rc ex tc es wy) ++ ([(ou, .inl (cJ, 1, .inr (.inl fz)))])) sz) := by
  refine va_MetW (cc := cL_common) (maxL := 5) (ret := (some .int)) (hh := [(0, 10, 13, 13)]) (by decide) rfl ?_
  intro p e s m args below meth c s₁ B hml hv
  obtain ⟨hav, ⟨⟨hsz, ⟨hP, hK, hn⟩, hD0⟩, hzt, hzu⟩, hzc⟩ := hv
  have hx := B.exec
  have hb := B.bytes
  have hr := B.returns
  have hts := atoms_spec (ws := wsL_common) B.pre
  have hown : s.vm.findClass RL = some m.cls := findClass_of_methodNamed B.named
  have hlocks := B.notSynchronized
  have htab : c.exceptionTable.toList = [⟨0, 10, 13, 13⟩] := vx_table (x := yL_common) B (hh := [(0, 10, 13, 13)]) (hts _ (by unfold wsL_common; exact List.mem_cons_self))
  subst hsz
  have hD := hD0.self (sz := s.heap.size)
  generalize hAe : (va_A ((w3 a cI cZ nk pa fa nc fo th tg nt tb te tk tt nu ub ue uk ut re ro fu bl go ra rc ex tc es wy) ++ ([(ou, .inl (cJ, 1, .inr (.inl fz)))])) s.heap.size) = A at hD hzu ⊢
  have hA : ∀ q : Nat, s.heap.size ≤ q → A q := fun q h => by rw [← hAe]; exact Or.inr h
  have hS : va_S A s.heap s.heap [] := va_S.rf
  generalize hQ : MQ below (va_Qi (fun (r : Int32) (fz9 : Nat → Int64) => ((r = 0 ∧ fz9 = vp_updL fz 0 ((nI (lw up nk x.toNatClampNeg y.toNatClampNeg)).toInt64) ∧ ((hasI x nk && hasI y nk) = true))) ∨ (r = 1 ∧ ((hasI x nk && hasI y nk) = false) ∧ fz9 = fz)) (fun fz9 t => zWo (dC, dI) [(cI, .int), (cZ, .boolean), (cJ, .long)] ((w3 a cI cZ nk pa fa nc fo th tg nt tb te tk tt nu ub ue uk ut re ro fu bl go ra rc ex tc es wy) ++ ([(ou, .inl (cJ, 1, .inr (.inl fz9)))])) A t) A) args s 2 12 A = Q
  refine W.eq (g2 := entryFrame m ([.ref (a 0), .int x, .int y, .ref ou] : List Value).toArray 5) (by rw [hav]) ?_
  have hl := lv_entry ([.ref (a 0), .int x, .int y, .ref ou]) (n := 5) (Nat.le_of_ble_eq_true rfl)
  rw [lg_entry_eq]
  generalize (lg_sl ([.ref (a 0), .int x, .int y, .ref ou]) ++ List.replicate (5 - (lg_sl ([.ref (a 0), .int x, .int y, .ref ou])).length) Slot.unset).toArray = ls at hl ⊢
  have hl : lv_has ls 5 [(0, .ref (a 0)), (1, .int x), (2, .int y), (3, .ref ou)] := hl
  obtain ⟨H, hH⟩ : ∃ H, H = s.heap := ⟨_, rfl⟩
  obtain ⟨locs, hlo⟩ : ∃ q : List Loc, q = [] := ⟨_, rfl⟩
  have hP : va_P (dC, dI) vwCl ((w3 a cI cZ nk pa fa nc fo th tg nt tb te tk tt nu ub ue uk ut re ro fu bl go ra rc ex tc es wy) ++ ([(ou, .inl (cJ, 1, .inr (.inl fz)))])) H := by rw [hH]; exact hP
  have hS : va_S A s.heap H locs := by rw [hH, hlo]; exact hS
  refine zz_hl hH hlo ?_
  refine lv_aload_n hx hb dL_common_0 rfl (lv_at hl 3 rfl) ?_
  refine lv_iconst (v := 0) hx hb dL_common_1 (by decide) ?_
  refine lv_aload_n hx hb dL_common_2 rfl (lv_at hl 0 rfl) ?_
  refine lv_iload_n hx hb dL_common_3 rfl (lv_at hl 1 rfl) ?_
  refine lv_iload_n hx hb dL_common_4 rfl (lv_at hl 2 rfl) ?_
  have hPc := hP.sub (ws' := w3 a cI cZ nk pa fa nc fo th tg nt tb te tk tt nu ub ue uk ut re ro fu bl go ra rc ex tc es wy) [0, 1, 2, 3, 4, 5, 6, 7, 8, 9, 10, 11, 12, 13, 14, 15, 16, 17, 18, 19, 20, 21, 22, 23] rfl
  have hDc := hD.sub (ws' := w3 a cI cZ nk pa fa nc fo th tg nt tb te tk tt nu ub ue uk ut re ro fu bl go ra rc ex tc es wy) [0, 1, 2, 3, 4, 5, 6, 7, 8, 9, 10, 11, 12, 13, 14, 15, 16, 17, 18, 19, 20, 21, 22, 23] (by decide) rfl
  have hFc := va_free (wc := w3 a cI cZ nk pa fa nc fo th tg nt tb te tk tt nu ub ue uk ut re ro fu bl go ra rc ex tc es wy) hD hS hA [0, 1, 2, 3, 4, 5, 6, 7, 8, 9, 10, 11, 12, 13, 14, 15, 16, 17, 18, 19, 20, 21, 22, 23] rfl
  refine vx_calli (vx_runV (As := [.int x, .int y]) (rest := [.int 0, .ref ou]) ⟨hx, hb, hml, hown, hts⟩ (c_X3_common l dC dI cI cZ cJ a nk pa fa nc fo th tg nt tb te tk tt nu ub ue uk ut re ro fu bl go ra rc ex tc es wy x y T up H.size hlt (hg) (hc)) (cwV 2 hts gL_common_X3_common rfl rfl rfl (by decide +kernel) ⟨Nat.le_of_ble_eq_true rfl, Nat.le_of_ble_eq_true rfl⟩) ⟨zTr_blind, va_recv hK hPc (ci := 3) (q0 := 0) rfl rfl, zTr_at hPc hK hn (hDc.weaken (fun _ _ _ _ => trivial)) hzt hzu hS hFc⟩ rfl rfl hl.1 rfl (lv_room (Nat.le_of_ble_eq_true rfl)) dL_common_5 ⟨Nat.le_of_ble_eq_true rfl, Nat.le_of_ble_eq_true rfl⟩) hS (fun q _ h => hFc q h) hFc (fun q _ h => hFc q h) (fun E ce q9 u_9 t H1 locs ht hvm hpx hBX hz1 hk1 hS hc9 hv9 hcl => ?_) (fun r_1 u_9 t H1 locs ht hvm hw hB hz1 hk1 hS => ?_)
  · skip
    obtain ⟨hXE, hP1, -, hD1⟩ := hBX
    rw [ht] at hP1
    obtain ⟨hP, hD⟩ := va_join (wr := [(ou, .inl (cJ, 1, .inr (.inl fz)))]) (w1 := w3 a cI cZ nk pa fa nc fo th tg nt tb te tk tt nu ub ue uk ut re ro fu bl go ra rc ex tc es wy) hP hD [0, 1, 2, 3, 4, 5, 6, 7, 8, 9, 10, 11, 12, 13, 14, 15, 16, 17, 18, 19, 20, 21, 22, 23] [24] rfl rfl (by decide) (by decide) hk1 hFc hP1 hD1
    generalize H1 = H at hP hS hc9 ⊢
    have hP := hP.sub (ws' := (w3 a cI cZ nk pa fa nc fo th tg nt tb te tk tt nu ub ue uk ut re ro fu bl go ra rc ex tc es wy) ++ ([(ou, .inl (cJ, 1, .inr (.inl fz)))])) [1, 2, 3, 4, 5, 6, 7, 8, 9, 10, 11, 12, 13, 14, 15, 16, 17, 18, 19, 20, 21, 22, 23, 24, 0] rfl
    have hD := hD.sub (ws' := (w3 a cI cZ nk pa fa nc fo th tg nt tb te tk tt nu ub ue uk ut re ro fu bl go ra rc ex tc es wy) ++ ([(ou, .inl (cJ, 1, .inr (.inl fz)))])) [1, 2, 3, 4, 5, 6, 7, 8, 9, 10, 11, 12, 13, 14, 15, 16, 17, 18, 19, 20, 21, 22, 23, 24, 0] (by decide) rfl
    have hP : va_P (dC, dI) vwCl ((w3 a cI cZ nk pa fa nc fo th tg nt tb te tk tt nu ub ue uk ut re ro fu bl go ra rc ex tc es wy) ++ ([(ou, .inl (cJ, 1, .inr (.inl fz)))])) H := hP
    have hD : va_D A ((w3 a cI cZ nk pa fa nc fo th tg nt tb te tk tt nu ub ue uk ut re ro fu bl go ra rc ex tc es wy) ++ ([(ou, .inl (cJ, 1, .inr (.inl fz)))])) := hD
    refine vx_widen (k := 2) (n := 12) (by omega) (by omega) ?_
    rcases hXE with ⟨rfl, hp9⟩
    · skip
      refine vx_catch (own := RL) (name := "java/lang/IndexOutOfBoundsException") hown [] ⟨0, 10, 13, 13⟩ [] htab (fun z hz => absurd hz List.not_mem_nil) (by decide) (by decide) (hts (.classLink RL 13 "java/lang/IndexOutOfBoundsException") (by decide +kernel)) (va_Nw.use rfl (hzt.1 (.castable "java/lang/IndexOutOfBoundsException" "java/lang/IndexOutOfBoundsException") (by decide +kernel))) hc9 hv9 hcl ?_
      refine lv_astore (lv' := [(4, .ref q9), (0, .ref (a 0)), (1, .int x), (2, .int y), (3, .ref ou)]) hx hb dL_common_13 hl (by decide) rfl (fun ls hl => ?_)
      refine lv_iconst (v := 1) hx hb dL_common_15 (by decide) ?_
      rw [← hQ]
      have hP9 := hP
      have hD9 := hD
      exact W.iret (v := 1) hx hb hr (fun t ht hW => ⟨⟨1, fz, rfl, (Or.inr ⟨rfl, hp9, rfl⟩), (by rw [ht]; exact hP9), va_K.moved hW.alike hK, hD9⟩, hS.F ht⟩) hS.2.2 dL_common_16
  obtain ⟨hP1, -, hD1⟩ := hB
  rw [ht] at hP1
  obtain ⟨hP, hD⟩ := va_join (wr := [(ou, .inl (cJ, 1, .inr (.inl fz)))]) (w1 := w3 a cI cZ nk pa fa nc fo th tg nt tb te tk tt nu ub ue uk ut re ro fu bl go ra rc ex tc es wy) hP hD [0, 1, 2, 3, 4, 5, 6, 7, 8, 9, 10, 11, 12, 13, 14, 15, 16, 17, 18, 19, 20, 21, 22, 23] [24] rfl rfl (by decide) (by decide) hk1 hFc hP1 hD1
  generalize H1 = H at hP hS ⊢
  have hP := hP.sub (ws' := (w3 a cI cZ nk pa fa nc fo th tg nt tb te tk tt nu ub ue uk ut re ro fu bl go ra rc ex tc es wy) ++ ([(ou, .inl (cJ, 1, .inr (.inl fz)))])) [1, 2, 3, 4, 5, 6, 7, 8, 9, 10, 11, 12, 13, 14, 15, 16, 17, 18, 19, 20, 21, 22, 23, 24, 0] rfl
  have hD := hD.sub (ws' := (w3 a cI cZ nk pa fa nc fo th tg nt tb te tk tt nu ub ue uk ut re ro fu bl go ra rc ex tc es wy) ++ ([(ou, .inl (cJ, 1, .inr (.inl fz)))])) [1, 2, 3, 4, 5, 6, 7, 8, 9, 10, 11, 12, 13, 14, 15, 16, 17, 18, 19, 20, 21, 22, 23, 24, 0] (by decide) rfl
  have hP : va_P (dC, dI) vwCl ((w3 a cI cZ nk pa fa nc fo th tg nt tb te tk tt nu ub ue uk ut re ro fu bl go ra rc ex tc es wy) ++ ([(ou, .inl (cJ, 1, .inr (.inl fz)))])) H := hP
  have hD : va_D A ((w3 a cI cZ nk pa fa nc fo th tg nt tb te tk tt nu ub ue uk ut re ro fu bl go ra rc ex tc es wy) ++ ([(ou, .inl (cJ, 1, .inr (.inl fz)))])) := hD
  refine W.widen (k := 2) (n := 12) (by omega) (by omega) ?_
  obtain ⟨hw0, hw⟩ := hw
  subst hw0
  refine lv_i2l (v := (nI (lw up nk x.toNatClampNeg y.toNatClampNeg)).toInt64) hx hb dL_common_8 rfl ?_
  refine va_last hx hb hK hP hD hS 24 2 rfl rfl (vp_in_nI (n := 0) (by omega) (by decide)) dL_common_9 (fun H locs hP hD hS => ?_)
  have hP : va_P (dC, dI) vwCl ((w3 a cI cZ nk pa fa nc fo th tg nt tb te tk tt nu ub ue uk ut re ro fu bl go ra rc ex tc es wy) ++ ([(ou, .inl (cJ, 1, .inr (.inl (vp_updL fz 0 ((nI (lw up nk x.toNatClampNeg y.toNatClampNeg)).toInt64)))))])) H := hP
  have hD : va_D A ((w3 a cI cZ nk pa fa nc fo th tg nt tb te tk tt nu ub ue uk ut re ro fu bl go ra rc ex tc es wy) ++ ([(ou, .inl (cJ, 1, .inr (.inl (vp_updL fz 0 ((nI (lw up nk x.toNatClampNeg y.toNatClampNeg)).toInt64)))))])) := hD
  refine lv_goto (tgt := 17) hx hb dL_common_10 (by decide) ?_
  refine lv_iconst (v := 0) hx hb dL_common_17 (by decide) ?_
  rw [← hQ]
  have hP9 := hP
  have hD9 := hD
  exact W.iret (v := 0) hx hb hr (fun t ht hW => ⟨⟨0, vp_updL fz 0 ((nI (lw up nk x.toNatClampNeg y.toNatClampNeg)).toInt64), rfl, (Or.inl ⟨rfl, rfl, hw⟩), (by rw [ht]; exact hP9), va_K.moved hW.alike hK, hD9⟩, hS.F ht⟩) hS.2.2 dL_common_18

set_option maxHeartbeats 4000000 in
set_option maxRecDepth 100000 in
theorem c_L_step (l : Launch) (dC : Nat → ClassId) (dI : Nat → Nat → Nat) (cI cZ cJ : ClassId) (a : Nat → Nat) (nk : Nat) (pa : Nat → Int32) (fa : Nat → Int32) (nc : Nat) (fo : Nat → Int32) (th : Nat → Int32) (tg : Nat → Int32) (nt : Nat) (tb : Nat → Int32) (te : Nat → Int32) (tk : Nat → Int32) (tt : Nat → Int32) (nu : Nat) (ub : Nat → Int32) (ue : Nat → Int32) (uk : Nat → Int32) (ut : Nat → Int32) (re : Nat → Int32) (ro : Nat → Int32) (fu : Nat → Int32) (bl : Nat → Int32) (go : Nat → Int32) (ra : Nat → Int32) (rc : Nat) (ex : Int32) (tc : Int32) (es : Int32) (wy : Int64) (x : Int32) (T : Nat → Nat → Nat) (up : Nat → Nat → Bool) (ou : Nat) (fz : Nat → Int64) (sz : Nat) (hlt : l.stackTraces = false) (hg : g3 nk fa up nt tb te tk tt T) (hc : okC nk nc fo th tg) : Met l yL_step wsL_step ({ frames := 8, cells := 2, slots := 12, locals := 124 } : Room) (va_Pc [.ref (a 0), .int x, .ref ou] (zTl (dC, dI) [(cI, .int), (cZ, .boolean), (cJ, .long)] ((w3 a cI cZ nk pa fa nc fo th tg nt tb te tk tt nu ub ue uk ut re ro fu bl go ra rc ex tc es wy) ++ ([(ou, .inl (cJ, 1, .inr (.inl fz)))])) sz)) (va_Qi (fun (r : Int32) (u : Nat × (Nat → Int32) × (Nat → Int32) × (Nat → Int32) × (Nat → Int64)) => match u with | (v_c_3, v_cf, v_ct, v_cg, fz9) => ((r = 0 ∧ fz9 = vp_updL fz 0 ((nI nc).toInt64) ∧ v_c_3 = (nc + 1) ∧ v_cf = (upd fo nc 0) ∧ v_ct = (upd th nc x) ∧ v_cg = (upd tg nc (-1)) ∧ ((decide (x >>> (nI nk &&& 31) = 0) = true ∧ nc < 48) ∧ okC nk (nc + 1) (upd fo nc 0) (upd th nc x) (upd tg nc (-1))))) ∨ (r = 1 ∧ (decide (x >>> (nI nk &&& 31) = 0) = false) ∧ fz9 = fz ∧ v_c_3 = nc ∧ v_cf = fo ∧ v_ct = th ∧ v_cg = tg) ∨ (r = 2 ∧ (decide (x >>> (nI nk &&& 31) = 0) = true ∧ nc = 48) ∧ fz9 = fz ∧ v_c_3 = nc ∧ v_cf = fo ∧ v_ct = th ∧ v_cg = tg)) (fun u t => match u with | (v_c_3, v_cf, v_ct, v_cg, fz9) => zWo (dC, dI) [(cI, .int), (cZ, .boolean), (cJ, .long)] ((w3 a cI cZ nk pa fa v_c_3 v_cf v_ct v_cg nt tb te tk tt nu ub ue uk ut re ro fu bl go ra rc ex tc es wy) ++ ([(ou, .inl (cJ, 1, .inr (.inl fz9)))])) (va_A ((w3 a cI cZ nk pa fa nc fo th tg nt tb te tk tt nu ub ue uk ut re ro fu bl go ra rc ex tc es wy) ++ ([(ou, .inl (cJ, 1, .inr (.inl fz)))])) sz) t) (va_A ((w3 a cI cZ nk pa fa nc fo th tg nt tb te tk tt nu ub ue uk ut re ro fu bl go ra rc ex tc es wy) ++ ([(ou, .inl (cJ, 1, .inr (.inl fz)))])) sz)) 2 12 (va_A ((w3 a cI cZ nk pa fa nc fo th tg nt tb te tk tt nu ub ue uk ut re ro fu bl go ra rc ex tc es wy) ++ ([(ou, .inl (cJ, 1, .inr (.inl fz)))])) sz) := by
  refine va_MetW (cc := cL_step) (maxL := 4) (ret := (some .int)) (hh := [(0, 9, 12, 28), (0, 9, 15, 15)]) (by decide) rfl ?_
  intro p e s m args below meth c s₁ B hml hv
  obtain ⟨hav, ⟨⟨hsz, ⟨hP, hK, hn⟩, hD0⟩, hzt, hzu⟩, hzc⟩ := hv
  have hx := B.exec
  have hb := B.bytes
  have hr := B.returns
  have hts := atoms_spec (ws := wsL_step) B.pre
  have hown : s.vm.findClass RL = some m.cls := findClass_of_methodNamed B.named
  have hlocks := B.notSynchronized
  have htab : c.exceptionTable.toList = [⟨0, 9, 12, 28⟩, ⟨0, 9, 15, 15⟩] := vx_table (x := yL_step) B (hh := [(0, 9, 12, 28), (0, 9, 15, 15)]) (hts _ (by unfold wsL_step; exact List.mem_cons_self))
  subst hsz
  have hD := hD0.self (sz := s.heap.size)
  generalize hAe : (va_A ((w3 a cI cZ nk pa fa nc fo th tg nt tb te tk tt nu ub ue uk ut re ro fu bl go ra rc ex tc es wy) ++ ([(ou, .inl (cJ, 1, .inr (.inl fz)))])) s.heap.size) = A at hD hzu ⊢
  have hA : ∀ q : Nat, s.heap.size ≤ q → A q := fun q h => by rw [← hAe]; exact Or.inr h
  have hS : va_S A s.heap s.heap [] := va_S.rf
  generalize hQ : MQ below (va_Qi (fun (r : Int32) (u : Nat × (Nat → Int32) × (Nat → Int32) × (Nat → Int32) × (Nat → Int64)) => match u with | (v_c_3, v_cf, v_ct, v_cg, fz9) => ((r = 0 ∧ fz9 = vp_updL fz 0 ((nI nc).toInt64) ∧ v_c_3 = (nc + 1) ∧ v_cf = (upd fo nc 0) ∧ v_ct = (upd th nc x) ∧ v_cg = (upd tg nc (-1)) ∧ ((decide (x >>> (nI nk &&& 31) = 0) = true ∧ nc < 48) ∧ okC nk (nc + 1) (upd fo nc 0) (upd th nc x) (upd tg nc (-1))))) ∨ (r = 1 ∧ (decide (x >>> (nI nk &&& 31) = 0) = false) ∧ fz9 = fz ∧ v_c_3 = nc ∧ v_cf = fo ∧ v_ct = th ∧ v_cg = tg) ∨ (r = 2 ∧ (decide (x >>> (nI nk &&& 31) = 0) = true ∧ nc = 48) ∧ fz9 = fz ∧ v_c_3 = nc ∧ v_cf = fo ∧ v_ct = th ∧ v_cg = tg)) (fun u t => match u with | (v_c_3, v_cf, v_ct, v_cg, fz9) => zWo (dC, dI) [(cI, .int), (cZ, .boolean), (cJ, .long)] ((w3 a cI cZ nk pa fa v_c_3 v_cf v_ct v_cg nt tb te tk tt nu ub ue uk ut re ro fu bl go ra rc ex tc es wy) ++ ([(ou, .inl (cJ, 1, .inr (.inl fz9)))])) A t) A) args s 2 12 A = Q
  refine W.eq (g2 := entryFrame m ([.ref (a 0), .int x, .ref ou] : List Value).toArray 4) (by rw [hav]) ?_
  have hl := lv_entry ([.ref (a 0), .int x, .ref ou]) (n := 4) (Nat.le_of_ble_eq_true rfl)
  rw [lg_entry_eq]
  generalize (lg_sl ([.ref (a 0), .int x, .ref ou]) ++ List.replicate (4 - (lg_sl ([.ref (a 0), .int x, .ref ou])).length) Slot.unset).toArray = ls at hl ⊢
  have hl : lv_has ls 4 [(0, .ref (a 0)), (1, .int x), (2, .ref ou)] := hl
  obtain ⟨H, hH⟩ : ∃ H, H = s.heap := ⟨_, rfl⟩
  obtain ⟨locs, hlo⟩ : ∃ q : List Loc, q = [] := ⟨_, rfl⟩
  have hP : va_P (dC, dI) vwCl ((w3 a cI cZ nk pa fa nc fo th tg nt tb te tk tt nu ub ue uk ut re ro fu bl go ra rc ex tc es wy) ++ ([(ou, .inl (cJ, 1, .inr (.inl fz)))])) H := by rw [hH]; exact hP
  have hS : va_S A s.heap H locs := by rw [hH, hlo]; exact hS
  refine zz_hl hH hlo ?_
  refine lv_aload_n hx hb dL_step_0 rfl (lv_at hl 2 rfl) ?_
  refine lv_iconst (v := 0) hx hb dL_step_1 (by decide) ?_
  refine lv_aload_n hx hb dL_step_2 rfl (lv_at hl 0 rfl) ?_
  refine lv_iload_n hx hb dL_step_3 rfl (lv_at hl 1 rfl) ?_
  have hPc := hP.sub (ws' := w3 a cI cZ nk pa fa nc fo th tg nt tb te tk tt nu ub ue uk ut re ro fu bl go ra rc ex tc es wy) [0, 1, 2, 3, 4, 5, 6, 7, 8, 9, 10, 11, 12, 13, 14, 15, 16, 17, 18, 19, 20, 21, 22, 23] rfl
  have hDc := hD.sub (ws' := w3 a cI cZ nk pa fa nc fo th tg nt tb te tk tt nu ub ue uk ut re ro fu bl go ra rc ex tc es wy) [0, 1, 2, 3, 4, 5, 6, 7, 8, 9, 10, 11, 12, 13, 14, 15, 16, 17, 18, 19, 20, 21, 22, 23] (by decide) rfl
  have hFc := va_free (wc := w3 a cI cZ nk pa fa nc fo th tg nt tb te tk tt nu ub ue uk ut re ro fu bl go ra rc ex tc es wy) hD hS hA [0, 1, 2, 3, 4, 5, 6, 7, 8, 9, 10, 11, 12, 13, 14, 15, 16, 17, 18, 19, 20, 21, 22, 23] rfl
  refine vx_calli (vx_runV (As := [.int x]) (rest := [.int 0, .ref ou]) ⟨hx, hb, hml, hown, hts⟩ (c_X3_step l dC dI cI cZ cJ a nk pa fa nc fo th tg nt tb te tk tt nu ub ue uk ut re ro fu bl go ra rc ex tc es wy x T up H.size hlt (hg) (hc)) (cwV 1 hts gL_step_X3_step rfl rfl rfl (by decide +kernel) ⟨Nat.le_of_ble_eq_true rfl, Nat.le_of_ble_eq_true rfl⟩) ⟨zTr_blind, va_recv hK hPc (ci := 3) (q0 := 0) rfl rfl, zTr_at hPc hK hn (hDc.weaken (fun _ _ _ _ => trivial)) hzt hzu hS hFc⟩ rfl rfl hl.1 rfl (lv_room (Nat.le_of_ble_eq_true rfl)) dL_step_4 ⟨Nat.le_of_ble_eq_true rfl, Nat.le_of_ble_eq_true rfl⟩) hS (fun q _ h => hFc q h) hFc (fun q _ h => hFc q h) (fun E ce q9 u_9 t H1 locs ht hvm hpx hBX hz1 hk1 hS hc9 hv9 hcl => ?_) (fun r_1 u_9 t H1 locs ht hvm hw hB hz1 hk1 hS => ?_)
  · skip
    obtain ⟨hXE, hP1, -, hD1⟩ := hBX
    rw [ht] at hP1
    obtain ⟨hP, hD⟩ := va_join (wr := [(ou, .inl (cJ, 1, .inr (.inl fz)))]) (w1 := w3 a cI cZ nk pa fa nc fo th tg nt tb te tk tt nu ub ue uk ut re ro fu bl go ra rc ex tc es wy) hP hD [0, 1, 2, 3, 4, 5, 6, 7, 8, 9, 10, 11, 12, 13, 14, 15, 16, 17, 18, 19, 20, 21, 22, 23] [24] rfl rfl (by decide) (by decide) hk1 hFc hP1 hD1
    generalize H1 = H at hP hS hc9 ⊢
    have hP := hP.sub (ws' := (w3 a cI cZ nk pa fa nc fo th tg nt tb te tk tt nu ub ue uk ut re ro fu bl go ra rc ex tc es wy) ++ ([(ou, .inl (cJ, 1, .inr (.inl fz)))])) [1, 2, 3, 4, 5, 6, 7, 8, 9, 10, 11, 12, 13, 14, 15, 16, 17, 18, 19, 20, 21, 22, 23, 24, 0] rfl
    have hD := hD.sub (ws' := (w3 a cI cZ nk pa fa nc fo th tg nt tb te tk tt nu ub ue uk ut re ro fu bl go ra rc ex tc es wy) ++ ([(ou, .inl (cJ, 1, .inr (.inl fz)))])) [1, 2, 3, 4, 5, 6, 7, 8, 9, 10, 11, 12, 13, 14, 15, 16, 17, 18, 19, 20, 21, 22, 23, 24, 0] (by decide) rfl
    have hP : va_P (dC, dI) vwCl ((w3 a cI cZ nk pa fa nc fo th tg nt tb te tk tt nu ub ue uk ut re ro fu bl go ra rc ex tc es wy) ++ ([(ou, .inl (cJ, 1, .inr (.inl fz)))])) H := hP
    have hD : va_D A ((w3 a cI cZ nk pa fa nc fo th tg nt tb te tk tt nu ub ue uk ut re ro fu bl go ra rc ex tc es wy) ++ ([(ou, .inl (cJ, 1, .inr (.inl fz)))])) := hD
    refine vx_widen (k := 2) (n := 12) (by omega) (by omega) ?_
    rcases hXE with ⟨rfl, hp9⟩ | ⟨rfl, hp9⟩
    · skip
      refine vx_catch (own := RL) (name := "java/lang/IllegalArgumentException") hown [] ⟨0, 9, 12, 28⟩ [⟨0, 9, 15, 15⟩] htab (fun z hz => absurd hz List.not_mem_nil) (by decide) (by decide) (hts (.classLink RL 28 "java/lang/IllegalArgumentException") (by decide +kernel)) (va_Nw.use rfl (hzt.1 (.castable "java/lang/IllegalArgumentException" "java/lang/IllegalArgumentException") (by decide +kernel))) hc9 hv9 hcl ?_
      refine lv_astore_n (lv' := [(3, .ref q9), (0, .ref (a 0)), (1, .int x), (2, .ref ou)]) hx hb dL_step_12 rfl hl (by decide) rfl (fun ls hl => ?_)
      refine lv_iconst (v := 1) hx hb dL_step_13 (by decide) ?_
      rw [← hQ]
      have hP9 := hP
      have hD9 := hD
      exact W.iret (v := 1) hx hb hr (fun t ht hW => ⟨⟨1, (nc, fo, th, tg, fz), rfl, (Or.inr (Or.inl ⟨rfl, hp9, rfl, rfl, rfl, rfl, rfl⟩)), (by rw [ht]; exact hP9), va_K.moved hW.alike hK, hD9⟩, hS.F ht⟩) hS.2.2 dL_step_14
    · skip
      refine vx_catch (own := RL) (name := "java/lang/IllegalStateException") hown [⟨0, 9, 12, 28⟩] ⟨0, 9, 15, 15⟩ [] htab (fun z hz => by rcases List.mem_singleton.mp hz with rfl; exact Or.inr ⟨by decide, "java/lang/IllegalArgumentException", hts (.classLink RL 28 "java/lang/IllegalArgumentException") (by decide +kernel), hzc.2.1⟩) (by decide) (by decide) (hts (.classLink RL 15 "java/lang/IllegalStateException") (by decide +kernel)) (va_Nw.use rfl (hzt.1 (.castable "java/lang/IllegalStateException" "java/lang/IllegalStateException") (by decide +kernel))) hc9 hv9 hcl ?_
      refine lv_astore_n (lv' := [(3, .ref q9), (0, .ref (a 0)), (1, .int x), (2, .ref ou)]) hx hb dL_step_15 rfl hl (by decide) rfl (fun ls hl => ?_)
      refine lv_iconst (v := 2) hx hb dL_step_16 (by decide) ?_
      rw [← hQ]
      have hP9 := hP
      have hD9 := hD
      exact W.iret (v := 2) hx hb hr (fun t ht hW => ⟨⟨2, (nc, fo, th, tg, fz), rfl, (Or.inr (Or.inr ⟨rfl, hp9, rfl, rfl, rfl, rfl, rfl⟩)), (by rw [ht]; exact hP9), va_K.moved hW.alike hK, hD9⟩, hS.F ht⟩) hS.2.2 dL_step_17
  obtain ⟨hP1, -, hD1⟩ := hB
  rw [ht] at hP1
  obtain ⟨hP, hD⟩ := va_join (wr := [(ou, .inl (cJ, 1, .inr (.inl fz)))]) (w1 := w3 a cI cZ nk pa fa (nc + 1) (upd fo nc 0) (upd th nc x) (upd tg nc (-1)) nt tb te tk tt nu ub ue uk ut re ro fu bl go ra rc ex tc es wy) hP hD [0, 1, 2, 3, 4, 5, 6, 7, 8, 9, 10, 11, 12, 13, 14, 15, 16, 17, 18, 19, 20, 21, 22, 23] [24] rfl rfl (by decide) (by decide) hk1 hFc hP1 hD1
  generalize H1 = H at hP hS ⊢
  have hP := hP.sub (ws' := (w3 a cI cZ nk pa fa (nc + 1) (upd fo nc 0) (upd th nc x) (upd tg nc (-1)) nt tb te tk tt nu ub ue uk ut re ro fu bl go ra rc ex tc es wy) ++ ([(ou, .inl (cJ, 1, .inr (.inl fz)))])) [1, 2, 3, 4, 5, 6, 7, 8, 9, 10, 11, 12, 13, 14, 15, 16, 17, 18, 19, 20, 21, 22, 23, 24, 0] rfl
  have hD := hD.sub (ws' := (w3 a cI cZ nk pa fa (nc + 1) (upd fo nc 0) (upd th nc x) (upd tg nc (-1)) nt tb te tk tt nu ub ue uk ut re ro fu bl go ra rc ex tc es wy) ++ ([(ou, .inl (cJ, 1, .inr (.inl fz)))])) [1, 2, 3, 4, 5, 6, 7, 8, 9, 10, 11, 12, 13, 14, 15, 16, 17, 18, 19, 20, 21, 22, 23, 24, 0] (by decide) rfl
  have hP : va_P (dC, dI) vwCl ((w3 a cI cZ nk pa fa (nc + 1) (upd fo nc 0) (upd th nc x) (upd tg nc (-1)) nt tb te tk tt nu ub ue uk ut re ro fu bl go ra rc ex tc es wy) ++ ([(ou, .inl (cJ, 1, .inr (.inl fz)))])) H := hP
  have hD : va_D A ((w3 a cI cZ nk pa fa (nc + 1) (upd fo nc 0) (upd th nc x) (upd tg nc (-1)) nt tb te tk tt nu ub ue uk ut re ro fu bl go ra rc ex tc es wy) ++ ([(ou, .inl (cJ, 1, .inr (.inl fz)))])) := hD
  refine W.widen (k := 2) (n := 12) (by omega) (by omega) ?_
  obtain ⟨hw0, hw⟩ := hw
  subst hw0
  refine lv_i2l (v := (nI nc).toInt64) hx hb dL_step_7 rfl ?_
  refine va_last hx hb hK hP hD hS 24 2 rfl rfl (vp_in_nI (n := 0) (by omega) (by decide)) dL_step_8 (fun H locs hP hD hS => ?_)
  have hP : va_P (dC, dI) vwCl ((w3 a cI cZ nk pa fa (nc + 1) (upd fo nc 0) (upd th nc x) (upd tg nc (-1)) nt tb te tk tt nu ub ue uk ut re ro fu bl go ra rc ex tc es wy) ++ ([(ou, .inl (cJ, 1, .inr (.inl (vp_updL fz 0 ((nI nc).toInt64)))))])) H := hP
  have hD : va_D A ((w3 a cI cZ nk pa fa (nc + 1) (upd fo nc 0) (upd th nc x) (upd tg nc (-1)) nt tb te tk tt nu ub ue uk ut re ro fu bl go ra rc ex tc es wy) ++ ([(ou, .inl (cJ, 1, .inr (.inl (vp_updL fz 0 ((nI nc).toInt64)))))])) := hD
  refine lv_goto (tgt := 18) hx hb dL_step_9 (by decide) ?_
  refine lv_iconst (v := 0) hx hb dL_step_18 (by decide) ?_
  rw [← hQ]
  have hP9 := hP
  have hD9 := hD
  exact W.iret (v := 0) hx hb hr (fun t ht hW => ⟨⟨0, (nc + 1, upd fo nc 0, upd th nc x, upd tg nc (-1), vp_updL fz 0 ((nI nc).toInt64)), rfl, (Or.inl ⟨rfl, rfl, rfl, rfl, rfl, rfl, hw⟩), (by rw [ht]; exact hP9), va_K.moved hW.alike hK, hD9⟩, hS.F ht⟩) hS.2.2 dL_step_19

set_option maxHeartbeats 4000000 in
set_option maxRecDepth 100000 in
theorem c_L_jump (l : Launch) (dC : Nat → ClassId) (dI : Nat → Nat → Nat) (cI cZ cJ : ClassId) (a : Nat → Nat) (nk : Nat) (pa : Nat → Int32) (fa : Nat → Int32) (nc : Nat) (fo : Nat → Int32) (th : Nat → Int32) (tg : Nat → Int32) (nt : Nat) (tb : Nat → Int32) (te : Nat → Int32) (tk : Nat → Int32) (tt : Nat → Int32) (nu : Nat) (ub : Nat → Int32) (ue : Nat → Int32) (uk : Nat → Int32) (ut : Nat → Int32) (re : Nat → Int32) (ro : Nat → Int32) (fu : Nat → Int32) (bl : Nat → Int32) (go : Nat → Int32) (ra : Nat → Int32) (rc : Nat) (ex : Int32) (tc : Int32) (es : Int32) (wy : Int64) (x : Int32) (T : Nat → Nat → Nat) (up : Nat → Nat → Bool) (ou : Nat) (fz : Nat → Int64) (sz : Nat) (hlt : l.stackTraces = false) (hg : g3 nk fa up nt tb te tk tt T) (hc : okC nk nc fo th tg) : Met l yL_jump wsL_jump ({ frames := 8, cells := 2, slots := 12, locals := 124 } : Room) (va_Pc [.ref (a 0), .int x, .ref ou] (zTl (dC, dI) [(cI, .int), (cZ, .boolean), (cJ, .long)] ((w3 a cI cZ nk pa fa nc fo th tg nt tb te tk tt nu ub ue uk ut re ro fu bl go ra rc ex tc es wy) ++ ([(ou, .inl (cJ, 1, .inr (.inl fz)))])) sz)) (va_Qi (fun (r : Int32) (u : Nat × (Nat → Int32) × (Nat → Int32) × (Nat → Int32) × (Nat → Int64)) => match u with | (v_c_3, v_cf, v_ct, v_cg, fz9) => ((r = 0 ∧ fz9 = vp_updL fz 0 ((nI nc).toInt64) ∧ v_c_3 = (nc + 1) ∧ v_cf = (upd fo nc 1) ∧ v_ct = (upd th nc 0) ∧ v_cg = (upd tg nc x) ∧ ((hasI x 48 = true ∧ nc < 48) ∧ okC nk (nc + 1) (upd fo nc 1) (upd th nc 0) (upd tg nc x)))) ∨ (r = 1 ∧ (hasI x 48 = false) ∧ fz9 = fz ∧ v_c_3 = nc ∧ v_cf = fo ∧ v_ct = th ∧ v_cg = tg) ∨ (r = 2 ∧ (hasI x 48 = true ∧ nc = 48) ∧ fz9 = fz ∧ v_c_3 = nc ∧ v_cf = fo ∧ v_ct = th ∧ v_cg = tg)) (fun u t => match u with | (v_c_3, v_cf, v_ct, v_cg, fz9) => zWo (dC, dI) [(cI, .int), (cZ, .boolean), (cJ, .long)] ((w3 a cI cZ nk pa fa v_c_3 v_cf v_ct v_cg nt tb te tk tt nu ub ue uk ut re ro fu bl go ra rc ex tc es wy) ++ ([(ou, .inl (cJ, 1, .inr (.inl fz9)))])) (va_A ((w3 a cI cZ nk pa fa nc fo th tg nt tb te tk tt nu ub ue uk ut re ro fu bl go ra rc ex tc es wy) ++ ([(ou, .inl (cJ, 1, .inr (.inl fz)))])) sz) t) (va_A ((w3 a cI cZ nk pa fa nc fo th tg nt tb te tk tt nu ub ue uk ut re ro fu bl go ra rc ex tc es wy) ++ ([(ou, .inl (cJ, 1, .inr (.inl fz)))])) sz)) 2 12 (va_A ((w3 a cI cZ nk pa fa nc fo th tg nt tb te tk tt nu ub ue uk ut re ro fu bl go ra rc ex tc es wy) ++ ([(ou, .inl (cJ, 1, .inr (.inl fz)))])) sz) := by
  refine va_MetW (cc := cL_jump) (maxL := 4) (ret := (some .int)) (hh := [(0, 9, 12, 28), (0, 9, 15, 15)]) (by decide) rfl ?_
  intro p e s m args below meth c s₁ B hml hv
  obtain ⟨hav, ⟨⟨hsz, ⟨hP, hK, hn⟩, hD0⟩, hzt, hzu⟩, hzc⟩ := hv
  have hx := B.exec
  have hb := B.bytes
  have hr := B.returns
  have hts := atoms_spec (ws := wsL_jump) B.pre
  have hown : s.vm.findClass RL = some m.cls := findClass_of_methodNamed B.named
  have hlocks := B.notSynchronized
  have htab : c.exceptionTable.toList = [⟨0, 9, 12, 28⟩, ⟨0, 9, 15, 15⟩] := vx_table (x := yL_jump) B (hh := [(0, 9, 12, 28), (0, 9, 15, 15)]) (hts _ (by unfold wsL_jump; exact List.mem_cons_self))
  subst hsz
  have hD := hD0.self (sz := s.heap.size)
  generalize hAe : (va_A ((w3 a cI cZ nk pa fa nc fo th tg nt tb te tk tt nu ub ue uk ut re ro fu bl go ra rc ex tc es wy) ++ ([(ou, .inl (cJ, 1, .inr (.inl fz)))])) s.heap.size) = A at hD hzu ⊢
  have hA : ∀ q : Nat, s.heap.size ≤ q → A q := fun q h => by rw [← hAe]; exact Or.inr h
  have hS : va_S A s.heap s.heap [] := va_S.rf
  generalize hQ : MQ below (va_Qi (fun (r : Int32) (u : Nat × (Nat → Int32) × (Nat → Int32) × (Nat → Int32) × (Nat → Int64)) => match u with | (v_c_3, v_cf, v_ct, v_cg, fz9) => ((r = 0 ∧ fz9 = vp_updL fz 0 ((nI nc).toInt64) ∧ v_c_3 = (nc + 1) ∧ v_cf = (upd fo nc 1) ∧ v_ct = (upd th nc 0) ∧ v_cg = (upd tg nc x) ∧ ((hasI x 48 = true ∧ nc < 48) ∧ okC nk (nc + 1) (upd fo nc 1) (upd th nc 0) (upd tg nc x)))) ∨ (r = 1 ∧ (hasI x 48 = false) ∧ fz9 = fz ∧ v_c_3 = nc ∧ v_cf = fo ∧ v_ct = th ∧ v_cg = tg) ∨ (r = 2 ∧ (hasI x 48 = true ∧ nc = 48) ∧ fz9 = fz ∧ v_c_3 = nc ∧ v_cf = fo ∧ v_ct = th ∧ v_cg = tg)) (fun u t => match u with | (v_c_3, v_cf, v_ct, v_cg, fz9) => zWo (dC, dI) [(cI, .int), (cZ, .boolean), (cJ, .long)] ((w3 a cI cZ nk pa fa v_c_3 v_cf v_ct v_cg nt tb te tk tt nu ub ue uk ut re ro fu bl go ra rc ex tc es wy) ++ ([(ou, .inl (cJ, 1, .inr (.inl fz9)))])) A t) A) args s 2 12 A = Q
  refine W.eq (g2 := entryFrame m ([.ref (a 0), .int x, .ref ou] : List Value).toArray 4) (by rw [hav]) ?_
  have hl := lv_entry ([.ref (a 0), .int x, .ref ou]) (n := 4) (Nat.le_of_ble_eq_true rfl)
  rw [lg_entry_eq]
  generalize (lg_sl ([.ref (a 0), .int x, .ref ou]) ++ List.replicate (4 - (lg_sl ([.ref (a 0), .int x, .ref ou])).length) Slot.unset).toArray = ls at hl ⊢
  have hl : lv_has ls 4 [(0, .ref (a 0)), (1, .int x), (2, .ref ou)] := hl
  obtain ⟨H, hH⟩ : ∃ H, H = s.heap := ⟨_, rfl⟩
  obtain ⟨locs, hlo⟩ : ∃ q : List Loc, q = [] := ⟨_, rfl⟩
  have hP : va_P (dC, dI) vwCl ((w3 a cI cZ nk pa fa nc fo th tg nt tb te tk tt nu ub ue uk ut re ro fu bl go ra rc ex tc es wy) ++ ([(ou, .inl (cJ, 1, .inr (.inl fz)))])) H := by rw [hH]; exact hP
  have hS : va_S A s.heap H locs := by rw [hH, hlo]; exact hS
  refine zz_hl hH hlo ?_
  refine lv_aload_n hx hb dL_jump_0 rfl (lv_at hl 2 rfl) ?_
  refine lv_iconst (v := 0) hx hb dL_jump_1 (by decide) ?_
  refine lv_aload_n hx hb dL_jump_2 rfl (lv_at hl 0 rfl) ?_
  refine lv_iload_n hx hb dL_jump_3 rfl (lv_at hl 1 rfl) ?_
  have hPc := hP.sub (ws' := w3 a cI cZ nk pa fa nc fo th tg nt tb te tk tt nu ub ue uk ut re ro fu bl go ra rc ex tc es wy) [0, 1, 2, 3, 4, 5, 6, 7, 8, 9, 10, 11, 12, 13, 14, 15, 16, 17, 18, 19, 20, 21, 22, 23] rfl
  have hDc := hD.sub (ws' := w3 a cI cZ nk pa fa nc fo th tg nt tb te tk tt nu ub ue uk ut re ro fu bl go ra rc ex tc es wy) [0, 1, 2, 3, 4, 5, 6, 7, 8, 9, 10, 11, 12, 13, 14, 15, 16, 17, 18, 19, 20, 21, 22, 23] (by decide) rfl
  have hFc := va_free (wc := w3 a cI cZ nk pa fa nc fo th tg nt tb te tk tt nu ub ue uk ut re ro fu bl go ra rc ex tc es wy) hD hS hA [0, 1, 2, 3, 4, 5, 6, 7, 8, 9, 10, 11, 12, 13, 14, 15, 16, 17, 18, 19, 20, 21, 22, 23] rfl
  refine vx_calli (vx_runV (As := [.int x]) (rest := [.int 0, .ref ou]) ⟨hx, hb, hml, hown, hts⟩ (c_X3_jump l dC dI cI cZ cJ a nk pa fa nc fo th tg nt tb te tk tt nu ub ue uk ut re ro fu bl go ra rc ex tc es wy x T up H.size hlt (hg) (hc)) (cwV 1 hts gL_jump_X3_jump rfl rfl rfl (by decide +kernel) ⟨Nat.le_of_ble_eq_true rfl, Nat.le_of_ble_eq_true rfl⟩) ⟨zTr_blind, va_recv hK hPc (ci := 3) (q0 := 0) rfl rfl, zTr_at hPc hK hn (hDc.weaken (fun _ _ _ _ => trivial)) hzt hzu hS hFc⟩ rfl rfl hl.1 rfl (lv_room (Nat.le_of_ble_eq_true rfl)) dL_jump_4 ⟨Nat.le_of_ble_eq_true rfl, Nat.le_of_ble_eq_true rfl⟩) hS (fun q _ h => hFc q h) hFc (fun q _ h => hFc q h) (fun E ce q9 u_9 t H1 locs ht hvm hpx hBX hz1 hk1 hS hc9 hv9 hcl => ?_) (fun r_1 u_9 t H1 locs ht hvm hw hB hz1 hk1 hS => ?_)
  · skip
    obtain ⟨hXE, hP1, -, hD1⟩ := hBX
    rw [ht] at hP1
    obtain ⟨hP, hD⟩ := va_join (wr := [(ou, .inl (cJ, 1, .inr (.inl fz)))]) (w1 := w3 a cI cZ nk pa fa nc fo th tg nt tb te tk tt nu ub ue uk ut re ro fu bl go ra rc ex tc es wy) hP hD [0, 1, 2, 3, 4, 5, 6, 7, 8, 9, 10, 11, 12, 13, 14, 15, 16, 17, 18, 19, 20, 21, 22, 23] [24] rfl rfl (by decide) (by decide) hk1 hFc hP1 hD1
    generalize H1 = H at hP hS hc9 ⊢
    have hP := hP.sub (ws' := (w3 a cI cZ nk pa fa nc fo th tg nt tb te tk tt nu ub ue uk ut re ro fu bl go ra rc ex tc es wy) ++ ([(ou, .inl (cJ, 1, .inr (.inl fz)))])) [1, 2, 3, 4, 5, 6, 7, 8, 9, 10, 11, 12, 13, 14, 15, 16, 17, 18, 19, 20, 21, 22, 23, 24, 0] rfl
    have hD := hD.sub (ws' := (w3 a cI cZ nk pa fa nc fo th tg nt tb te tk tt nu ub ue uk ut re ro fu bl go ra rc ex tc es wy) ++ ([(ou, .inl (cJ, 1, .inr (.inl fz)))])) [1, 2, 3, 4, 5, 6, 7, 8, 9, 10, 11, 12, 13, 14, 15, 16, 17, 18, 19, 20, 21, 22, 23, 24, 0] (by decide) rfl
    have hP : va_P (dC, dI) vwCl ((w3 a cI cZ nk pa fa nc fo th tg nt tb te tk tt nu ub ue uk ut re ro fu bl go ra rc ex tc es wy) ++ ([(ou, .inl (cJ, 1, .inr (.inl fz)))])) H := hP
    have hD : va_D A ((w3 a cI cZ nk pa fa nc fo th tg nt tb te tk tt nu ub ue uk ut re ro fu bl go ra rc ex tc es wy) ++ ([(ou, .inl (cJ, 1, .inr (.inl fz)))])) := hD
    refine vx_widen (k := 2) (n := 12) (by omega) (by omega) ?_
    rcases hXE with ⟨rfl, hp9⟩ | ⟨rfl, hp9⟩
    · skip
      refine vx_catch (own := RL) (name := "java/lang/IllegalArgumentException") hown [] ⟨0, 9, 12, 28⟩ [⟨0, 9, 15, 15⟩] htab (fun z hz => absurd hz List.not_mem_nil) (by decide) (by decide) (hts (.classLink RL 28 "java/lang/IllegalArgumentException") (by decide +kernel)) (va_Nw.use rfl (hzt.1 (.castable "java/lang/IllegalArgumentException" "java/lang/IllegalArgumentException") (by decide +kernel))) hc9 hv9 hcl ?_
      refine lv_astore_n (lv' := [(3, .ref q9), (0, .ref (a 0)), (1, .int x), (2, .ref ou)]) hx hb dL_jump_12 rfl hl (by decide) rfl (fun ls hl => ?_)
      refine lv_iconst (v := 1) hx hb dL_jump_13 (by decide) ?_
      rw [← hQ]
      have hP9 := hP
      have hD9 := hD
      exact W.iret (v := 1) hx hb hr (fun t ht hW => ⟨⟨1, (nc, fo, th, tg, fz), rfl, (Or.inr (Or.inl ⟨rfl, hp9, rfl, rfl, rfl, rfl, rfl⟩)), (by rw [ht]; exact hP9), va_K.moved hW.alike hK, hD9⟩, hS.F ht⟩) hS.2.2 dL_jump_14
    · skip
      refine vx_catch (own := RL) (name := "java/lang/IllegalStateException") hown [⟨0, 9, 12, 28⟩] ⟨0, 9, 15, 15⟩ [] htab (fun z hz => by rcases List.mem_singleton.mp hz with rfl; exact Or.inr ⟨by decide, "java/lang/IllegalArgumentException", hts (.classLink RL 28 "java/lang/IllegalArgumentException") (by decide +kernel), hzc.2.1⟩) (by decide) (by decide) (hts (.classLink RL 15 "java/lang/IllegalStateException") (by decide +kernel)) (va_Nw.use rfl (hzt.1 (.castable "java/lang/IllegalStateException" "java/lang/IllegalStateException") (by decide +kernel))) hc9 hv9 hcl ?_
      refine lv_astore_n (lv' := [(3, .ref q9), (0, .ref (a 0)), (1, .int x), (2, .ref ou)]) hx hb dL_jump_15 rfl hl (by decide) rfl (fun ls hl => ?_)
      refine lv_iconst (v := 2) hx hb dL_jump_16 (by decide) ?_
      rw [← hQ]
      have hP9 := hP
      have hD9 := hD
      exact W.iret (v := 2) hx hb hr (fun t ht hW => ⟨⟨2, (nc, fo, th, tg, fz), rfl, (Or.inr (Or.inr ⟨rfl, hp9, rfl, rfl, rfl, rfl, rfl⟩)), (by rw [ht]; exact hP9), va_K.moved hW.alike hK, hD9⟩, hS.F ht⟩) hS.2.2 dL_jump_17
  obtain ⟨hP1, -, hD1⟩ := hB
  rw [ht] at hP1
  obtain ⟨hP, hD⟩ := va_join (wr := [(ou, .inl (cJ, 1, .inr (.inl fz)))]) (w1 := w3 a cI cZ nk pa fa (nc + 1) (upd fo nc 1) (upd th nc 0) (upd tg nc x) nt tb te tk tt nu ub ue uk ut re ro fu bl go ra rc ex tc es wy) hP hD [0, 1, 2, 3, 4, 5, 6, 7, 8, 9, 10, 11, 12, 13, 14, 15, 16, 17, 18, 19, 20, 21, 22, 23] [24] rfl rfl (by decide) (by decide) hk1 hFc hP1 hD1
  generalize H1 = H at hP hS ⊢
  have hP := hP.sub (ws' := (w3 a cI cZ nk pa fa (nc + 1) (upd fo nc 1) (upd th nc 0) (upd tg nc x) nt tb te tk tt nu ub ue uk ut re ro fu bl go ra rc ex tc es wy) ++ ([(ou, .inl (cJ, 1, .inr (.inl fz)))])) [1, 2, 3, 4, 5, 6, 7, 8, 9, 10, 11, 12, 13, 14, 15, 16, 17, 18, 19, 20, 21, 22, 23, 24, 0] rfl
  have hD := hD.sub (ws' := (w3 a cI cZ nk pa fa (nc + 1) (upd fo nc 1) (upd th nc 0) (upd tg nc x) nt tb te tk tt nu ub ue uk ut re ro fu bl go ra rc ex tc es wy) ++ ([(ou, .inl (cJ, 1, .inr (.inl fz)))])) [1, 2, 3, 4, 5, 6, 7, 8, 9, 10, 11, 12, 13, 14, 15, 16, 17, 18, 19, 20, 21, 22, 23, 24, 0] (by decide) rfl
  have hP : va_P (dC, dI) vwCl ((w3 a cI cZ nk pa fa (nc + 1) (upd fo nc 1) (upd th nc 0) (upd tg nc x) nt tb te tk tt nu ub ue uk ut re ro fu bl go ra rc ex tc es wy) ++ ([(ou, .inl (cJ, 1, .inr (.inl fz)))])) H := hP
  have hD : va_D A ((w3 a cI cZ nk pa fa (nc + 1) (upd fo nc 1) (upd th nc 0) (upd tg nc x) nt tb te tk tt nu ub ue uk ut re ro fu bl go ra rc ex tc es wy) ++ ([(ou, .inl (cJ, 1, .inr (.inl fz)))])) := hD
  refine W.widen (k := 2) (n := 12) (by omega) (by omega) ?_
  obtain ⟨hw0, hw⟩ := hw
  subst hw0
  refine lv_i2l (v := (nI nc).toInt64) hx hb dL_jump_7 rfl ?_
  refine va_last hx hb hK hP hD hS 24 2 rfl rfl (vp_in_nI (n := 0) (by omega) (by decide)) dL_jump_8 (fun H locs hP hD hS => ?_)
  have hP : va_P (dC, dI) vwCl ((w3 a cI cZ nk pa fa (nc + 1) (upd fo nc 1) (upd th nc 0) (upd tg nc x) nt tb te tk tt nu ub ue uk ut re ro fu bl go ra rc ex tc es wy) ++ ([(ou, .inl (cJ, 1, .inr (.inl (vp_updL fz 0 ((nI nc).toInt64)))))])) H := hP
  have hD : va_D A ((w3 a cI cZ nk pa fa (nc + 1) (upd fo nc 1) (upd th nc 0) (upd tg nc x) nt tb te tk tt nu ub ue uk ut re ro fu bl go ra rc ex tc es wy) ++ ([(ou, .inl (cJ, 1, .inr (.inl (vp_updL fz 0 ((nI nc).toInt64)))))])) := hD
  refine lv_goto (tgt := 18) hx hb dL_jump_9 (by decide) ?_
  refine lv_iconst (v := 0) hx hb dL_jump_18 (by decide) ?_
  rw [← hQ]
  have hP9 := hP
  have hD9 := hD
  exact W.iret (v := 0) hx hb hr (fun t ht hW => ⟨⟨0, (nc + 1, upd fo nc 1, upd th nc 0, upd tg nc x, vp_updL fz 0 ((nI nc).toInt64)), rfl, (Or.inl ⟨rfl, rfl, rfl, rfl, rfl, rfl, hw⟩), (by rw [ht]; exact hP9), va_K.moved hW.alike hK, hD9⟩, hS.F ht⟩) hS.2.2 dL_jump_19

set_option maxHeartbeats 4000000 in
set_option maxRecDepth 100000 in
theorem c_L_branch (l : Launch) (dC : Nat → ClassId) (dI : Nat → Nat → Nat) (cI cZ cJ : ClassId) (a : Nat → Nat) (nk : Nat) (pa : Nat → Int32) (fa : Nat → Int32) (nc : Nat) (fo : Nat → Int32) (th : Nat → Int32) (tg : Nat → Int32) (nt : Nat) (tb : Nat → Int32) (te : Nat → Int32) (tk : Nat → Int32) (tt : Nat → Int32) (nu : Nat) (ub : Nat → Int32) (ue : Nat → Int32) (uk : Nat → Int32) (ut : Nat → Int32) (re : Nat → Int32) (ro : Nat → Int32) (fu : Nat → Int32) (bl : Nat → Int32) (go : Nat → Int32) (ra : Nat → Int32) (rc : Nat) (ex : Int32) (tc : Int32) (es : Int32) (wy : Int64) (x : Int32) (y : Int32) (T : Nat → Nat → Nat) (up : Nat → Nat → Bool) (ou : Nat) (fz : Nat → Int64) (sz : Nat) (hlt : l.stackTraces = false) (hg : g3 nk fa up nt tb te tk tt T) (hc : okC nk nc fo th tg) : Met l yL_branch wsL_branch ({ frames := 8, cells := 3, slots := 18, locals := 125 } : Room) (va_Pc [.ref (a 0), .int x, .int y, .ref ou] (zTl (dC, dI) [(cI, .int), (cZ, .boolean), (cJ, .long)] ((w3 a cI cZ nk pa fa nc fo th tg nt tb te tk tt nu ub ue uk ut re ro fu bl go ra rc ex tc es wy) ++ ([(ou, .inl (cJ, 1, .inr (.inl fz)))])) sz)) (va_Qi (fun (r : Int32) (u : Nat × (Nat → Int32) × (Nat → Int32) × (Nat → Int32) × (Nat → Int64)) => match u with | (v_c_3, v_cf, v_ct, v_cg, fz9) => ((r = 0 ∧ fz9 = vp_updL fz 0 ((nI nc).toInt64) ∧ v_c_3 = (nc + 1) ∧ v_cf = (upd fo nc 2) ∧ v_ct = (upd th nc x) ∧ v_cg = (upd tg nc y) ∧ (((decide (x >>> (nI nk &&& 31) = 0) && hasI y 48) = true ∧ nc < 48) ∧ okC nk (nc + 1) (upd fo nc 2) (upd th nc x) (upd tg nc y)))) ∨ (r = 1 ∧ ((decide (x >>> (nI nk &&& 31) = 0) && hasI y 48) = false) ∧ fz9 = fz ∧ v_c_3 = nc ∧ v_cf = fo ∧ v_ct = th ∧ v_cg = tg) ∨ (r = 2 ∧ ((decide (x >>> (nI nk &&& 31) = 0) && hasI y 48) = true ∧ nc = 48) ∧ fz9 = fz ∧ v_c_3 = nc ∧ v_cf = fo ∧ v_ct = th ∧ v_cg = tg)) (fun u t => match u with | (v_c_3, v_cf, v_ct, v_cg, fz9) => zWo (dC, dI) [(cI, .int), (cZ, .boolean), (cJ, .long)] ((w3 a cI cZ nk pa fa v_c_3 v_cf v_ct v_cg nt tb te tk tt nu ub ue uk ut re ro fu bl go ra rc ex tc es wy) ++ ([(ou, .inl (cJ, 1, .inr (.inl fz9)))])) (va_A ((w3 a cI cZ nk pa fa nc fo th tg nt tb te tk tt nu ub ue uk ut re ro fu bl go ra rc ex tc es wy) ++ ([(ou, .inl (cJ, 1, .inr (.inl fz)))])) sz) t) (va_A ((w3 a cI cZ nk pa fa nc fo th tg nt tb te tk tt nu ub ue uk ut re ro fu bl go ra rc ex tc es wy) ++ ([(ou, .inl (cJ, 1, .inr (.inl fz)))])) sz)) 3 18 (va_A ((w3 a cI cZ nk pa fa nc fo th tg nt tb te tk tt nu ub ue uk ut re ro fu bl go ra rc ex tc es wy) ++ ([(ou, .inl (cJ, 1, .inr (.inl fz)))])) sz) := by
  refine va_MetW (cc := cL_branch) (maxL := 5) (ret := (some .int)) (hh := [(0, 10, 13, 28), (0, 10, 17, 15)]) (by decide) rfl ?_
  intro p e s m args below meth c s₁ B hml hv
  obtain ⟨hav, ⟨⟨hsz, ⟨hP, hK, hn⟩, hD0⟩, hzt, hzu⟩, hzc⟩ := hv
  have hx := B.exec
  have hb := B.bytes
  have hr := B.returns
  have hts := atoms_spec (ws := wsL_branch) B.pre
  have hown : s.vm.findClass RL = some m.cls := findClass_of_methodNamed B.named
  have hlocks := B.notSynchronized
  have htab : c.exceptionTable.toList = [⟨0, 10, 13, 28⟩, ⟨0, 10, 17, 15⟩] := vx_table (x := yL_branch) B (hh := [(0, 10, 13, 28), (0, 10, 17, 15)]) (hts _ (by unfold wsL_branch; exact List.mem_cons_self))
  subst hsz
  have hD := hD0.self (sz := s.heap.size)
  generalize hAe : (va_A ((w3 a cI cZ nk pa fa nc fo th tg nt tb te tk tt nu ub ue uk ut re ro fu bl go ra rc ex tc es wy) ++ ([(ou, .inl (cJ, 1, .inr (.inl fz)))])) s.heap.size) = A at hD hzu ⊢
  have hA : ∀ q : Nat, s.heap.size ≤ q → A q := fun q h => by rw [← hAe]; exact Or.inr h
  have hS : va_S A s.heap s.heap [] := va_S.rf
  generalize hQ : MQ below (va_Qi (fun (r : Int32) (u : Nat × (Nat → Int32) × (Nat → Int32) × (Nat → Int32) × (Nat → Int64)) => match u with | (v_c_3, v_cf, v_ct, v_cg, fz9) => ((r = 0 ∧ fz9 = vp_updL fz 0 ((nI nc).toInt64) ∧ v_c_3 = (nc + 1) ∧ v_cf = (upd fo nc 2) ∧ v_ct = (upd th nc x) ∧ v_cg = (upd tg nc y) ∧ (((decide (x >>> (nI nk &&& 31) = 0) && hasI y 48) = true ∧ nc < 48) ∧ okC nk (nc + 1) (upd fo nc 2) (upd th nc x) (upd tg nc y)))) ∨ (r = 1 ∧ ((decide (x >>> (nI nk &&& 31) = 0) && hasI y 48) = false) ∧ fz9 = fz ∧ v_c_3 = nc ∧ v_cf = fo ∧ v_ct = th ∧ v_cg = tg) ∨ (r = 2 ∧ ((decide (x >>> (nI nk &&& 31) = 0) && hasI y 48) = true ∧ nc = 48) ∧ fz9 = fz ∧ v_c_3 = nc ∧ v_cf = fo ∧ v_ct = th ∧ v_cg = tg)) (fun u t => match u with | (v_c_3, v_cf, v_ct, v_cg, fz9) => zWo (dC, dI) [(cI, .int), (cZ, .boolean), (cJ, .long)] ((w3 a cI cZ nk pa fa v_c_3 v_cf v_ct v_cg nt tb te tk tt nu ub ue uk ut re ro fu bl go ra rc ex tc es wy) ++ ([(ou, .inl (cJ, 1, .inr (.inl fz9)))])) A t) A) args s 3 18 A = Q
  refine W.eq (g2 := entryFrame m ([.ref (a 0), .int x, .int y, .ref ou] : List Value).toArray 5) (by rw [hav]) ?_
  have hl := lv_entry ([.ref (a 0), .int x, .int y, .ref ou]) (n := 5) (Nat.le_of_ble_eq_true rfl)
  rw [lg_entry_eq]
  generalize (lg_sl ([.ref (a 0), .int x, .int y, .ref ou]) ++ List.replicate (5 - (lg_sl ([.ref (a 0), .int x, .int y, .ref ou])).length) Slot.unset).toArray = ls at hl ⊢
  have hl : lv_has ls 5 [(0, .ref (a 0)), (1, .int x), (2, .int y), (3, .ref ou)] := hl
  obtain ⟨H, hH⟩ : ∃ H, H = s.heap := ⟨_, rfl⟩
  obtain ⟨locs, hlo⟩ : ∃ q : List Loc, q = [] := ⟨_, rfl⟩
  have hP : va_P (dC, dI) vwCl ((w3 a cI cZ nk pa fa nc fo th tg nt tb te tk tt nu ub ue uk ut re ro fu bl go ra rc ex tc es wy) ++ ([(ou, .inl (cJ, 1, .inr (.inl fz)))])) H := by rw [hH]; exact hP
  have hS : va_S A s.heap H locs := by rw [hH, hlo]; exact hS
  refine zz_hl hH hlo ?_
  refine lv_aload_n hx hb dL_branch_0 rfl (lv_at hl 3 rfl) ?_
  refine lv_iconst (v := 0) hx hb dL_branch_1 (by decide) ?_
  refine lv_aload_n hx hb dL_branch_2 rfl (lv_at hl 0 rfl) ?_
  refine lv_iload_n hx hb dL_branch_3 rfl (lv_at hl 1 rfl) ?_
  refine lv_iload_n hx hb dL_branch_4 rfl (lv_at hl 2 rfl) ?_
  have hPc := hP.sub (ws' := w3 a cI cZ nk pa fa nc fo th tg nt tb te tk tt nu ub ue uk ut re ro fu bl go ra rc ex tc es wy) [0, 1, 2, 3, 4, 5, 6, 7, 8, 9, 10, 11, 12, 13, 14, 15, 16, 17, 18, 19, 20, 21, 22, 23] rfl
  have hDc := hD.sub (ws' := w3 a cI cZ nk pa fa nc fo th tg nt tb te tk tt nu ub ue uk ut re ro fu bl go ra rc ex tc es wy) [0, 1, 2, 3, 4, 5, 6, 7, 8, 9, 10, 11, 12, 13, 14, 15, 16, 17, 18, 19, 20, 21, 22, 23] (by decide) rfl
  have hFc := va_free (wc := w3 a cI cZ nk pa fa nc fo th tg nt tb te tk tt nu ub ue uk ut re ro fu bl go ra rc ex tc es wy) hD hS hA [0, 1, 2, 3, 4, 5, 6, 7, 8, 9, 10, 11, 12, 13, 14, 15, 16, 17, 18, 19, 20, 21, 22, 23] rfl
  refine vx_calli (vx_runV (As := [.int x, .int y]) (rest := [.int 0, .ref ou]) ⟨hx, hb, hml, hown, hts⟩ (c_X3_branch l dC dI cI cZ cJ a nk pa fa nc fo th tg nt tb te tk tt nu ub ue uk ut re ro fu bl go ra rc ex tc es wy x y T up H.size hlt (hg) (hc)) (cwV 2 hts gL_branch_X3_branch rfl rfl rfl (by decide +kernel) ⟨Nat.le_of_ble_eq_true rfl, Nat.le_of_ble_eq_true rfl⟩) ⟨zTr_blind, va_recv hK hPc (ci := 3) (q0 := 0) rfl rfl, zTr_at hPc hK hn (hDc.weaken (fun _ _ _ _ => trivial)) hzt hzu hS hFc⟩ rfl rfl hl.1 rfl (lv_room (Nat.le_of_ble_eq_true rfl)) dL_branch_5 ⟨Nat.le_of_ble_eq_true rfl, Nat.le_of_ble_eq_true rfl⟩) hS (fun q _ h => hFc q h) hFc (fun q _ h => hFc q h) (fun E ce q9 u_9 t H1 locs ht hvm hpx hBX hz1 hk1 hS hc9 hv9 hcl => ?_) (fun r_1 u_9 t H1 locs ht hvm hw hB hz1 hk1 hS => ?_)
  · skip
    obtain ⟨hXE, hP1, -, hD1⟩ := hBX
    rw [ht] at hP1
    obtain ⟨hP, hD⟩ := va_join (wr := [(ou, .inl (cJ, 1, .inr (.inl fz)))]) (w1 := w3 a cI cZ nk pa fa nc fo th tg nt tb te tk tt nu ub ue uk ut re ro fu bl go ra rc ex tc es wy) hP hD [0, 1, 2, 3, 4, 5, 6, 7, 8, 9, 10, 11, 12, 13, 14, 15, 16, 17, 18, 19, 20, 21, 22, 23] [24] rfl rfl (by decide) (by decide) hk1 hFc hP1 hD1
    generalize H1 = H at hP hS hc9 ⊢
    have hP := hP.sub (ws' := (w3 a cI cZ nk pa fa nc fo th tg nt tb te tk tt nu ub ue uk ut re ro fu bl go ra rc ex tc es wy) ++ ([(ou, .inl (cJ, 1, .inr (.inl fz)))])) [1, 2, 3, 4, 5, 6, 7, 8, 9, 10, 11, 12, 13, 14, 15, 16, 17, 18, 19, 20, 21, 22, 23, 24, 0] rfl
    have hD := hD.sub (ws' := (w3 a cI cZ nk pa fa nc fo th tg nt tb te tk tt nu ub ue uk ut re ro fu bl go ra rc ex tc es wy) ++ ([(ou, .inl (cJ, 1, .inr (.inl fz)))])) [1, 2, 3, 4, 5, 6, 7, 8, 9, 10, 11, 12, 13, 14, 15, 16, 17, 18, 19, 20, 21, 22, 23, 24, 0] (by decide) rfl
    have hP : va_P (dC, dI) vwCl ((w3 a cI cZ nk pa fa nc fo th tg nt tb te tk tt nu ub ue uk ut re ro fu bl go ra rc ex tc es wy) ++ ([(ou, .inl (cJ, 1, .inr (.inl fz)))])) H := hP
    have hD : va_D A ((w3 a cI cZ nk pa fa nc fo th tg nt tb te tk tt nu ub ue uk ut re ro fu bl go ra rc ex tc es wy) ++ ([(ou, .inl (cJ, 1, .inr (.inl fz)))])) := hD
    refine vx_widen (k := 3) (n := 18) (by omega) (by omega) ?_
    rcases hXE with ⟨rfl, hp9⟩ | ⟨rfl, hp9⟩
    · skip
      refine vx_catch (own := RL) (name := "java/lang/IllegalArgumentException") hown [] ⟨0, 10, 13, 28⟩ [⟨0, 10, 17, 15⟩] htab (fun z hz => absurd hz List.not_mem_nil) (by decide) (by decide) (hts (.classLink RL 28 "java/lang/IllegalArgumentException") (by decide +kernel)) (va_Nw.use rfl (hzt.1 (.castable "java/lang/IllegalArgumentException" "java/lang/IllegalArgumentException") (by decide +kernel))) hc9 hv9 hcl ?_
      refine lv_astore (lv' := [(4, .ref q9), (0, .ref (a 0)), (1, .int x), (2, .int y), (3, .ref ou)]) hx hb dL_branch_13 hl (by decide) rfl (fun ls hl => ?_)
      refine lv_iconst (v := 1) hx hb dL_branch_15 (by decide) ?_
      rw [← hQ]
      have hP9 := hP
      have hD9 := hD
      exact W.iret (v := 1) hx hb hr (fun t ht hW => ⟨⟨1, (nc, fo, th, tg, fz), rfl, (Or.inr (Or.inl ⟨rfl, hp9, rfl, rfl, rfl, rfl, rfl⟩)), (by rw [ht]; exact hP9), va_K.moved hW.alike hK, hD9⟩, hS.F ht⟩) hS.2.2 dL_branch_16
    · skip
      refine vx_catch (own := RL) (name := "java/lang/IllegalStateException") hown [⟨0, 10, 13, 28⟩] ⟨0, 10, 17, 15⟩ [] htab (fun z hz => by rcases List.mem_singleton.mp hz with rfl; exact Or.inr ⟨by decide, "java/lang/IllegalArgumentException", hts (.classLink RL 28 "java/lang/IllegalArgumentException") (by decide +kernel), hzc.2.1⟩) (by decide) (by decide) (hts (.classLink RL 15 "java/lang/IllegalStateException") (by decide +kernel)) (va_Nw.use rfl (hzt.1 (.castable "java/lang/IllegalStateException" "java/lang/IllegalStateException") (by decide +kernel))) hc9 hv9 hcl ?_
      refine lv_astore (lv' := [(4, .ref q9), (0, .ref (a 0)), (1, .int x), (2, .int y), (3, .ref ou)]) hx hb dL_branch_17 hl (by decide) rfl (fun ls hl => ?_)
      refine lv_iconst (v := 2) hx hb dL_branch_19 (by decide) ?_
      rw [← hQ]
      have hP9 := hP
      have hD9 := hD
      exact W.iret (v := 2) hx hb hr (fun t ht hW => ⟨⟨2, (nc, fo, th, tg, fz), rfl, (Or.inr (Or.inr ⟨rfl, hp9, rfl, rfl, rfl, rfl, rfl⟩)), (by rw [ht]; exact hP9), va_K.moved hW.alike hK, hD9⟩, hS.F ht⟩) hS.2.2 dL_branch_20
  obtain ⟨hP1, -, hD1⟩ := hB
  rw [ht] at hP1
  obtain ⟨hP, hD⟩ := va_join (wr := [(ou, .inl (cJ, 1, .inr (.inl fz)))]) (w1 := w3 a cI cZ nk pa fa (nc + 1) (upd fo nc 2) (upd th nc x) (upd tg nc y) nt tb te tk tt nu ub ue uk ut re ro fu bl go ra rc ex tc es wy) hP hD [0, 1, 2, 3, 4, 5, 6, 7, 8, 9, 10, 11, 12, 13, 14, 15, 16, 17, 18, 19, 20, 21, 22, 23] [24] rfl rfl (by decide) (by decide) hk1 hFc hP1 hD1
  generalize H1 = H at hP hS ⊢
  have hP := hP.sub (ws' := (w3 a cI cZ nk pa fa (nc + 1) (upd fo nc 2) (upd th nc x) (upd tg nc y) nt tb te tk tt nu ub ue uk ut re ro fu bl go ra rc ex tc es wy) ++ ([(ou, .inl (cJ, 1, .inr (.inl fz)))])) [1, 2, 3, 4, 5, 6, 7, 8, 9, 10, 11, 12, 13, 14, 15, 16, 17, 18, 19, 20, 21, 22, 23, 24, 0] rfl
  have hD := hD.sub (ws' := (w3 a cI cZ nk pa fa (nc + 1) (upd fo nc 2) (upd th nc x) (upd tg nc y) nt tb te tk tt nu ub ue uk ut re ro fu bl go ra rc ex tc es wy) ++ ([(ou, .inl (cJ, 1, .inr (.inl fz)))])) [1, 2, 3, 4, 5, 6, 7, 8, 9, 10, 11, 12, 13, 14, 15, 16, 17, 18, 19, 20, 21, 22, 23, 24, 0] (by decide) rfl
  have hP : va_P (dC, dI) vwCl ((w3 a cI cZ nk pa fa (nc + 1) (upd fo nc 2) (upd th nc x) (upd tg nc y) nt tb te tk tt nu ub ue uk ut re ro fu bl go ra rc ex tc es wy) ++ ([(ou, .inl (cJ, 1, .inr (.inl fz)))])) H := hP
  have hD : va_D A ((w3 a cI cZ nk pa fa (nc + 1) (upd fo nc 2) (upd th nc x) (upd tg nc y) nt tb te tk tt nu ub ue uk ut re ro fu bl go ra rc ex tc es wy) ++ ([(ou, .inl (cJ, 1, .inr (.inl fz)))])) := hD
  refine W.widen (k := 3) (n := 18) (by omega) (by omega) ?_
  obtain ⟨hw0, hw⟩ := hw
  subst hw0
  refine lv_i2l (v := (nI nc).toInt64) hx hb dL_branch_8 rfl ?_
  refine va_last hx hb hK hP hD hS 24 2 rfl rfl (vp_in_nI (n := 0) (by omega) (by decide)) dL_branch_9 (fun H locs hP hD hS => ?_)
  have hP : va_P (dC, dI) vwCl ((w3 a cI cZ nk pa fa (nc + 1) (upd fo nc 2) (upd th nc x) (upd tg nc y) nt tb te tk tt nu ub ue uk ut re ro fu bl go ra rc ex tc es wy) ++ ([(ou, .inl (cJ, 1, .inr (.inl (vp_updL fz 0 ((nI nc).toInt64)))))])) H := hP
  have hD : va_D A ((w3 a cI cZ nk pa fa (nc + 1) (upd fo nc 2) (upd th nc x) (upd tg nc y) nt tb te tk tt nu ub ue uk ut re ro fu bl go ra rc ex tc es wy) ++ ([(ou, .inl (cJ, 1, .inr (.inl (vp_updL fz 0 ((nI nc).toInt64)))))])) := hD
  refine lv_goto (tgt := 21) hx hb dL_branch_10 (by decide) ?_
  refine lv_iconst (v := 0) hx hb dL_branch_21 (by decide) ?_
  rw [← hQ]
  have hP9 := hP
  have hD9 := hD
  exact W.iret (v := 0) hx hb hr (fun t ht hW => ⟨⟨0, (nc + 1, upd fo nc 2, upd th nc x, upd tg nc y, vp_updL fz 0 ((nI nc).toInt64)), rfl, (Or.inl ⟨rfl, rfl, rfl, rfl, rfl, rfl, hw⟩), (by rw [ht]; exact hP9), va_K.moved hW.alike hK, hD9⟩, hS.F ht⟩) hS.2.2 dL_branch_22

set_option maxHeartbeats 4000000 in
set_option maxRecDepth 100000 in
theorem c_L_end (l : Launch) (dC : Nat → ClassId) (dI : Nat → Nat → Nat) (cI cZ cJ : ClassId) (a : Nat → Nat) (nk : Nat) (pa : Nat → Int32) (fa : Nat → Int32) (nc : Nat) (fo : Nat → Int32) (th : Nat → Int32) (tg : Nat → Int32) (nt : Nat) (tb : Nat → Int32) (te : Nat → Int32) (tk : Nat → Int32) (tt : Nat → Int32) (nu : Nat) (ub : Nat → Int32) (ue : Nat → Int32) (uk : Nat → Int32) (ut : Nat → Int32) (re : Nat → Int32) (ro : Nat → Int32) (fu : Nat → Int32) (bl : Nat → Int32) (go : Nat → Int32) (ra : Nat → Int32) (rc : Nat) (ex : Int32) (tc : Int32) (es : Int32) (wy : Int64) (T : Nat → Nat → Nat) (up : Nat → Nat → Bool) (ou : Nat) (fz : Nat → Int64) (sz : Nat) (hlt : l.stackTraces = false) (hg : g3 nk fa up nt tb te tk tt T) (hc : okC nk nc fo th tg) : Met l yL_end wsL_end ({ frames := 8, cells := 1, slots := 6, locals := 122 } : Room) (va_Pc [.ref (a 0), .ref ou] (zTl (dC, dI) [(cI, .int), (cZ, .boolean), (cJ, .long)] ((w3 a cI cZ nk pa fa nc fo th tg nt tb te tk tt nu ub ue uk ut re ro fu bl go ra rc ex tc es wy) ++ ([(ou, .inl (cJ, 1, .inr (.inl fz)))])) sz)) (va_Qi (fun (r : Int32) (u : Nat × (Nat → Int32) × (Nat → Int32) × (Nat → Int32) × (Nat → Int64)) => match u with | (v_c_3, v_cf, v_ct, v_cg, fz9) => ((r = 0 ∧ fz9 = vp_updL fz 0 ((nI nc).toInt64) ∧ v_c_3 = (nc + 1) ∧ v_cf = (upd fo nc 3) ∧ v_ct = (upd th nc 0) ∧ v_cg = (upd tg nc (-1)) ∧ (nc < 48 ∧ okC nk (nc + 1) (upd fo nc 3) (upd th nc 0) (upd tg nc (-1))))) ∨ (r = 1 ∧ (nc = 48) ∧ fz9 = fz ∧ v_c_3 = nc ∧ v_cf = fo ∧ v_ct = th ∧ v_cg = tg)) (fun u t => match u with | (v_c_3, v_cf, v_ct, v_cg, fz9) => zWo (dC, dI) [(cI, .int), (cZ, .boolean), (cJ, .long)] ((w3 a cI cZ nk pa fa v_c_3 v_cf v_ct v_cg nt tb te tk tt nu ub ue uk ut re ro fu bl go ra rc ex tc es wy) ++ ([(ou, .inl (cJ, 1, .inr (.inl fz9)))])) (va_A ((w3 a cI cZ nk pa fa nc fo th tg nt tb te tk tt nu ub ue uk ut re ro fu bl go ra rc ex tc es wy) ++ ([(ou, .inl (cJ, 1, .inr (.inl fz)))])) sz) t) (va_A ((w3 a cI cZ nk pa fa nc fo th tg nt tb te tk tt nu ub ue uk ut re ro fu bl go ra rc ex tc es wy) ++ ([(ou, .inl (cJ, 1, .inr (.inl fz)))])) sz)) 1 6 (va_A ((w3 a cI cZ nk pa fa nc fo th tg nt tb te tk tt nu ub ue uk ut re ro fu bl go ra rc ex tc es wy) ++ ([(ou, .inl (cJ, 1, .inr (.inl fz)))])) sz) := by
  refine va_MetW (cc := cL_end) (maxL := 3) (ret := (some .int)) (hh := [(0, 8, 11, 15)]) (by decide) rfl ?_
  intro p e s m args below meth c s₁ B hml hv
  obtain ⟨hav, ⟨⟨hsz, ⟨hP, hK, hn⟩, hD0⟩, hzt, hzu⟩, hzc⟩ := hv
  have hx := B.exec
  have hb := B.bytes
  have hr := B.returns
  have hts := atoms_spec (ws := wsL_end) B.pre
  have hown : s.vm.findClass RL = some m.cls := findClass_of_methodNamed B.named
  have hlocks := B.notSynchronized
  have htab : c.exceptionTable.toList = [⟨0, 8, 11, 15⟩] := vx_table (x := yL_end) B (hh := [(0, 8, 11, 15)]) (hts _ (by unfold wsL_end; exact List.mem_cons_self))
  subst hsz
  have hD := hD0.self (sz := s.heap.size)
  generalize hAe : (va_A ((w3 a cI cZ nk pa fa nc fo th tg nt tb te tk tt nu ub ue uk ut re ro fu bl go ra rc ex tc es wy) ++ ([(ou, .inl (cJ, 1, .inr (.inl fz)))])) s.heap.size) = A at hD hzu ⊢
  have hA : ∀ q : Nat, s.heap.size ≤ q → A q := fun q h => by rw [← hAe]; exact Or.inr h
  have hS : va_S A s.heap s.heap [] := va_S.rf
  generalize hQ : MQ below (va_Qi (fun (r : Int32) (u : Nat × (Nat → Int32) × (Nat → Int32) × (Nat → Int32) × (Nat → Int64)) => match u with | (v_c_3, v_cf, v_ct, v_cg, fz9) => ((r = 0 ∧ fz9 = vp_updL fz 0 ((nI nc).toInt64) ∧ v_c_3 = (nc + 1) ∧ v_cf = (upd fo nc 3) ∧ v_ct = (upd th nc 0) ∧ v_cg = (upd tg nc (-1)) ∧ (nc < 48 ∧ okC nk (nc + 1) (upd fo nc 3) (upd th nc 0) (upd tg nc (-1))))) ∨ (r = 1 ∧ (nc = 48) ∧ fz9 = fz ∧ v_c_3 = nc ∧ v_cf = fo ∧ v_ct = th ∧ v_cg = tg)) (fun u t => match u with | (v_c_3, v_cf, v_ct, v_cg, fz9) => zWo (dC, dI) [(cI, .int), (cZ, .boolean), (cJ, .long)] ((w3 a cI cZ nk pa fa v_c_3 v_cf v_ct v_cg nt tb te tk tt nu ub ue uk ut re ro fu bl go ra rc ex tc es wy) ++ ([(ou, .inl (cJ, 1, .inr (.inl fz9)))])) A t) A) args s 1 6 A = Q
  refine W.eq (g2 := entryFrame m ([.ref (a 0), .ref ou] : List Value).toArray 3) (by rw [hav]) ?_
  have hl := lv_entry ([.ref (a 0), .ref ou]) (n := 3) (Nat.le_of_ble_eq_true rfl)
  rw [lg_entry_eq]
  generalize (lg_sl ([.ref (a 0), .ref ou]) ++ List.replicate (3 - (lg_sl ([.ref (a 0), .ref ou])).length) Slot.unset).toArray = ls at hl ⊢
  have hl : lv_has ls 3 [(0, .ref (a 0)), (1, .ref ou)] := hl
  obtain ⟨H, hH⟩ : ∃ H, H = s.heap := ⟨_, rfl⟩
  obtain ⟨locs, hlo⟩ : ∃ q : List Loc, q = [] := ⟨_, rfl⟩
  have hP : va_P (dC, dI) vwCl ((w3 a cI cZ nk pa fa nc fo th tg nt tb te tk tt nu ub ue uk ut re ro fu bl go ra rc ex tc es wy) ++ ([(ou, .inl (cJ, 1, .inr (.inl fz)))])) H := by rw [hH]; exact hP
  have hS : va_S A s.heap H locs := by rw [hH, hlo]; exact hS
  refine zz_hl hH hlo ?_
  refine lv_aload_n hx hb dL_end_0 rfl (lv_at hl 1 rfl) ?_
  refine lv_iconst (v := 0) hx hb dL_end_1 (by decide) ?_
  refine lv_aload_n hx hb dL_end_2 rfl (lv_at hl 0 rfl) ?_
  have hPc := hP.sub (ws' := w3 a cI cZ nk pa fa nc fo th tg nt tb te tk tt nu ub ue uk ut re ro fu bl go ra rc ex tc es wy) [0, 1, 2, 3, 4, 5, 6, 7, 8, 9, 10, 11, 12, 13, 14, 15, 16, 17, 18, 19, 20, 21, 22, 23] rfl
  have hDc := hD.sub (ws' := w3 a cI cZ nk pa fa nc fo th tg nt tb te tk tt nu ub ue uk ut re ro fu bl go ra rc ex tc es wy) [0, 1, 2, 3, 4, 5, 6, 7, 8, 9, 10, 11, 12, 13, 14, 15, 16, 17, 18, 19, 20, 21, 22, 23] (by decide) rfl
  have hFc := va_free (wc := w3 a cI cZ nk pa fa nc fo th tg nt tb te tk tt nu ub ue uk ut re ro fu bl go ra rc ex tc es wy) hD hS hA [0, 1, 2, 3, 4, 5, 6, 7, 8, 9, 10, 11, 12, 13, 14, 15, 16, 17, 18, 19, 20, 21, 22, 23] rfl
  refine vx_calli (vx_runV (As := []) (rest := [.int 0, .ref ou]) ⟨hx, hb, hml, hown, hts⟩ (c_X3_end l dC dI cI cZ cJ a nk pa fa nc fo th tg nt tb te tk tt nu ub ue uk ut re ro fu bl go ra rc ex tc es wy T up H.size hlt (hg) (hc)) (cwV 0 hts gL_end_X3_end rfl rfl rfl (by decide +kernel) ⟨Nat.le_of_ble_eq_true rfl, Nat.le_of_ble_eq_true rfl⟩) ⟨zTr_blind, va_recv hK hPc (ci := 3) (q0 := 0) rfl rfl, zTr_at hPc hK hn (hDc.weaken (fun _ _ _ _ => trivial)) hzt hzu hS hFc⟩ rfl rfl hl.1 rfl (lv_room (Nat.le_of_ble_eq_true rfl)) dL_end_3 ⟨Nat.le_of_ble_eq_true rfl, Nat.le_of_ble_eq_true rfl⟩) hS (fun q _ h => hFc q h) hFc (fun q _ h => hFc q h) (fun E ce q9 u_9 t H1 locs ht hvm hpx hBX hz1 hk1 hS hc9 hv9 hcl => ?_) (fun r_1 u_9 t H1 locs ht hvm hw hB hz1 hk1 hS => ?_)
  · skip
    obtain ⟨hXE, hP1, -, hD1⟩ := hBX
    rw [ht] at hP1
    obtain ⟨hP, hD⟩ := va_join (wr := [(ou, .inl (cJ, 1, .inr (.inl fz)))]) (w1 := w3 a cI cZ nk pa fa nc fo th tg nt tb te tk tt nu ub ue uk ut re ro fu bl go ra rc ex tc es wy) hP hD [0, 1, 2, 3, 4, 5, 6, 7, 8, 9, 10, 11, 12, 13, 14, 15, 16, 17, 18, 19, 20, 21, 22, 23] [24] rfl rfl (by decide) (by decide) hk1 hFc hP1 hD1
    generalize H1 = H at hP hS hc9 ⊢
    have hP := hP.sub (ws' := (w3 a cI cZ nk pa fa nc fo th tg nt tb te tk tt nu ub ue uk ut re ro fu bl go ra rc ex tc es wy) ++ ([(ou, .inl (cJ, 1, .inr (.inl fz)))])) [1, 2, 3, 4, 5, 6, 7, 8, 9, 10, 11, 12, 13, 14, 15, 16, 17, 18, 19, 20, 21, 22, 23, 24, 0] rfl
    have hD := hD.sub (ws' := (w3 a cI cZ nk pa fa nc fo th tg nt tb te tk tt nu ub ue uk ut re ro fu bl go ra rc ex tc es wy) ++ ([(ou, .inl (cJ, 1, .inr (.inl fz)))])) [1, 2, 3, 4, 5, 6, 7, 8, 9, 10, 11, 12, 13, 14, 15, 16, 17, 18, 19, 20, 21, 22, 23, 24, 0] (by decide) rfl
    have hP : va_P (dC, dI) vwCl ((w3 a cI cZ nk pa fa nc fo th tg nt tb te tk tt nu ub ue uk ut re ro fu bl go ra rc ex tc es wy) ++ ([(ou, .inl (cJ, 1, .inr (.inl fz)))])) H := hP
    have hD : va_D A ((w3 a cI cZ nk pa fa nc fo th tg nt tb te tk tt nu ub ue uk ut re ro fu bl go ra rc ex tc es wy) ++ ([(ou, .inl (cJ, 1, .inr (.inl fz)))])) := hD
    refine vx_widen (k := 1) (n := 6) (by omega) (by omega) ?_
    rcases hXE with ⟨rfl, hp9⟩
    · skip
      refine vx_catch (own := RL) (name := "java/lang/IllegalStateException") hown [] ⟨0, 8, 11, 15⟩ [] htab (fun z hz => absurd hz List.not_mem_nil) (by decide) (by decide) (hts (.classLink RL 15 "java/lang/IllegalStateException") (by decide +kernel)) (va_Nw.use rfl (hzt.1 (.castable "java/lang/IllegalStateException" "java/lang/IllegalStateException") (by decide +kernel))) hc9 hv9 hcl ?_
      refine lv_astore_n (lv' := [(2, .ref q9), (0, .ref (a 0)), (1, .ref ou)]) hx hb dL_end_11 rfl hl (by decide) rfl (fun ls hl => ?_)
      refine lv_iconst (v := 1) hx hb dL_end_12 (by decide) ?_
      rw [← hQ]
      have hP9 := hP
      have hD9 := hD
      exact W.iret (v := 1) hx hb hr (fun t ht hW => ⟨⟨1, (nc, fo, th, tg, fz), rfl, (Or.inr ⟨rfl, hp9, rfl, rfl, rfl, rfl, rfl⟩), (by rw [ht]; exact hP9), va_K.moved hW.alike hK, hD9⟩, hS.F ht⟩) hS.2.2 dL_end_13
  obtain ⟨hP1, -, hD1⟩ := hB
  rw [ht] at hP1
  obtain ⟨hP, hD⟩ := va_join (wr := [(ou, .inl (cJ, 1, .inr (.inl fz)))]) (w1 := w3 a cI cZ nk pa fa (nc + 1) (upd fo nc 3) (upd th nc 0) (upd tg nc (-1)) nt tb te tk tt nu ub ue uk ut re ro fu bl go ra rc ex tc es wy) hP hD [0, 1, 2, 3, 4, 5, 6, 7, 8, 9, 10, 11, 12, 13, 14, 15, 16, 17, 18, 19, 20, 21, 22, 23] [24] rfl rfl (by decide) (by decide) hk1 hFc hP1 hD1
  generalize H1 = H at hP hS ⊢
  have hP := hP.sub (ws' := (w3 a cI cZ nk pa fa (nc + 1) (upd fo nc 3) (upd th nc 0) (upd tg nc (-1)) nt tb te tk tt nu ub ue uk ut re ro fu bl go ra rc ex tc es wy) ++ ([(ou, .inl (cJ, 1, .inr (.inl fz)))])) [1, 2, 3, 4, 5, 6, 7, 8, 9, 10, 11, 12, 13, 14, 15, 16, 17, 18, 19, 20, 21, 22, 23, 24, 0] rfl
  have hD := hD.sub (ws' := (w3 a cI cZ nk pa fa (nc + 1) (upd fo nc 3) (upd th nc 0) (upd tg nc (-1)) nt tb te tk tt nu ub ue uk ut re ro fu bl go ra rc ex tc es wy) ++ ([(ou, .inl (cJ, 1, .inr (.inl fz)))])) [1, 2, 3, 4, 5, 6, 7, 8, 9, 10, 11, 12, 13, 14, 15, 16, 17, 18, 19, 20, 21, 22, 23, 24, 0] (by decide) rfl
  have hP : va_P (dC, dI) vwCl ((w3 a cI cZ nk pa fa (nc + 1) (upd fo nc 3) (upd th nc 0) (upd tg nc (-1)) nt tb te tk tt nu ub ue uk ut re ro fu bl go ra rc ex tc es wy) ++ ([(ou, .inl (cJ, 1, .inr (.inl fz)))])) H := hP
  have hD : va_D A ((w3 a cI cZ nk pa fa (nc + 1) (upd fo nc 3) (upd th nc 0) (upd tg nc (-1)) nt tb te tk tt nu ub ue uk ut re ro fu bl go ra rc ex tc es wy) ++ ([(ou, .inl (cJ, 1, .inr (.inl fz)))])) := hD
  refine W.widen (k := 1) (n := 6) (by omega) (by omega) ?_
  obtain ⟨hw0, hw⟩ := hw
  subst hw0
  refine lv_i2l (v := (nI nc).toInt64) hx hb dL_end_6 rfl ?_
  refine va_last hx hb hK hP hD hS 24 2 rfl rfl (vp_in_nI (n := 0) (by omega) (by decide)) dL_end_7 (fun H locs hP hD hS => ?_)
  have hP : va_P (dC, dI) vwCl ((w3 a cI cZ nk pa fa (nc + 1) (upd fo nc 3) (upd th nc 0) (upd tg nc (-1)) nt tb te tk tt nu ub ue uk ut re ro fu bl go ra rc ex tc es wy) ++ ([(ou, .inl (cJ, 1, .inr (.inl (vp_updL fz 0 ((nI nc).toInt64)))))])) H := hP
  have hD : va_D A ((w3 a cI cZ nk pa fa (nc + 1) (upd fo nc 3) (upd th nc 0) (upd tg nc (-1)) nt tb te tk tt nu ub ue uk ut re ro fu bl go ra rc ex tc es wy) ++ ([(ou, .inl (cJ, 1, .inr (.inl (vp_updL fz 0 ((nI nc).toInt64)))))])) := hD
  refine lv_goto (tgt := 14) hx hb dL_end_8 (by decide) ?_
  refine lv_iconst (v := 0) hx hb dL_end_14 (by decide) ?_
  rw [← hQ]
  have hP9 := hP
  have hD9 := hD
  exact W.iret (v := 0) hx hb hr (fun t ht hW => ⟨⟨0, (nc + 1, upd fo nc 3, upd th nc 0, upd tg nc (-1), vp_updL fz 0 ((nI nc).toInt64)), rfl, (Or.inl ⟨rfl, rfl, rfl, rfl, rfl, rfl, hw⟩), (by rw [ht]; exact hP9), va_K.moved hW.alike hK, hD9⟩, hS.F ht⟩) hS.2.2 dL_end_15

set_option maxHeartbeats 4000000 in
set_option maxRecDepth 100000 in
theorem c_L_raise (l : Launch) (dC : Nat → ClassId) (dI : Nat → Nat → Nat) (cI cZ cJ : ClassId) (a : Nat → Nat) (nk : Nat) (pa : Nat → Int32) (fa : Nat → Int32) (nc : Nat) (fo : Nat → Int32) (th : Nat → Int32) (tg : Nat → Int32) (nt : Nat) (tb : Nat → Int32) (te : Nat → Int32) (tk : Nat → Int32) (tt : Nat → Int32) (nu : Nat) (ub : Nat → Int32) (ue : Nat → Int32) (uk : Nat → Int32) (ut : Nat → Int32) (re : Nat → Int32) (ro : Nat → Int32) (fu : Nat → Int32) (bl : Nat → Int32) (go : Nat → Int32) (ra : Nat → Int32) (rc : Nat) (ex : Int32) (tc : Int32) (es : Int32) (wy : Int64) (x : Int32) (T : Nat → Nat → Nat) (up : Nat → Nat → Bool) (ou : Nat) (fz : Nat → Int64) (sz : Nat) (hlt : l.stackTraces = false) (hg : g3 nk fa up nt tb te tk tt T) (hc : okC nk nc fo th tg) : Met l yL_raise wsL_raise ({ frames := 8, cells := 2, slots := 12, locals := 124 } : Room) (va_Pc [.ref (a 0), .int x, .ref ou] (zTl (dC, dI) [(cI, .int), (cZ, .boolean), (cJ, .long)] ((w3 a cI cZ nk pa fa nc fo th tg nt tb te tk tt nu ub ue uk ut re ro fu bl go ra rc ex tc es wy) ++ ([(ou, .inl (cJ, 1, .inr (.inl fz)))])) sz)) (va_Qi (fun (r : Int32) (u : Nat × (Nat → Int32) × (Nat → Int32) × (Nat → Int32) × (Nat → Int64)) => match u with | (v_c_3, v_cf, v_ct, v_cg, fz9) => ((r = 0 ∧ fz9 = vp_updL fz 0 ((nI nc).toInt64) ∧ v_c_3 = (nc + 1) ∧ v_cf = (upd fo nc 4) ∧ v_ct = (upd th nc (1 <<< (x &&& 31))) ∧ v_cg = (upd tg nc (-1)) ∧ ((hasI x nk = true ∧ nc < 48) ∧ okC nk (nc + 1) (upd fo nc 4) (upd th nc (1 <<< (x &&& 31))) (upd tg nc (-1))))) ∨ (r = 1 ∧ (hasI x nk = false) ∧ fz9 = fz ∧ v_c_3 = nc ∧ v_cf = fo ∧ v_ct = th ∧ v_cg = tg) ∨ (r = 2 ∧ (hasI x nk = true ∧ nc = 48) ∧ fz9 = fz ∧ v_c_3 = nc ∧ v_cf = fo ∧ v_ct = th ∧ v_cg = tg)) (fun u t => match u with | (v_c_3, v_cf, v_ct, v_cg, fz9) => zWo (dC, dI) [(cI, .int), (cZ, .boolean), (cJ, .long)] ((w3 a cI cZ nk pa fa v_c_3 v_cf v_ct v_cg nt tb te tk tt nu ub ue uk ut re ro fu bl go ra rc ex tc es wy) ++ ([(ou, .inl (cJ, 1, .inr (.inl fz9)))])) (va_A ((w3 a cI cZ nk pa fa nc fo th tg nt tb te tk tt nu ub ue uk ut re ro fu bl go ra rc ex tc es wy) ++ ([(ou, .inl (cJ, 1, .inr (.inl fz)))])) sz) t) (va_A ((w3 a cI cZ nk pa fa nc fo th tg nt tb te tk tt nu ub ue uk ut re ro fu bl go ra rc ex tc es wy) ++ ([(ou, .inl (cJ, 1, .inr (.inl fz)))])) sz)) 2 12 (va_A ((w3 a cI cZ nk pa fa nc fo th tg nt tb te tk tt nu ub ue uk ut re ro fu bl go ra rc ex tc es wy) ++ ([(ou, .inl (cJ, 1, .inr (.inl fz)))])) sz) := by
  refine va_MetW (cc := cL_raise) (maxL := 4) (ret := (some .int)) (hh := [(0, 9, 12, 13), (0, 9, 15, 15)]) (by decide) rfl ?_
  intro p e s m args below meth c s₁ B hml hv
  obtain ⟨hav, ⟨⟨hsz, ⟨hP, hK, hn⟩, hD0⟩, hzt, hzu⟩, hzc⟩ := hv
  have hx := B.exec
  have hb := B.bytes
  have hr := B.returns
  have hts := atoms_spec (ws := wsL_raise) B.pre
  have hown : s.vm.findClass RL = some m.cls := findClass_of_methodNamed B.named
  have hlocks := B.notSynchronized
  have htab : c.exceptionTable.toList = [⟨0, 9, 12, 13⟩, ⟨0, 9, 15, 15⟩] := vx_table (x := yL_raise) B (hh := [(0, 9, 12, 13), (0, 9, 15, 15)]) (hts _ (by unfold wsL_raise; exact List.mem_cons_self))
  subst hsz
  have hD := hD0.self (sz := s.heap.size)
  generalize hAe : (va_A ((w3 a cI cZ nk pa fa nc fo th tg nt tb te tk tt nu ub ue uk ut re ro fu bl go ra rc ex tc es wy) ++ ([(ou, .inl (cJ, 1, .inr (.inl fz)))])) s.heap.size) = A at hD hzu ⊢
  have hA : ∀ q : Nat, s.heap.size ≤ q → A q := fun q h => by rw [← hAe]; exact Or.inr h
  have hS : va_S A s.heap s.heap [] := va_S.rf
  generalize hQ : MQ below (va_Qi (fun (r : Int32) (u : Nat × (Nat → Int32) × (Nat → Int32) × (Nat → Int32) × (Nat → Int64)) => match u with | (v_c_3, v_cf, v_ct, v_cg, fz9) => ((r = 0 ∧ fz9 = vp_updL fz 0 ((nI nc).toInt64) ∧ v_c_3 = (nc + 1) ∧ v_cf = (upd fo nc 4) ∧ v_ct = (upd th nc (1 <<< (x &&& 31))) ∧ v_cg = (upd tg nc (-1)) ∧ ((hasI x nk = true ∧ nc < 48) ∧ okC nk (nc + 1) (upd fo nc 4) (upd th nc (1 <<< (x &&& 31))) (upd tg nc (-1))))) ∨ (r = 1 ∧ (hasI x nk = false) ∧ fz9 = fz ∧ v_c_3 = nc ∧ v_cf = fo ∧ v_ct = th ∧ v_cg = tg) ∨ (r = 2 ∧ (hasI x nk = true ∧ nc = 48) ∧ fz9 = fz ∧ v_c_3 = nc ∧ v_cf = fo ∧ v_ct = th ∧ v_cg = tg)) (fun u t => match u with | (v_c_3, v_cf, v_ct, v_cg, fz9) => zWo (dC, dI) [(cI, .int), (cZ, .boolean), (cJ, .long)] ((w3 a cI cZ nk pa fa v_c_3 v_cf v_ct v_cg nt tb te tk tt nu ub ue uk ut re ro fu bl go ra rc ex tc es wy) ++ ([(ou, .inl (cJ, 1, .inr (.inl fz9)))])) A t) A) args s 2 12 A = Q
  refine W.eq (g2 := entryFrame m ([.ref (a 0), .int x, .ref ou] : List Value).toArray 4) (by rw [hav]) ?_
  have hl := lv_entry ([.ref (a 0), .int x, .ref ou]) (n := 4) (Nat.le_of_ble_eq_true rfl)
  rw [lg_entry_eq]
  generalize (lg_sl ([.ref (a 0), .int x, .ref ou]) ++ List.replicate (4 - (lg_sl ([.ref (a 0), .int x, .ref ou])).length) Slot.unset).toArray = ls at hl ⊢
  have hl : lv_has ls 4 [(0, .ref (a 0)), (1, .int x), (2, .ref ou)] := hl
  obtain ⟨H, hH⟩ : ∃ H, H = s.heap := ⟨_, rfl⟩
  obtain ⟨locs, hlo⟩ : ∃ q : List Loc, q = [] := ⟨_, rfl⟩
  have hP : va_P (dC, dI) vwCl ((w3 a cI cZ nk pa fa nc fo th tg nt tb te tk tt nu ub ue uk ut re ro fu bl go ra rc ex tc es wy) ++ ([(ou, .inl (cJ, 1, .inr (.inl fz)))])) H := by rw [hH]; exact hP
  have hS : va_S A s.heap H locs := by rw [hH, hlo]; exact hS
  refine zz_hl hH hlo ?_
  refine lv_aload_n hx hb dL_raise_0 rfl (lv_at hl 2 rfl) ?_
  refine lv_iconst (v := 0) hx hb dL_raise_1 (by decide) ?_
  refine lv_aload_n hx hb dL_raise_2 rfl (lv_at hl 0 rfl) ?_
  refine lv_iload_n hx hb dL_raise_3 rfl (lv_at hl 1 rfl) ?_
  have hPc := hP.sub (ws' := w3 a cI cZ nk pa fa nc fo th tg nt tb te tk tt nu ub ue uk ut re ro fu bl go ra rc ex tc es wy) [0, 1, 2, 3, 4, 5, 6, 7, 8, 9, 10, 11, 12, 13, 14, 15, 16, 17, 18, 19, 20, 21, 22, 23] rfl
  have hDc := hD.sub (ws' := w3 a cI cZ nk pa fa nc fo th tg nt tb te tk tt nu ub ue uk ut re ro fu bl go ra rc ex tc es wy) [0, 1, 2, 3, 4, 5, 6, 7, 8, 9, 10, 11, 12, 13, 14, 15, 16, 17, 18, 19, 20, 21, 22, 23] (by decide) rfl
  have hFc := va_free (wc := w3 a cI cZ nk pa fa nc fo th tg nt tb te tk tt nu ub ue uk ut re ro fu bl go ra rc ex tc es wy) hD hS hA [0, 1, 2, 3, 4, 5, 6, 7, 8, 9, 10, 11, 12, 13, 14, 15, 16, 17, 18, 19, 20, 21, 22, 23] rfl
  refine vx_calli (vx_runV (As := [.int x]) (rest := [.int 0, .ref ou]) ⟨hx, hb, hml, hown, hts⟩ (c_X3_raise l dC dI cI cZ cJ a nk pa fa nc fo th tg nt tb te tk tt nu ub ue uk ut re ro fu bl go ra rc ex tc es wy x T up H.size hlt (hg) (hc)) (cwV 1 hts gL_raise_X3_raise rfl rfl rfl (by decide +kernel) ⟨Nat.le_of_ble_eq_true rfl, Nat.le_of_ble_eq_true rfl⟩) ⟨zTr_blind, va_recv hK hPc (ci := 3) (q0 := 0) rfl rfl, zTr_at hPc hK hn (hDc.weaken (fun _ _ _ _ => trivial)) hzt hzu hS hFc⟩ rfl rfl hl.1 rfl (lv_room (Nat.le_of_ble_eq_true rfl)) dL_raise_4 ⟨Nat.le_of_ble_eq_true rfl, Nat.le_of_ble_eq_true rfl⟩) hS (fun q _ h => hFc q h) hFc (fun q _ h => hFc q h) (fun E ce q9 u_9 t H1 locs ht hvm hpx hBX hz1 hk1 hS hc9 hv9 hcl => ?_) (fun r_1 u_9 t H1 locs ht hvm hw hB hz1 hk1 hS => ?_)
  · skip
    obtain ⟨hXE, hP1, -, hD1⟩ := hBX
    rw [ht] at hP1
    obtain ⟨hP, hD⟩ := va_join (wr := [(ou, .inl (cJ, 1, .inr (.inl fz)))]) (w1 := w3 a cI cZ nk pa fa nc fo th tg nt tb te tk tt nu ub ue uk ut re ro fu bl go ra rc ex tc es wy) hP hD [0, 1, 2, 3, 4, 5, 6, 7, 8, 9, 10, 11, 12, 13, 14, 15, 16, 17, 18, 19, 20, 21, 22, 23] [24] rfl rfl (by decide) (by decide) hk1 hFc hP1 hD1
    generalize H1 = H at hP hS hc9 ⊢
    have hP := hP.sub (ws' := (w3 a cI cZ nk pa fa nc fo th tg nt tb te tk tt nu ub ue uk ut re ro fu bl go ra rc ex tc es wy) ++ ([(ou, .inl (cJ, 1, .inr (.inl fz)))])) [1, 2, 3, 4, 5, 6, 7, 8, 9, 10, 11, 12, 13, 14, 15, 16, 17, 18, 19, 20, 21, 22, 23, 24, 0] rfl
    have hD := hD.sub (ws' := (w3 a cI cZ nk pa fa nc fo th tg nt tb te tk tt nu ub ue uk ut re ro fu bl go ra rc ex tc es wy) ++ ([(ou, .inl (cJ, 1, .inr (.inl fz)))])) [1, 2, 3, 4, 5, 6, 7, 8, 9, 10, 11, 12, 13, 14, 15, 16, 17, 18, 19, 20, 21, 22, 23, 24, 0] (by decide) rfl
    have hP : va_P (dC, dI) vwCl ((w3 a cI cZ nk pa fa nc fo th tg nt tb te tk tt nu ub ue uk ut re ro fu bl go ra rc ex tc es wy) ++ ([(ou, .inl (cJ, 1, .inr (.inl fz)))])) H := hP
    have hD : va_D A ((w3 a cI cZ nk pa fa nc fo th tg nt tb te tk tt nu ub ue uk ut re ro fu bl go ra rc ex tc es wy) ++ ([(ou, .inl (cJ, 1, .inr (.inl fz)))])) := hD
    refine vx_widen (k := 2) (n := 12) (by omega) (by omega) ?_
    rcases hXE with ⟨rfl, hp9⟩ | ⟨rfl, hp9⟩
    · skip
      refine vx_catch (own := RL) (name := "java/lang/IndexOutOfBoundsException") hown [] ⟨0, 9, 12, 13⟩ [⟨0, 9, 15, 15⟩] htab (fun z hz => absurd hz List.not_mem_nil) (by decide) (by decide) (hts (.classLink RL 13 "java/lang/IndexOutOfBoundsException") (by decide +kernel)) (va_Nw.use rfl (hzt.1 (.castable "java/lang/IndexOutOfBoundsException" "java/lang/IndexOutOfBoundsException") (by decide +kernel))) hc9 hv9 hcl ?_
      refine lv_astore_n (lv' := [(3, .ref q9), (0, .ref (a 0)), (1, .int x), (2, .ref ou)]) hx hb dL_raise_12 rfl hl (by decide) rfl (fun ls hl => ?_)
      refine lv_iconst (v := 1) hx hb dL_raise_13 (by decide) ?_
      rw [← hQ]
      have hP9 := hP
      have hD9 := hD
      exact W.iret (v := 1) hx hb hr (fun t ht hW => ⟨⟨1, (nc, fo, th, tg, fz), rfl, (Or.inr (Or.inl ⟨rfl, hp9, rfl, rfl, rfl, rfl, rfl⟩)), (by rw [ht]; exact hP9), va_K.moved hW.alike hK, hD9⟩, hS.F ht⟩) hS.2.2 dL_raise_14
    · skip
      refine vx_catch (own := RL) (name := "java/lang/IllegalStateException") hown [⟨0, 9, 12, 13⟩] ⟨0, 9, 15, 15⟩ [] htab (fun z hz => by rcases List.mem_singleton.mp hz with rfl; exact Or.inr ⟨by decide, "java/lang/IndexOutOfBoundsException", hts (.classLink RL 13 "java/lang/IndexOutOfBoundsException") (by decide +kernel), hzc.1⟩) (by decide) (by decide) (hts (.classLink RL 15 "java/lang/IllegalStateException") (by decide +kernel)) (va_Nw.use rfl (hzt.1 (.castable "java/lang/IllegalStateException" "java/lang/IllegalStateException") (by decide +kernel))) hc9 hv9 hcl ?_
      refine lv_astore_n (lv' := [(3, .ref q9), (0, .ref (a 0)), (1, .int x), (2, .ref ou)]) hx hb dL_raise_15 rfl hl (by decide) rfl (fun ls hl => ?_)
      refine lv_iconst (v := 2) hx hb dL_raise_16 (by decide) ?_
      rw [← hQ]
      have hP9 := hP
      have hD9 := hD
      exact W.iret (v := 2) hx hb hr (fun t ht hW => ⟨⟨2, (nc, fo, th, tg, fz), rfl, (Or.inr (Or.inr ⟨rfl, hp9, rfl, rfl, rfl, rfl, rfl⟩)), (by rw [ht]; exact hP9), va_K.moved hW.alike hK, hD9⟩, hS.F ht⟩) hS.2.2 dL_raise_17
  obtain ⟨hP1, -, hD1⟩ := hB
  rw [ht] at hP1
  obtain ⟨hP, hD⟩ := va_join (wr := [(ou, .inl (cJ, 1, .inr (.inl fz)))]) (w1 := w3 a cI cZ nk pa fa (nc + 1) (upd fo nc 4) (upd th nc (1 <<< (x &&& 31))) (upd tg nc (-1)) nt tb te tk tt nu ub ue uk ut re ro fu bl go ra rc ex tc es wy) hP hD [0, 1, 2, 3, 4, 5, 6, 7, 8, 9, 10, 11, 12, 13, 14, 15, 16, 17, 18, 19, 20, 21, 22, 23] [24] rfl rfl (by decide) (by decide) hk1 hFc hP1 hD1
  generalize H1 = H at hP hS ⊢
  have hP := hP.sub (ws' := (w3 a cI cZ nk pa fa (nc + 1) (upd fo nc 4) (upd th nc (1 <<< (x &&& 31))) (upd tg nc (-1)) nt tb te tk tt nu ub ue uk ut re ro fu bl go ra rc ex tc es wy) ++ ([(ou, .inl (cJ, 1, .inr (.inl fz)))])) [1, 2, 3, 4, 5, 6, 7, 8, 9, 10, 11, 12, 13, 14, 15, 16, 17, 18, 19, 20, 21, 22, 23, 24, 0] rfl
  have hD := hD.sub (ws' := (w3 a cI cZ nk pa fa (nc + 1) (upd fo nc 4) (upd th nc (1 <<< (x &&& 31))) (upd tg nc (-1)) nt tb te tk tt nu ub ue uk ut re ro fu bl go ra rc ex tc es wy) ++ ([(ou, .inl (cJ, 1, .inr (.inl fz)))])) [1, 2, 3, 4, 5, 6, 7, 8, 9, 10, 11, 12, 13, 14, 15, 16, 17, 18, 19, 20, 21, 22, 23, 24, 0] (by decide) rfl
  have hP : va_P (dC, dI) vwCl ((w3 a cI cZ nk pa fa (nc + 1) (upd fo nc 4) (upd th nc (1 <<< (x &&& 31))) (upd tg nc (-1)) nt tb te tk tt nu ub ue uk ut re ro fu bl go ra rc ex tc es wy) ++ ([(ou, .inl (cJ, 1, .inr (.inl fz)))])) H := hP
  have hD : va_D A ((w3 a cI cZ nk pa fa (nc + 1) (upd fo nc 4) (upd th nc (1 <<< (x &&& 31))) (upd tg nc (-1)) nt tb te tk tt nu ub ue uk ut re ro fu bl go ra rc ex tc es wy) ++ ([(ou, .inl (cJ, 1, .inr (.inl fz)))])) := hD
  refine W.widen (k := 2) (n := 12) (by omega) (by omega) ?_
  obtain ⟨hw0, hw⟩ := hw
  subst hw0
  refine lv_i2l (v := (nI nc).toInt64) hx hb dL_raise_7 rfl ?_
  refine va_last hx hb hK hP hD hS 24 2 rfl rfl (vp_in_nI (n := 0) (by omega) (by decide)) dL_raise_8 (fun H locs hP hD hS => ?_)
  have hP : va_P (dC, dI) vwCl ((w3 a cI cZ nk pa fa (nc + 1) (upd fo nc 4) (upd th nc (1 <<< (x &&& 31))) (upd tg nc (-1)) nt tb te tk tt nu ub ue uk ut re ro fu bl go ra rc ex tc es wy) ++ ([(ou, .inl (cJ, 1, .inr (.inl (vp_updL fz 0 ((nI nc).toInt64)))))])) H := hP
  have hD : va_D A ((w3 a cI cZ nk pa fa (nc + 1) (upd fo nc 4) (upd th nc (1 <<< (x &&& 31))) (upd tg nc (-1)) nt tb te tk tt nu ub ue uk ut re ro fu bl go ra rc ex tc es wy) ++ ([(ou, .inl (cJ, 1, .inr (.inl (vp_updL fz 0 ((nI nc).toInt64)))))])) := hD
  refine lv_goto (tgt := 18) hx hb dL_raise_9 (by decide) ?_
  refine lv_iconst (v := 0) hx hb dL_raise_18 (by decide) ?_
  rw [← hQ]
  have hP9 := hP
  have hD9 := hD
  exact W.iret (v := 0) hx hb hr (fun t ht hW => ⟨⟨0, (nc + 1, upd fo nc 4, upd th nc (1 <<< (x &&& 31)), upd tg nc (-1), vp_updL fz 0 ((nI nc).toInt64)), rfl, (Or.inl ⟨rfl, rfl, rfl, rfl, rfl, rfl, hw⟩), (by rw [ht]; exact hP9), va_K.moved hW.alike hK, hD9⟩, hS.F ht⟩) hS.2.2 dL_raise_19

set_option maxHeartbeats 4000000 in
set_option maxRecDepth 100000 in
theorem c_L_instruction (l : Launch) (dC : Nat → ClassId) (dI : Nat → Nat → Nat) (cI cZ cJ : ClassId) (a : Nat → Nat) (nk : Nat) (pa : Nat → Int32) (fa : Nat → Int32) (nc : Nat) (fo : Nat → Int32) (th : Nat → Int32) (tg : Nat → Int32) (nt : Nat) (tb : Nat → Int32) (te : Nat → Int32) (tk : Nat → Int32) (tt : Nat → Int32) (nu : Nat) (ub : Nat → Int32) (ue : Nat → Int32) (uk : Nat → Int32) (ut : Nat → Int32) (re : Nat → Int32) (ro : Nat → Int32) (fu : Nat → Int32) (bl : Nat → Int32) (go : Nat → Int32) (ra : Nat → Int32) (rc : Nat) (ex : Int32) (tc : Int32) (es : Int32) (wy : Int64) (x : Int32) (wh : Int32) (T : Nat → Nat → Nat) (up : Nat → Nat → Bool) (ou : Nat) (fz : Nat → Int64) (sz : Nat) (hlt : l.stackTraces = false) (hg : g3 nk fa up nt tb te tk tt T) (hc : okC nk nc fo th tg) : Met l yL_instruction wsL_instruction ({ frames := 8, cells := 2, slots := 12, locals := 125 } : Room) (va_Pc [.ref (a 0), .int x, .int wh, .ref ou] (zTl (dC, dI) [(cI, .int), (cZ, .boolean), (cJ, .long)] ((w3 a cI cZ nk pa fa nc fo th tg nt tb te tk tt nu ub ue uk ut re ro fu bl go ra rc ex tc es wy) ++ ([(ou, .inl (cJ, 1, .inr (.inl fz)))])) sz)) (va_Qi (fun (r : Int32) (fz9 : Nat → Int64) => ((r = 0 ∧ fz9 = vp_updL fz 0 ((insV fo th tg x.toNatClampNeg wh).toInt64) ∧ ((hasI x nc && hasI wh 3) = true))) ∨ (r = 1 ∧ ((hasI x nc && hasI wh 3) = false) ∧ fz9 = fz)) (fun fz9 t => zWo (dC, dI) [(cI, .int), (cZ, .boolean), (cJ, .long)] ((w3 a cI cZ nk pa fa nc fo th tg nt tb te tk tt nu ub ue uk ut re ro fu bl go ra rc ex tc es wy) ++ ([(ou, .inl (cJ, 1, .inr (.inl fz9)))])) (va_A ((w3 a cI cZ nk pa fa nc fo th tg nt tb te tk tt nu ub ue uk ut re ro fu bl go ra rc ex tc es wy) ++ ([(ou, .inl (cJ, 1, .inr (.inl fz)))])) sz) t) (va_A ((w3 a cI cZ nk pa fa nc fo th tg nt tb te tk tt nu ub ue uk ut re ro fu bl go ra rc ex tc es wy) ++ ([(ou, .inl (cJ, 1, .inr (.inl fz)))])) sz)) 2 12 (va_A ((w3 a cI cZ nk pa fa nc fo th tg nt tb te tk tt nu ub ue uk ut re ro fu bl go ra rc ex tc es wy) ++ ([(ou, .inl (cJ, 1, .inr (.inl fz)))])) sz) := by
  refine va_MetW (cc := cL_instruction) (maxL := 5) (ret := (some .int)) (hh := [(0, 10, 13, 13)]) (by decide) rfl ?_
  intro p e s m args below meth c s₁ B hml hv
  obtain ⟨hav, ⟨⟨hsz, ⟨hP, hK, hn⟩, hD0⟩, hzt, hzu⟩, hzc⟩ := hv
  have hx := B.exec
  have hb := B.bytes
  have hr := B.returns
  have hts := atoms_spec (ws := wsL_instruction) B.pre
  have hown : s.vm.findClass RL = some m.cls := findClass_of_methodNamed B.named
  have hlocks := B.notSynchronized
  have htab : c.exceptionTable.toList = [⟨0, 10, 13, 13⟩] := vx_table (x := yL_instruction) B (hh := [(0, 10, 13, 13)]) (hts _ (by unfold wsL_instruction; exact List.mem_cons_self))
  subst hsz
  have hD := hD0.self (sz := s.heap.size)
  generalize hAe : (va_A ((w3 a cI cZ nk pa fa nc fo th tg nt tb te tk tt nu ub ue uk ut re ro fu bl go ra rc ex tc es wy) ++ ([(ou, .inl (cJ, 1, .inr (.inl fz)))])) s.heap.size) = A at hD hzu ⊢
  have hA : ∀ q : Nat, s.heap.size ≤ q → A q := fun q h => by rw [← hAe]; exact Or.inr h
  have hS : va_S A s.heap s.heap [] := va_S.rf
  generalize hQ : MQ below (va_Qi (fun (r : Int32) (fz9 : Nat → Int64) => ((r = 0 ∧ fz9 = vp_updL fz 0 ((insV fo th tg x.toNatClampNeg wh).toInt64) ∧ ((hasI x nc && hasI wh 3) = true))) ∨ (r = 1 ∧ ((hasI x nc && hasI wh 3) = false) ∧ fz9 = fz)) (fun fz9 t => zWo (dC, dI) [(cI, .int), (cZ, .boolean), (cJ, .long)] ((w3 a cI cZ nk pa fa nc fo th tg nt tb te tk tt nu ub ue uk ut re ro fu bl go ra rc ex tc es wy) ++ ([(ou, .inl (cJ, 1, .inr (.inl fz9)))])) A t) A) args s 2 12 A = Q
  refine W.eq (g2 := entryFrame m ([.ref (a 0), .int x, .int wh, .ref ou] : List Value).toArray 5) (by rw [hav]) ?_
  have hl := lv_entry ([.ref (a 0), .int x, .int wh, .ref ou]) (n := 5) (Nat.le_of_ble_eq_true rfl)
  rw [lg_entry_eq]
  generalize (lg_sl ([.ref (a 0), .int x, .int wh, .ref ou]) ++ List.replicate (5 - (lg_sl ([.ref (a 0), .int x, .int wh, .ref ou])).length) Slot.unset).toArray = ls at hl ⊢
  have hl : lv_has ls 5 [(0, .ref (a 0)), (1, .int x), (2, .int wh), (3, .ref ou)] := hl
  obtain ⟨H, hH⟩ : ∃ H, H = s.heap := ⟨_, rfl⟩
  obtain ⟨locs, hlo⟩ : ∃ q : List Loc, q = [] := ⟨_, rfl⟩
  have hP : va_P (dC, dI) vwCl ((w3 a cI cZ nk pa fa nc fo th tg nt tb te tk tt nu ub ue uk ut re ro fu bl go ra rc ex tc es wy) ++ ([(ou, .inl (cJ, 1, .inr (.inl fz)))])) H := by rw [hH]; exact hP
  have hS : va_S A s.heap H locs := by rw [hH, hlo]; exact hS
  refine zz_hl hH hlo ?_
  refine lv_aload_n hx hb dL_instruction_0 rfl (lv_at hl 3 rfl) ?_
  refine lv_iconst (v := 0) hx hb dL_instruction_1 (by decide) ?_
  refine lv_aload_n hx hb dL_instruction_2 rfl (lv_at hl 0 rfl) ?_
  refine lv_iload_n hx hb dL_instruction_3 rfl (lv_at hl 1 rfl) ?_
  refine lv_iload_n hx hb dL_instruction_4 rfl (lv_at hl 2 rfl) ?_
  have hPc := hP.sub (ws' := w3 a cI cZ nk pa fa nc fo th tg nt tb te tk tt nu ub ue uk ut re ro fu bl go ra rc ex tc es wy) [0, 1, 2, 3, 4, 5, 6, 7, 8, 9, 10, 11, 12, 13, 14, 15, 16, 17, 18, 19, 20, 21, 22, 23] rfl
  have hDc := hD.sub (ws' := w3 a cI cZ nk pa fa nc fo th tg nt tb te tk tt nu ub ue uk ut re ro fu bl go ra rc ex tc es wy) [0, 1, 2, 3, 4, 5, 6, 7, 8, 9, 10, 11, 12, 13, 14, 15, 16, 17, 18, 19, 20, 21, 22, 23] (by decide) rfl
  have hFc := va_free (wc := w3 a cI cZ nk pa fa nc fo th tg nt tb te tk tt nu ub ue uk ut re ro fu bl go ra rc ex tc es wy) hD hS hA [0, 1, 2, 3, 4, 5, 6, 7, 8, 9, 10, 11, 12, 13, 14, 15, 16, 17, 18, 19, 20, 21, 22, 23] rfl
  refine vx_calli (vx_runV (As := [.int x, .int wh]) (rest := [.int 0, .ref ou]) ⟨hx, hb, hml, hown, hts⟩ (c_X3_instruction l dC dI cI cZ cJ a nk pa fa nc fo th tg nt tb te tk tt nu ub ue uk ut re ro fu bl go ra rc ex tc es wy x wh T up H.size hlt (hg) (hc)) (cwV 2 hts gL_instruction_X3_instruction rfl rfl rfl (by decide +kernel) ⟨Nat.le_of_ble_eq_true rfl, Nat.le_of_ble_eq_true rfl⟩) ⟨zTr_blind, va_recv hK hPc (ci := 3) (q0 := 0) rfl rfl, zTr_at hPc hK hn (hDc.weaken (fun _ _ _ _ => trivial)) hzt hzu hS hFc⟩ rfl rfl hl.1 rfl (lv_room (Nat.le_of_ble_eq_true rfl)) dL_instruction_5 ⟨Nat.le_of_ble_eq_true rfl, Nat.le_of_ble_eq_true rfl⟩) hS (fun q _ h => hFc q h) hFc (fun q _ h => hFc q h) (fun E ce q9 u_9 t H1 locs ht hvm hpx hBX hz1 hk1 hS hc9 hv9 hcl => ?_) (fun r_1 u_9 t H1 locs ht hvm hw hB hz1 hk1 hS => ?_)
  · skip
    obtain ⟨hXE, hP1, -, hD1⟩ := hBX
    rw [ht] at hP1
    obtain ⟨hP, hD⟩ := va_join (wr := [(ou, .inl (cJ, 1, .inr (.inl fz)))]) (w1 := w3 a cI cZ nk pa fa nc fo th tg nt tb te tk tt nu ub ue uk ut re ro fu bl go ra rc ex tc es wy) hP hD [0, 1, 2, 3, 4, 5, 6, 7, 8, 9, 10, 11, 12, 13, 14, 15, 16, 17, 18, 19, 20, 21, 22, 23] [24] rfl rfl (by decide) (by decide) hk1 hFc hP1 hD1
    generalize H1 = H at hP hS hc9 ⊢
    have hP := hP.sub (ws' := (w3 a cI cZ nk pa fa nc fo th tg nt tb te tk tt nu ub ue uk ut re ro fu bl go ra rc ex tc es wy) ++ ([(ou, .inl (cJ, 1, .inr (.inl fz)))])) [1, 2, 3, 4, 5, 6, 7, 8, 9, 10, 11, 12, 13, 14, 15, 16, 17, 18, 19, 20, 21, 22, 23, 24, 0] rfl
    have hD := hD.sub (ws' := (w3 a cI cZ nk pa fa nc fo th tg nt tb te tk tt nu ub ue uk ut re ro fu bl go ra rc ex tc es wy) ++ ([(ou, .inl (cJ, 1, .inr (.inl fz)))])) [1, 2, 3, 4, 5, 6, 7, 8, 9, 10, 11, 12, 13, 14, 15, 16, 17, 18, 19, 20, 21, 22, 23, 24, 0] (by decide) rfl
    have hP : va_P (dC, dI) vwCl ((w3 a cI cZ nk pa fa nc fo th tg nt tb te tk tt nu ub ue uk ut re ro fu bl go ra rc ex tc es wy) ++ ([(ou, .inl (cJ, 1, .inr (.inl fz)))])) H := hP
    have hD : va_D A ((w3 a cI cZ nk pa fa nc fo th tg nt tb te tk tt nu ub ue uk ut re ro fu bl go ra rc ex tc es wy) ++ ([(ou, .inl (cJ, 1, .inr (.inl fz)))])) := hD
    refine vx_widen (k := 2) (n := 12) (by omega) (by omega) ?_
    rcases hXE with ⟨rfl, hp9⟩
    · skip
      refine vx_catch (own := RL) (name := "java/lang/IndexOutOfBoundsException") hown [] ⟨0, 10, 13, 13⟩ [] htab (fun z hz => absurd hz List.not_mem_nil) (by decide) (by decide) (hts (.classLink RL 13 "java/lang/IndexOutOfBoundsException") (by decide +kernel)) (va_Nw.use rfl (hzt.1 (.castable "java/lang/IndexOutOfBoundsException" "java/lang/IndexOutOfBoundsException") (by decide +kernel))) hc9 hv9 hcl ?_
      refine lv_astore (lv' := [(4, .ref q9), (0, .ref (a 0)), (1, .int x), (2, .int wh), (3, .ref ou)]) hx hb dL_instruction_13 hl (by decide) rfl (fun ls hl => ?_)
      refine lv_iconst (v := 1) hx hb dL_instruction_15 (by decide) ?_
      rw [← hQ]
      have hP9 := hP
      have hD9 := hD
      exact W.iret (v := 1) hx hb hr (fun t ht hW => ⟨⟨1, fz, rfl, (Or.inr ⟨rfl, hp9, rfl⟩), (by rw [ht]; exact hP9), va_K.moved hW.alike hK, hD9⟩, hS.F ht⟩) hS.2.2 dL_instruction_16
  obtain ⟨hP1, -, hD1⟩ := hB
  rw [ht] at hP1
  obtain ⟨hP, hD⟩ := va_join (wr := [(ou, .inl (cJ, 1, .inr (.inl fz)))]) (w1 := w3 a cI cZ nk pa fa nc fo th tg nt tb te tk tt nu ub ue uk ut re ro fu bl go ra rc ex tc es wy) hP hD [0, 1, 2, 3, 4, 5, 6, 7, 8, 9, 10, 11, 12, 13, 14, 15, 16, 17, 18, 19, 20, 21, 22, 23] [24] rfl rfl (by decide) (by decide) hk1 hFc hP1 hD1
  generalize H1 = H at hP hS ⊢
  have hP := hP.sub (ws' := (w3 a cI cZ nk pa fa nc fo th tg nt tb te tk tt nu ub ue uk ut re ro fu bl go ra rc ex tc es wy) ++ ([(ou, .inl (cJ, 1, .inr (.inl fz)))])) [1, 2, 3, 4, 5, 6, 7, 8, 9, 10, 11, 12, 13, 14, 15, 16, 17, 18, 19, 20, 21, 22, 23, 24, 0] rfl
  have hD := hD.sub (ws' := (w3 a cI cZ nk pa fa nc fo th tg nt tb te tk tt nu ub ue uk ut re ro fu bl go ra rc ex tc es wy) ++ ([(ou, .inl (cJ, 1, .inr (.inl fz)))])) [1, 2, 3, 4, 5, 6, 7, 8, 9, 10, 11, 12, 13, 14, 15, 16, 17, 18, 19, 20, 21, 22, 23, 24, 0] (by decide) rfl
  have hP : va_P (dC, dI) vwCl ((w3 a cI cZ nk pa fa nc fo th tg nt tb te tk tt nu ub ue uk ut re ro fu bl go ra rc ex tc es wy) ++ ([(ou, .inl (cJ, 1, .inr (.inl fz)))])) H := hP
  have hD : va_D A ((w3 a cI cZ nk pa fa nc fo th tg nt tb te tk tt nu ub ue uk ut re ro fu bl go ra rc ex tc es wy) ++ ([(ou, .inl (cJ, 1, .inr (.inl fz)))])) := hD
  refine W.widen (k := 2) (n := 12) (by omega) (by omega) ?_
  obtain ⟨hw0, hw⟩ := hw
  subst hw0
  refine lv_i2l (v := (insV fo th tg x.toNatClampNeg wh).toInt64) hx hb dL_instruction_8 rfl ?_
  refine va_last hx hb hK hP hD hS 24 2 rfl rfl (vp_in_nI (n := 0) (by omega) (by decide)) dL_instruction_9 (fun H locs hP hD hS => ?_)
  have hP : va_P (dC, dI) vwCl ((w3 a cI cZ nk pa fa nc fo th tg nt tb te tk tt nu ub ue uk ut re ro fu bl go ra rc ex tc es wy) ++ ([(ou, .inl (cJ, 1, .inr (.inl (vp_updL fz 0 ((insV fo th tg x.toNatClampNeg wh).toInt64)))))])) H := hP
  have hD : va_D A ((w3 a cI cZ nk pa fa nc fo th tg nt tb te tk tt nu ub ue uk ut re ro fu bl go ra rc ex tc es wy) ++ ([(ou, .inl (cJ, 1, .inr (.inl (vp_updL fz 0 ((insV fo th tg x.toNatClampNeg wh).toInt64)))))])) := hD
  refine lv_goto (tgt := 17) hx hb dL_instruction_10 (by decide) ?_
  refine lv_iconst (v := 0) hx hb dL_instruction_17 (by decide) ?_
  rw [← hQ]
  have hP9 := hP
  have hD9 := hD
  exact W.iret (v := 0) hx hb hr (fun t ht hW => ⟨⟨0, vp_updL fz 0 ((insV fo th tg x.toNatClampNeg wh).toInt64), rfl, (Or.inl ⟨rfl, rfl, hw⟩), (by rw [ht]; exact hP9), va_K.moved hW.alike hK, hD9⟩, hS.F ht⟩) hS.2.2 dL_instruction_18

set_option maxHeartbeats 4000000 in
set_option maxRecDepth 100000 in
theorem c_L_addEntry (l : Launch) (dC : Nat → ClassId) (dI : Nat → Nat → Nat) (cI cZ cJ : ClassId) (a : Nat → Nat) (nk : Nat) (pa : Nat → Int32) (fa : Nat → Int32) (nc : Nat) (fo : Nat → Int32) (th : Nat → Int32) (tg : Nat → Int32) (nt : Nat) (tb : Nat → Int32) (te : Nat → Int32) (tk : Nat → Int32) (tt : Nat → Int32) (nu : Nat) (ub : Nat → Int32) (ue : Nat → Int32) (uk : Nat → Int32) (ut : Nat → Int32) (re : Nat → Int32) (ro : Nat → Int32) (fu : Nat → Int32) (bl : Nat → Int32) (go : Nat → Int32) (ra : Nat → Int32) (rc : Nat) (ex : Int32) (tc : Int32) (es : Int32) (wy : Int64) (x : Int32) (y : Int32) (z : Int32) (w : Int32) (T : Nat → Nat → Nat) (up : Nat → Nat → Bool) (ou : Nat) (fz : Nat → Int64) (sz : Nat) (hlt : l.stackTraces = false) (hg : g3 nk fa up nt tb te tk tt T) (hc : okC nk nc fo th tg) : Met l yL_addEntry wsL_addEntry ({ frames := 8, cells := 3, slots := 18, locals := 127 } : Room) (va_Pc [.ref (a 0), .int x, .int y, .int z, .int w, .ref ou] (zTl (dC, dI) [(cI, .int), (cZ, .boolean), (cJ, .long)] ((w3 a cI cZ nk pa fa nc fo th tg nt tb te tk tt nu ub ue uk ut re ro fu bl go ra rc ex tc es wy) ++ ([(ou, .inl (cJ, 1, .inr (.inl fz)))])) sz)) (va_Qi (fun (r : Int32) (u : Nat × (Nat → Int32) × (Nat → Int32) × (Nat → Int32) × (Nat → Int32) × (Nat → Int64)) => match u with | (v_t_4, v_tb, v_te, v_tk, v_tt, fz9) => ((r = 0 ∧ fz9 = vp_updL fz 0 ((nI nt).toInt64) ∧ v_t_4 = (nt + 1) ∧ v_tb = (upd tb nt x) ∧ v_te = (upd te nt y) ∧ v_tk = (upd tk nt z) ∧ v_tt = (upd tt nt w) ∧ ((hasI z nk = true ∧ eOK x y w = true ∧ nt < 24) ∧ g3 nk fa up (nt + 1) (upd tb nt x) (upd te nt y) (upd tk nt z) (upd tt nt w) (aT T nt x.toNatClampNeg y.toNatClampNeg z.toNatClampNeg w.toNatClampNeg)))) ∨ (r = 1 ∧ (hasI z nk = false) ∧ fz9 = fz ∧ v_t_4 = nt ∧ v_tb = tb ∧ v_te = te ∧ v_tk = tk ∧ v_tt = tt) ∨ (r = 2 ∧ (hasI z nk = true ∧ eOK x y w = false) ∧ fz9 = fz ∧ v_t_4 = nt ∧ v_tb = tb ∧ v_te = te ∧ v_tk = tk ∧ v_tt = tt) ∨ (r = 3 ∧ (hasI z nk = true ∧ eOK x y w = true ∧ nt = 24) ∧ fz9 = fz ∧ v_t_4 = nt ∧ v_tb = tb ∧ v_te = te ∧ v_tk = tk ∧ v_tt = tt)) (fun u t => match u with | (v_t_4, v_tb, v_te, v_tk, v_tt, fz9) => zWo (dC, dI) [(cI, .int), (cZ, .boolean), (cJ, .long)] ((w3 a cI cZ nk pa fa nc fo th tg v_t_4 v_tb v_te v_tk v_tt nu ub ue uk ut re ro fu bl go ra rc ex tc es wy) ++ ([(ou, .inl (cJ, 1, .inr (.inl fz9)))])) (va_A ((w3 a cI cZ nk pa fa nc fo th tg nt tb te tk tt nu ub ue uk ut re ro fu bl go ra rc ex tc es wy) ++ ([(ou, .inl (cJ, 1, .inr (.inl fz)))])) sz) t) (va_A ((w3 a cI cZ nk pa fa nc fo th tg nt tb te tk tt nu ub ue uk ut re ro fu bl go ra rc ex tc es wy) ++ ([(ou, .inl (cJ, 1, .inr (.inl fz)))])) sz)) 3 18 (va_A ((w3 a cI cZ nk pa fa nc fo th tg nt tb te tk tt nu ub ue uk ut re ro fu bl go ra rc ex tc es wy) ++ ([(ou, .inl (cJ, 1, .inr (.inl fz)))])) sz) := by
  refine va_MetW (cc := cL_addEntry) (maxL := 7) (ret := (some .int)) (hh := [(0, 14, 17, 13), (0, 14, 21, 28), (0, 14, 25, 15)]) (by decide) rfl ?_
  intro p e s m args below meth c s₁ B hml hv
  obtain ⟨hav, ⟨⟨hsz, ⟨hP, hK, hn⟩, hD0⟩, hzt, hzu⟩, hzc⟩ := hv
  have hx := B.exec
  have hb := B.bytes
  have hr := B.returns
  have hts := atoms_spec (ws := wsL_addEntry) B.pre
  have hown : s.vm.findClass RL = some m.cls := findClass_of_methodNamed B.named
  have hlocks := B.notSynchronized
  have htab : c.exceptionTable.toList = [⟨0, 14, 17, 13⟩, ⟨0, 14, 21, 28⟩, ⟨0, 14, 25, 15⟩] := vx_table (x := yL_addEntry) B (hh := [(0, 14, 17, 13), (0, 14, 21, 28), (0, 14, 25, 15)]) (hts _ (by unfold wsL_addEntry; exact List.mem_cons_self))
  subst hsz
  have hD := hD0.self (sz := s.heap.size)
  generalize hAe : (va_A ((w3 a cI cZ nk pa fa nc fo th tg nt tb te tk tt nu ub ue uk ut re ro fu bl go ra rc ex tc es wy) ++ ([(ou, .inl (cJ, 1, .inr (.inl fz)))])) s.heap.size) = A at hD hzu ⊢
  have hA : ∀ q : Nat, s.heap.size ≤ q → A q := fun q h => by rw [← hAe]; exact Or.inr h
  have hS : va_S A s.heap s.heap [] := va_S.rf
  generalize hQ : MQ below (va_Qi (fun (r : Int32) (u : Nat × (Nat → Int32) × (Nat → Int32) × (Nat → Int32) × (Nat → Int32) × (Nat → Int64)) => match u with | (v_t_4, v_tb, v_te, v_tk, v_tt, fz9) => ((r = 0 ∧ fz9 = vp_updL fz 0 ((nI nt).toInt64) ∧ v_t_4 = (nt + 1) ∧ v_tb = (upd tb nt x) ∧ v_te = (upd te nt y) ∧ v_tk = (upd tk nt z) ∧ v_tt = (upd tt nt w) ∧ ((hasI z nk = true ∧ eOK x y w = true ∧ nt < 24) ∧ g3 nk fa up (nt + 1) (upd tb nt x) (upd te nt y) (upd tk nt z) (upd tt nt w) (aT T nt x.toNatClampNeg y.toNatClampNeg z.toNatClampNeg w.toNatClampNeg)))) ∨ (r = 1 ∧ (hasI z nk = false) ∧ fz9 = fz ∧ v_t_4 = nt ∧ v_tb = tb ∧ v_te = te ∧ v_tk = tk ∧ v_tt = tt) ∨ (r = 2 ∧ (hasI z nk = true ∧ eOK x y w = false) ∧ fz9 = fz ∧ v_t_4 = nt ∧ v_tb = tb ∧ v_te = te ∧ v_tk = tk ∧ v_tt = tt) ∨ (r = 3 ∧ (hasI z nk = true ∧ eOK x y w = true ∧ nt = 24) ∧ fz9 = fz ∧ v_t_4 = nt ∧ v_tb = tb ∧ v_te = te ∧ v_tk = tk ∧ v_tt = tt)) (fun u t => match u with | (v_t_4, v_tb, v_te, v_tk, v_tt, fz9) => zWo (dC, dI) [(cI, .int), (cZ, .boolean), (cJ, .long)] ((w3 a cI cZ nk pa fa nc fo th tg v_t_4 v_tb v_te v_tk v_tt nu ub ue uk ut re ro fu bl go ra rc ex tc es wy) ++ ([(ou, .inl (cJ, 1, .inr (.inl fz9)))])) A t) A) args s 3 18 A = Q
  refine W.eq (g2 := entryFrame m ([.ref (a 0), .int x, .int y, .int z, .int w, .ref ou] : List Value).toArray 7) (by rw [hav]) ?_
  have hl := lv_entry ([.ref (a 0), .int x, .int y, .int z, .int w, .ref ou]) (n := 7) (Nat.le_of_ble_eq_true rfl)
  rw [lg_entry_eq]
  generalize (lg_sl ([.ref (a 0), .int x, .int y, .int z, .int w, .ref ou]) ++ List.replicate (7 - (lg_sl ([.ref (a 0), .int x, .int y, .int z, .int w, .ref ou])).length) Slot.unset).toArray = ls at hl ⊢
  have hl : lv_has ls 7 [(0, .ref (a 0)), (1, .int x), (2, .int y), (3, .int z), (4, .int w), (5, .ref ou)] := hl
  obtain ⟨H, hH⟩ : ∃ H, H = s.heap := ⟨_, rfl⟩
  obtain ⟨locs, hlo⟩ : ∃ q : List Loc, q = [] := ⟨_, rfl⟩
  have hP : va_P (dC, dI) vwCl ((w3 a cI cZ nk pa fa nc fo th tg nt tb te tk tt nu ub ue uk ut re ro fu bl go ra rc ex tc es wy) ++ ([(ou, .inl (cJ, 1, .inr (.inl fz)))])) H := by rw [hH]; exact hP
  have hS : va_S A s.heap H locs := by rw [hH, hlo]; exact hS
  refine zz_hl hH hlo ?_
  refine lv_aload hx hb dL_addEntry_0 (lv_at hl 5 rfl) ?_
  refine lv_iconst (v := 0) hx hb dL_addEntry_2 (by decide) ?_
  refine lv_aload_n hx hb dL_addEntry_3 rfl (lv_at hl 0 rfl) ?_
  refine lv_iload_n hx hb dL_addEntry_4 rfl (lv_at hl 1 rfl) ?_
  refine lv_iload_n hx hb dL_addEntry_5 rfl (lv_at hl 2 rfl) ?_
  refine lv_iload_n hx hb dL_addEntry_6 rfl (lv_at hl 3 rfl) ?_
  refine lv_iload hx hb dL_addEntry_7 (lv_at hl 4 rfl) ?_
  have hPc := hP.sub (ws' := w3 a cI cZ nk pa fa nc fo th tg nt tb te tk tt nu ub ue uk ut re ro fu bl go ra rc ex tc es wy) [0, 1, 2, 3, 4, 5, 6, 7, 8, 9, 10, 11, 12, 13, 14, 15, 16, 17, 18, 19, 20, 21, 22, 23] rfl
  have hDc := hD.sub (ws' := w3 a cI cZ nk pa fa nc fo th tg nt tb te tk tt nu ub ue uk ut re ro fu bl go ra rc ex tc es wy) [0, 1, 2, 3, 4, 5, 6, 7, 8, 9, 10, 11, 12, 13, 14, 15, 16, 17, 18, 19, 20, 21, 22, 23] (by decide) rfl
  have hFc := va_free (wc := w3 a cI cZ nk pa fa nc fo th tg nt tb te tk tt nu ub ue uk ut re ro fu bl go ra rc ex tc es wy) hD hS hA [0, 1, 2, 3, 4, 5, 6, 7, 8, 9, 10, 11, 12, 13, 14, 15, 16, 17, 18, 19, 20, 21, 22, 23] rfl
  refine vx_calli (vx_runV (As := [.int x, .int y, .int z, .int w]) (rest := [.int 0, .ref ou]) ⟨hx, hb, hml, hown, hts⟩ (c_X3_addEntry l dC dI cI cZ cJ a nk pa fa nc fo th tg nt tb te tk tt nu ub ue uk ut re ro fu bl go ra rc ex tc es wy x y z w T up H.size hlt (hg) (hc)) (cwV 4 hts gL_addEntry_X3_addEntry rfl rfl rfl (by decide +kernel) ⟨Nat.le_of_ble_eq_true rfl, Nat.le_of_ble_eq_true rfl⟩) ⟨zTr_blind, va_recv hK hPc (ci := 3) (q0 := 0) rfl rfl, zTr_at hPc hK hn (hDc.weaken (fun _ _ _ _ => trivial)) hzt hzu hS hFc⟩ rfl rfl hl.1 rfl (lv_room (Nat.le_of_ble_eq_true rfl)) dL_addEntry_9 ⟨Nat.le_of_ble_eq_true rfl, Nat.le_of_ble_eq_true rfl⟩) hS (fun q _ h => hFc q h) hFc (fun q _ h => hFc q h) (fun E ce q9 u_9 t H1 locs ht hvm hpx hBX hz1 hk1 hS hc9 hv9 hcl => ?_) (fun r_1 u_9 t H1 locs ht hvm hw hB hz1 hk1 hS => ?_)
  · skip
    obtain ⟨hXE, hP1, -, hD1⟩ := hBX
    rw [ht] at hP1
    obtain ⟨hP, hD⟩ := va_join (wr := [(ou, .inl (cJ, 1, .inr (.inl fz)))]) (w1 := w3 a cI cZ nk pa fa nc fo th tg nt tb te tk tt nu ub ue uk ut re ro fu bl go ra rc ex tc es wy) hP hD [0, 1, 2, 3, 4, 5, 6, 7, 8, 9, 10, 11, 12, 13, 14, 15, 16, 17, 18, 19, 20, 21, 22, 23] [24] rfl rfl (by decide) (by decide) hk1 hFc hP1 hD1
    generalize H1 = H at hP hS hc9 ⊢
    have hP := hP.sub (ws' := (w3 a cI cZ nk pa fa nc fo th tg nt tb te tk tt nu ub ue uk ut re ro fu bl go ra rc ex tc es wy) ++ ([(ou, .inl (cJ, 1, .inr (.inl fz)))])) [1, 2, 3, 4, 5, 6, 7, 8, 9, 10, 11, 12, 13, 14, 15, 16, 17, 18, 19, 20, 21, 22, 23, 24, 0] rfl
    have hD := hD.sub (ws' := (w3 a cI cZ nk pa fa nc fo th tg nt tb te tk tt nu ub ue uk ut re ro fu bl go ra rc ex tc es wy) ++ ([(ou, .inl (cJ, 1, .inr (.inl fz)))])) [1, 2, 3, 4, 5, 6, 7, 8, 9, 10, 11, 12, 13, 14, 15, 16, 17, 18, 19, 20, 21, 22, 23, 24, 0] (by decide) rfl
    have hP : va_P (dC, dI) vwCl ((w3 a cI cZ nk pa fa nc fo th tg nt tb te tk tt nu ub ue uk ut re ro fu bl go ra rc ex tc es wy) ++ ([(ou, .inl (cJ, 1, .inr (.inl fz)))])) H := hP
    have hD : va_D A ((w3 a cI cZ nk pa fa nc fo th tg nt tb te tk tt nu ub ue uk ut re ro fu bl go ra rc ex tc es wy) ++ ([(ou, .inl (cJ, 1, .inr (.inl fz)))])) := hD
    refine vx_widen (k := 3) (n := 18) (by omega) (by omega) ?_
    rcases hXE with ⟨rfl, hp9⟩ | ⟨rfl, hp9⟩ | ⟨rfl, hp9⟩
    · skip
      refine vx_catch (own := RL) (name := "java/lang/IndexOutOfBoundsException") hown [] ⟨0, 14, 17, 13⟩ [⟨0, 14, 21, 28⟩, ⟨0, 14, 25, 15⟩] htab (fun z hz => absurd hz List.not_mem_nil) (by decide) (by decide) (hts (.classLink RL 13 "java/lang/IndexOutOfBoundsException") (by decide +kernel)) (va_Nw.use rfl (hzt.1 (.castable "java/lang/IndexOutOfBoundsException" "java/lang/IndexOutOfBoundsException") (by decide +kernel))) hc9 hv9 hcl ?_
      refine lv_astore (lv' := [(6, .ref q9), (0, .ref (a 0)), (1, .int x), (2, .int y), (3, .int z), (4, .int w), (5, .ref ou)]) hx hb dL_addEntry_17 hl (by decide) rfl (fun ls hl => ?_)
      refine lv_iconst (v := 1) hx hb dL_addEntry_19 (by decide) ?_
      rw [← hQ]
      have hP9 := hP
      have hD9 := hD
      exact W.iret (v := 1) hx hb hr (fun t ht hW => ⟨⟨1, (nt, tb, te, tk, tt, fz), rfl, (Or.inr (Or.inl ⟨rfl, hp9, rfl, rfl, rfl, rfl, rfl, rfl⟩)), (by rw [ht]; exact hP9), va_K.moved hW.alike hK, hD9⟩, hS.F ht⟩) hS.2.2 dL_addEntry_20
    · skip
      refine vx_catch (own := RL) (name := "java/lang/IllegalArgumentException") hown [⟨0, 14, 17, 13⟩] ⟨0, 14, 21, 28⟩ [⟨0, 14, 25, 15⟩] htab (fun z hz => by rcases List.mem_singleton.mp hz with rfl; exact Or.inr ⟨by decide, "java/lang/IndexOutOfBoundsException", hts (.classLink RL 13 "java/lang/IndexOutOfBoundsException") (by decide +kernel), hzc.2.2⟩) (by decide) (by decide) (hts (.classLink RL 28 "java/lang/IllegalArgumentException") (by decide +kernel)) (va_Nw.use rfl (hzt.1 (.castable "java/lang/IllegalArgumentException" "java/lang/IllegalArgumentException") (by decide +kernel))) hc9 hv9 hcl ?_
      refine lv_astore (lv' := [(6, .ref q9), (0, .ref (a 0)), (1, .int x), (2, .int y), (3, .int z), (4, .int w), (5, .ref ou)]) hx hb dL_addEntry_21 hl (by decide) rfl (fun ls hl => ?_)
      refine lv_iconst (v := 2) hx hb dL_addEntry_23 (by decide) ?_
      rw [← hQ]
      have hP9 := hP
      have hD9 := hD
      exact W.iret (v := 2) hx hb hr (fun t ht hW => ⟨⟨2, (nt, tb, te, tk, tt, fz), rfl, (Or.inr (Or.inr (Or.inl ⟨rfl, hp9, rfl, rfl, rfl, rfl, rfl, rfl⟩))), (by rw [ht]; exact hP9), va_K.moved hW.alike hK, hD9⟩, hS.F ht⟩) hS.2.2 dL_addEntry_24
    · skip
      refine vx_catch (own := RL) (name := "java/lang/IllegalStateException") hown [⟨0, 14, 17, 13⟩, ⟨0, 14, 21, 28⟩] ⟨0, 14, 25, 15⟩ [] htab (fun z hz => by rcases List.mem_cons.mp hz with rfl | hz; exact Or.inr ⟨by decide, "java/lang/IndexOutOfBoundsException", hts (.classLink RL 13 "java/lang/IndexOutOfBoundsException") (by decide +kernel), hzc.1⟩; rcases List.mem_singleton.mp hz with rfl; exact Or.inr ⟨by decide, "java/lang/IllegalArgumentException", hts (.classLink RL 28 "java/lang/IllegalArgumentException") (by decide +kernel), hzc.2.1⟩) (by decide) (by decide) (hts (.classLink RL 15 "java/lang/IllegalStateException") (by decide +kernel)) (va_Nw.use rfl (hzt.1 (.castable "java/lang/IllegalStateException" "java/lang/IllegalStateException") (by decide +kernel))) hc9 hv9 hcl ?_
      refine lv_astore (lv' := [(6, .ref q9), (0, .ref (a 0)), (1, .int x), (2, .int y), (3, .int z), (4, .int w), (5, .ref ou)]) hx hb dL_addEntry_25 hl (by decide) rfl (fun ls hl => ?_)
      refine lv_iconst (v := 3) hx hb dL_addEntry_27 (by decide) ?_
      rw [← hQ]
      have hP9 := hP
      have hD9 := hD
      exact W.iret (v := 3) hx hb hr (fun t ht hW => ⟨⟨3, (nt, tb, te, tk, tt, fz), rfl, (Or.inr (Or.inr (Or.inr ⟨rfl, hp9, rfl, rfl, rfl, rfl, rfl, rfl⟩))), (by rw [ht]; exact hP9), va_K.moved hW.alike hK, hD9⟩, hS.F ht⟩) hS.2.2 dL_addEntry_28
  obtain ⟨hP1, -, hD1⟩ := hB
  rw [ht] at hP1
  obtain ⟨hP, hD⟩ := va_join (wr := [(ou, .inl (cJ, 1, .inr (.inl fz)))]) (w1 := w3 a cI cZ nk pa fa nc fo th tg (nt + 1) (upd tb nt x) (upd te nt y) (upd tk nt z) (upd tt nt w) nu ub ue uk ut re ro fu bl go ra rc ex tc es wy) hP hD [0, 1, 2, 3, 4, 5, 6, 7, 8, 9, 10, 11, 12, 13, 14, 15, 16, 17, 18, 19, 20, 21, 22, 23] [24] rfl rfl (by decide) (by decide) hk1 hFc hP1 hD1
  generalize H1 = H at hP hS ⊢
  have hP := hP.sub (ws' := (w3 a cI cZ nk pa fa nc fo th tg (nt + 1) (upd tb nt x) (upd te nt y) (upd tk nt z) (upd tt nt w) nu ub ue uk ut re ro fu bl go ra rc ex tc es wy) ++ ([(ou, .inl (cJ, 1, .inr (.inl fz)))])) [1, 2, 3, 4, 5, 6, 7, 8, 9, 10, 11, 12, 13, 14, 15, 16, 17, 18, 19, 20, 21, 22, 23, 24, 0] rfl
  have hD := hD.sub (ws' := (w3 a cI cZ nk pa fa nc fo th tg (nt + 1) (upd tb nt x) (upd te nt y) (upd tk nt z) (upd tt nt w) nu ub ue uk ut re ro fu bl go ra rc ex tc es wy) ++ ([(ou, .inl (cJ, 1, .inr (.inl fz)))])) [1, 2, 3, 4, 5, 6, 7, 8, 9, 10, 11, 12, 13, 14, 15, 16, 17, 18, 19, 20, 21, 22, 23, 24, 0] (by decide) rfl
  have hP : va_P (dC, dI) vwCl ((w3 a cI cZ nk pa fa nc fo th tg (nt + 1) (upd tb nt x) (upd te nt y) (upd tk nt z) (upd tt nt w) nu ub ue uk ut re ro fu bl go ra rc ex tc es wy) ++ ([(ou, .inl (cJ, 1, .inr (.inl fz)))])) H := hP
  have hD : va_D A ((w3 a cI cZ nk pa fa nc fo th tg (nt + 1) (upd tb nt x) (upd te nt y) (upd tk nt z) (upd tt nt w) nu ub ue uk ut re ro fu bl go ra rc ex tc es wy) ++ ([(ou, .inl (cJ, 1, .inr (.inl fz)))])) := hD
  refine W.widen (k := 3) (n := 18) (by omega) (by omega) ?_
  obtain ⟨hw0, hw⟩ := hw
  subst hw0
  refine lv_i2l (v := (nI nt).toInt64) hx hb dL_addEntry_12 rfl ?_
  refine va_last hx hb hK hP hD hS 24 2 rfl rfl (vp_in_nI (n := 0) (by omega) (by decide)) dL_addEntry_13 (fun H locs hP hD hS => ?_)
  have hP : va_P (dC, dI) vwCl ((w3 a cI cZ nk pa fa nc fo th tg (nt + 1) (upd tb nt x) (upd te nt y) (upd tk nt z) (upd tt nt w) nu ub ue uk ut re ro fu bl go ra rc ex tc es wy) ++ ([(ou, .inl (cJ, 1, .inr (.inl (vp_updL fz 0 ((nI nt).toInt64)))))])) H := hP
  have hD : va_D A ((w3 a cI cZ nk pa fa nc fo th tg (nt + 1) (upd tb nt x) (upd te nt y) (upd tk nt z) (upd tt nt w) nu ub ue uk ut re ro fu bl go ra rc ex tc es wy) ++ ([(ou, .inl (cJ, 1, .inr (.inl (vp_updL fz 0 ((nI nt).toInt64)))))])) := hD
  refine lv_goto (tgt := 29) hx hb dL_addEntry_14 (by decide) ?_
  refine lv_iconst (v := 0) hx hb dL_addEntry_29 (by decide) ?_
  rw [← hQ]
  have hP9 := hP
  have hD9 := hD
  exact W.iret (v := 0) hx hb hr (fun t ht hW => ⟨⟨0, (nt + 1, upd tb nt x, upd te nt y, upd tk nt z, upd tt nt w, vp_updL fz 0 ((nI nt).toInt64)), rfl, (Or.inl ⟨rfl, rfl, rfl, rfl, rfl, rfl, rfl, hw⟩), (by rw [ht]; exact hP9), va_K.moved hW.alike hK, hD9⟩, hS.F ht⟩) hS.2.2 dL_addEntry_30

set_option maxHeartbeats 4000000 in
set_option maxRecDepth 100000 in
theorem c_L_removeEntry (l : Launch) (dC : Nat → ClassId) (dI : Nat → Nat → Nat) (cI cZ cJ : ClassId) (a : Nat → Nat) (nk : Nat) (pa : Nat → Int32) (fa : Nat → Int32) (nc : Nat) (fo : Nat → Int32) (th : Nat → Int32) (tg : Nat → Int32) (nt : Nat) (tb : Nat → Int32) (te : Nat → Int32) (tk : Nat → Int32) (tt : Nat → Int32) (nu : Nat) (ub : Nat → Int32) (ue : Nat → Int32) (uk : Nat → Int32) (ut : Nat → Int32) (re : Nat → Int32) (ro : Nat → Int32) (fu : Nat → Int32) (bl : Nat → Int32) (go : Nat → Int32) (ra : Nat → Int32) (rc : Nat) (ex : Int32) (tc : Int32) (es : Int32) (wy : Int64) (x : Int32) (T : Nat → Nat → Nat) (up : Nat → Nat → Bool) (ou : Nat) (fz : Nat → Int64) (sz : Nat) (hlt : l.stackTraces = false) (hg : g3 nk fa up nt tb te tk tt T) (hc : okC nk nc fo th tg) : Met l yL_removeEntry wsL_removeEntry ({ frames := 8, cells := 1, slots := 6, locals := 124 } : Room) (va_Pc [.ref (a 0), .int x, .ref ou] (zTl (dC, dI) [(cI, .int), (cZ, .boolean), (cJ, .long)] ((w3 a cI cZ nk pa fa nc fo th tg nt tb te tk tt nu ub ue uk ut re ro fu bl go ra rc ex tc es wy) ++ ([(ou, .inl (cJ, 1, .inr (.inl fz)))])) sz)) (va_Qi (fun (r : Int32) (u : Nat × (Nat → Int32) × (Nat → Int32) × (Nat → Int32) × (Nat → Int32) × (Nat → Int64)) => match u with | (v_t_4, v_tb, v_te, v_tk, v_tt, fz9) => (∃ (tb9 : Nat → Int32), ∃ (te9 : Nat → Int32), ∃ (tk9 : Nat → Int32), ∃ (tt9 : Nat → Int32), (r = 0 ∧ fz9 = vp_updL fz 0 ((nI (nt - 1)).toInt64) ∧ v_t_4 = (nt - 1) ∧ v_tb = tb9 ∧ v_te = te9 ∧ v_tk = tk9 ∧ v_tt = tt9 ∧ (hasI x nt = true ∧ g3 nk fa up (nt - 1) tb9 te9 tk9 tt9 (dT T x.toNatClampNeg)))) ∨ (r = 1 ∧ (hasI x nt = false) ∧ fz9 = fz ∧ v_t_4 = nt ∧ v_tb = tb ∧ v_te = te ∧ v_tk = tk ∧ v_tt = tt)) (fun u t => match u with | (v_t_4, v_tb, v_te, v_tk, v_tt, fz9) => zWo (dC, dI) [(cI, .int), (cZ, .boolean), (cJ, .long)] ((w3 a cI cZ nk pa fa nc fo th tg v_t_4 v_tb v_te v_tk v_tt nu ub ue uk ut re ro fu bl go ra rc ex tc es wy) ++ ([(ou, .inl (cJ, 1, .inr (.inl fz9)))])) (va_A ((w3 a cI cZ nk pa fa nc fo th tg nt tb te tk tt nu ub ue uk ut re ro fu bl go ra rc ex tc es wy) ++ ([(ou, .inl (cJ, 1, .inr (.inl fz)))])) sz) t) (va_A ((w3 a cI cZ nk pa fa nc fo th tg nt tb te tk tt nu ub ue uk ut re ro fu bl go ra rc ex tc es wy) ++ ([(ou, .inl (cJ, 1, .inr (.inl fz)))])) sz)) 1 6 (va_A ((w3 a cI cZ nk pa fa nc fo th tg nt tb te tk tt nu ub ue uk ut re ro fu bl go ra rc ex tc es wy) ++ ([(ou, .inl (cJ, 1, .inr (.inl fz)))])) sz) := by
  refine va_MetW (cc := cL_removeEntry) (maxL := 4) (ret := (some .int)) (hh := [(0, 9, 12, 13)]) (by decide) rfl ?_
  intro p e s m args below meth c s₁ B hml hv
  obtain ⟨hav, ⟨⟨hsz, ⟨hP, hK, hn⟩, hD0⟩, hzt, hzu⟩, hzc⟩ := hv
  have hx := B.exec
  have hb := B.bytes
  have hr := B.returns
  have hts := atoms_spec (ws := wsL_removeEntry) B.pre
  have hown : s.vm.findClass RL = some m.cls := findClass_of_methodNamed B.named
  have hlocks := B.notSynchronized
  have htab : c.exceptionTable.toList = [⟨0, 9, 12, 13⟩] := vx_table (x := yL_removeEntry) B (hh := [(0, 9, 12, 13)]) (hts _ (by unfold wsL_removeEntry; exact List.mem_cons_self))
  subst hsz
  have hD := hD0.self (sz := s.heap.size)
  generalize hAe : (va_A ((w3 a cI cZ nk pa fa nc fo th tg nt tb te tk tt nu ub ue uk ut re ro fu bl go ra rc ex tc es wy) ++ ([(ou, .inl (cJ, 1, .inr (.inl fz)))])) s.heap.size) = A at hD hzu ⊢
  have hA : ∀ q : Nat, s.heap.size ≤ q → A q := fun q h => by rw [← hAe]; exact Or.inr h
  have hS : va_S A s.heap s.heap [] := va_S.rf
  generalize hQ : MQ below (va_Qi (fun (r : Int32) (u : Nat × (Nat → Int32) × (Nat → Int32) × (Nat → Int32) × (Nat → Int32) × (Nat → Int64)) => match u with | (v_t_4, v_tb, v_te, v_tk, v_tt, fz9) => (∃ (tb9 : Nat → Int32), ∃ (te9 : Nat → Int32), ∃ (tk9 : Nat → Int32), ∃ (tt9 : Nat → Int32), (r = 0 ∧ fz9 = vp_updL fz 0 ((nI (nt - 1)).toInt64) ∧ v_t_4 = (nt - 1) ∧ v_tb = tb9 ∧ v_te = te9 ∧ v_tk = tk9 ∧ v_tt = tt9 ∧ (hasI x nt = true ∧ g3 nk fa up (nt - 1) tb9 te9 tk9 tt9 (dT T x.toNatClampNeg)))) ∨ (r = 1 ∧ (hasI x nt = false) ∧ fz9 = fz ∧ v_t_4 = nt ∧ v_tb = tb ∧ v_te = te ∧ v_tk = tk ∧ v_tt = tt)) (fun u t => match u with | (v_t_4, v_tb, v_te, v_tk, v_tt, fz9) => zWo (dC, dI) [(cI, .int), (cZ, .boolean), (cJ, .long)] ((w3 a cI cZ nk pa fa nc fo th tg v_t_4 v_tb v_te v_tk v_tt nu ub ue uk ut re ro fu bl go ra rc ex tc es wy) ++ ([(ou, .inl (cJ, 1, .inr (.inl fz9)))])) A t) A) args s 1 6 A = Q
  refine W.eq (g2 := entryFrame m ([.ref (a 0), .int x, .ref ou] : List Value).toArray 4) (by rw [hav]) ?_
  have hl := lv_entry ([.ref (a 0), .int x, .ref ou]) (n := 4) (Nat.le_of_ble_eq_true rfl)
  rw [lg_entry_eq]
  generalize (lg_sl ([.ref (a 0), .int x, .ref ou]) ++ List.replicate (4 - (lg_sl ([.ref (a 0), .int x, .ref ou])).length) Slot.unset).toArray = ls at hl ⊢
  have hl : lv_has ls 4 [(0, .ref (a 0)), (1, .int x), (2, .ref ou)] := hl
  obtain ⟨H, hH⟩ : ∃ H, H = s.heap := ⟨_, rfl⟩
  obtain ⟨locs, hlo⟩ : ∃ q : List Loc, q = [] := ⟨_, rfl⟩
  have hP : va_P (dC, dI) vwCl ((w3 a cI cZ nk pa fa nc fo th tg nt tb te tk tt nu ub ue uk ut re ro fu bl go ra rc ex tc es wy) ++ ([(ou, .inl (cJ, 1, .inr (.inl fz)))])) H := by rw [hH]; exact hP
  have hS : va_S A s.heap H locs := by rw [hH, hlo]; exact hS
  refine zz_hl hH hlo ?_
  refine lv_aload_n hx hb dL_removeEntry_0 rfl (lv_at hl 2 rfl) ?_
  refine lv_iconst (v := 0) hx hb dL_removeEntry_1 (by decide) ?_
  refine lv_aload_n hx hb dL_removeEntry_2 rfl (lv_at hl 0 rfl) ?_
  refine lv_iload_n hx hb dL_removeEntry_3 rfl (lv_at hl 1 rfl) ?_
  have hPc := hP.sub (ws' := w3 a cI cZ nk pa fa nc fo th tg nt tb te tk tt nu ub ue uk ut re ro fu bl go ra rc ex tc es wy) [0, 1, 2, 3, 4, 5, 6, 7, 8, 9, 10, 11, 12, 13, 14, 15, 16, 17, 18, 19, 20, 21, 22, 23] rfl
  have hDc := hD.sub (ws' := w3 a cI cZ nk pa fa nc fo th tg nt tb te tk tt nu ub ue uk ut re ro fu bl go ra rc ex tc es wy) [0, 1, 2, 3, 4, 5, 6, 7, 8, 9, 10, 11, 12, 13, 14, 15, 16, 17, 18, 19, 20, 21, 22, 23] (by decide) rfl
  have hFc := va_free (wc := w3 a cI cZ nk pa fa nc fo th tg nt tb te tk tt nu ub ue uk ut re ro fu bl go ra rc ex tc es wy) hD hS hA [0, 1, 2, 3, 4, 5, 6, 7, 8, 9, 10, 11, 12, 13, 14, 15, 16, 17, 18, 19, 20, 21, 22, 23] rfl
  refine vx_calli (vx_runV (As := [.int x]) (rest := [.int 0, .ref ou]) ⟨hx, hb, hml, hown, hts⟩ (c_X3_removeEntry l dC dI cI cZ cJ a nk pa fa nc fo th tg nt tb te tk tt nu ub ue uk ut re ro fu bl go ra rc ex tc es wy x T up H.size hlt (hg) (hc)) (cwV 1 hts gL_removeEntry_X3_removeEntry rfl rfl rfl (by decide +kernel) ⟨Nat.le_of_ble_eq_true rfl, Nat.le_of_ble_eq_true rfl⟩) ⟨zTr_blind, va_recv hK hPc (ci := 3) (q0 := 0) rfl rfl, zTr_at hPc hK hn (hDc.weaken (fun _ _ _ _ => trivial)) hzt hzu hS hFc⟩ rfl rfl hl.1 rfl (lv_room (Nat.le_of_ble_eq_true rfl)) dL_removeEntry_4 ⟨Nat.le_of_ble_eq_true rfl, Nat.le_of_ble_eq_true rfl⟩) hS (fun q _ h => hFc q h) hFc (fun q _ h => hFc q h) (fun E ce q9 u_9 t H1 locs ht hvm hpx hBX hz1 hk1 hS hc9 hv9 hcl => ?_) (fun r_1 u_9 t H1 locs ht hvm hw hB hz1 hk1 hS => ?_)
  · skip
    obtain ⟨hXE, hP1, -, hD1⟩ := hBX
    rw [ht] at hP1
    obtain ⟨hP, hD⟩ := va_join (wr := [(ou, .inl (cJ, 1, .inr (.inl fz)))]) (w1 := w3 a cI cZ nk pa fa nc fo th tg nt tb te tk tt nu ub ue uk ut re ro fu bl go ra rc ex tc es wy) hP hD [0, 1, 2, 3, 4, 5, 6, 7, 8, 9, 10, 11, 12, 13, 14, 15, 16, 17, 18, 19, 20, 21, 22, 23] [24] rfl rfl (by decide) (by decide) hk1 hFc hP1 hD1
    generalize H1 = H at hP hS hc9 ⊢
    have hP := hP.sub (ws' := (w3 a cI cZ nk pa fa nc fo th tg nt tb te tk tt nu ub ue uk ut re ro fu bl go ra rc ex tc es wy) ++ ([(ou, .inl (cJ, 1, .inr (.inl fz)))])) [1, 2, 3, 4, 5, 6, 7, 8, 9, 10, 11, 12, 13, 14, 15, 16, 17, 18, 19, 20, 21, 22, 23, 24, 0] rfl
    have hD := hD.sub (ws' := (w3 a cI cZ nk pa fa nc fo th tg nt tb te tk tt nu ub ue uk ut re ro fu bl go ra rc ex tc es wy) ++ ([(ou, .inl (cJ, 1, .inr (.inl fz)))])) [1, 2, 3, 4, 5, 6, 7, 8, 9, 10, 11, 12, 13, 14, 15, 16, 17, 18, 19, 20, 21, 22, 23, 24, 0] (by decide) rfl
    have hP : va_P (dC, dI) vwCl ((w3 a cI cZ nk pa fa nc fo th tg nt tb te tk tt nu ub ue uk ut re ro fu bl go ra rc ex tc es wy) ++ ([(ou, .inl (cJ, 1, .inr (.inl fz)))])) H := hP
    have hD : va_D A ((w3 a cI cZ nk pa fa nc fo th tg nt tb te tk tt nu ub ue uk ut re ro fu bl go ra rc ex tc es wy) ++ ([(ou, .inl (cJ, 1, .inr (.inl fz)))])) := hD
    refine vx_widen (k := 1) (n := 6) (by omega) (by omega) ?_
    rcases hXE with ⟨rfl, hp9⟩
    · skip
      refine vx_catch (own := RL) (name := "java/lang/IndexOutOfBoundsException") hown [] ⟨0, 9, 12, 13⟩ [] htab (fun z hz => absurd hz List.not_mem_nil) (by decide) (by decide) (hts (.classLink RL 13 "java/lang/IndexOutOfBoundsException") (by decide +kernel)) (va_Nw.use rfl (hzt.1 (.castable "java/lang/IndexOutOfBoundsException" "java/lang/IndexOutOfBoundsException") (by decide +kernel))) hc9 hv9 hcl ?_
      refine lv_astore_n (lv' := [(3, .ref q9), (0, .ref (a 0)), (1, .int x), (2, .ref ou)]) hx hb dL_removeEntry_12 rfl hl (by decide) rfl (fun ls hl => ?_)
      refine lv_iconst (v := 1) hx hb dL_removeEntry_13 (by decide) ?_
      rw [← hQ]
      have hP9 := hP
      have hD9 := hD
      exact W.iret (v := 1) hx hb hr (fun t ht hW => ⟨⟨1, (nt, tb, te, tk, tt, fz), rfl, (Or.inr ⟨rfl, hp9, rfl, rfl, rfl, rfl, rfl, rfl⟩), (by rw [ht]; exact hP9), va_K.moved hW.alike hK, hD9⟩, hS.F ht⟩) hS.2.2 dL_removeEntry_14
  obtain ⟨tb_n, te_n, tk_n, tt_n⟩ := u_9
  dsimp only at hw hB
  obtain ⟨hP1, -, hD1⟩ := hB
  rw [ht] at hP1
  obtain ⟨hP, hD⟩ := va_join (wr := [(ou, .inl (cJ, 1, .inr (.inl fz)))]) (w1 := w3 a cI cZ nk pa fa nc fo th tg (nt - 1) tb_n te_n tk_n tt_n nu ub ue uk ut re ro fu bl go ra rc ex tc es wy) hP hD [0, 1, 2, 3, 4, 5, 6, 7, 8, 9, 10, 11, 12, 13, 14, 15, 16, 17, 18, 19, 20, 21, 22, 23] [24] rfl rfl (by decide) (by decide) hk1 hFc hP1 hD1
  generalize H1 = H at hP hS ⊢
  have hP := hP.sub (ws' := (w3 a cI cZ nk pa fa nc fo th tg (nt - 1) tb_n te_n tk_n tt_n nu ub ue uk ut re ro fu bl go ra rc ex tc es wy) ++ ([(ou, .inl (cJ, 1, .inr (.inl fz)))])) [1, 2, 3, 4, 5, 6, 7, 8, 9, 10, 11, 12, 13, 14, 15, 16, 17, 18, 19, 20, 21, 22, 23, 24, 0] rfl
  have hD := hD.sub (ws' := (w3 a cI cZ nk pa fa nc fo th tg (nt - 1) tb_n te_n tk_n tt_n nu ub ue uk ut re ro fu bl go ra rc ex tc es wy) ++ ([(ou, .inl (cJ, 1, .inr (.inl fz)))])) [1, 2, 3, 4, 5, 6, 7, 8, 9, 10, 11, 12, 13, 14, 15, 16, 17, 18, 19, 20, 21, 22, 23, 24, 0] (by decide) rfl
  have hP : va_P (dC, dI) vwCl ((w3 a cI cZ nk pa fa nc fo th tg (nt - 1) tb_n te_n tk_n tt_n nu ub ue uk ut re ro fu bl go ra rc ex tc es wy) ++ ([(ou, .inl (cJ, 1, .inr (.inl fz)))])) H := hP
  have hD : va_D A ((w3 a cI cZ nk pa fa nc fo th tg (nt - 1) tb_n te_n tk_n tt_n nu ub ue uk ut re ro fu bl go ra rc ex tc es wy) ++ ([(ou, .inl (cJ, 1, .inr (.inl fz)))])) := hD
  refine W.widen (k := 1) (n := 6) (by omega) (by omega) ?_
  obtain ⟨hw0, hw⟩ := hw
  subst hw0
  refine lv_i2l (v := (nI (nt - 1)).toInt64) hx hb dL_removeEntry_7 rfl ?_
  refine va_last hx hb hK hP hD hS 24 2 rfl rfl (vp_in_nI (n := 0) (by omega) (by decide)) dL_removeEntry_8 (fun H locs hP hD hS => ?_)
  have hP : va_P (dC, dI) vwCl ((w3 a cI cZ nk pa fa nc fo th tg (nt - 1) tb_n te_n tk_n tt_n nu ub ue uk ut re ro fu bl go ra rc ex tc es wy) ++ ([(ou, .inl (cJ, 1, .inr (.inl (vp_updL fz 0 ((nI (nt - 1)).toInt64)))))])) H := hP
  have hD : va_D A ((w3 a cI cZ nk pa fa nc fo th tg (nt - 1) tb_n te_n tk_n tt_n nu ub ue uk ut re ro fu bl go ra rc ex tc es wy) ++ ([(ou, .inl (cJ, 1, .inr (.inl (vp_updL fz 0 ((nI (nt - 1)).toInt64)))))])) := hD
  refine lv_goto (tgt := 15) hx hb dL_removeEntry_9 (by decide) ?_
  refine lv_iconst (v := 0) hx hb dL_removeEntry_15 (by decide) ?_
  rw [← hQ]
  have hP9 := hP
  have hD9 := hD
  exact W.iret (v := 0) hx hb hr (fun t ht hW => ⟨⟨0, (nt - 1, tb_n, te_n, tk_n, tt_n, vp_updL fz 0 ((nI (nt - 1)).toInt64)), rfl, (Or.inl ⟨tb_n, te_n, tk_n, tt_n, rfl, rfl, rfl, rfl, rfl, rfl, rfl, hw⟩), (by rw [ht]; exact hP9), va_K.moved hW.alike hK, hD9⟩, hS.F ht⟩) hS.2.2 dL_removeEntry_16

set_option maxHeartbeats 4000000 in
set_option maxRecDepth 100000 in
theorem c_L_entry (l : Launch) (dC : Nat → ClassId) (dI : Nat → Nat → Nat) (cI cZ cJ : ClassId) (a : Nat → Nat) (nk : Nat) (pa : Nat → Int32) (fa : Nat → Int32) (nc : Nat) (fo : Nat → Int32) (th : Nat → Int32) (tg : Nat → Int32) (nt : Nat) (tb : Nat → Int32) (te : Nat → Int32) (tk : Nat → Int32) (tt : Nat → Int32) (nu : Nat) (ub : Nat → Int32) (ue : Nat → Int32) (uk : Nat → Int32) (ut : Nat → Int32) (re : Nat → Int32) (ro : Nat → Int32) (fu : Nat → Int32) (bl : Nat → Int32) (go : Nat → Int32) (ra : Nat → Int32) (rc : Nat) (ex : Int32) (tc : Int32) (es : Int32) (wy : Int64) (x : Int32) (wh : Int32) (T : Nat → Nat → Nat) (up : Nat → Nat → Bool) (ou : Nat) (fz : Nat → Int64) (sz : Nat) (hlt : l.stackTraces = false) (hg : g3 nk fa up nt tb te tk tt T) (hc : okC nk nc fo th tg) : Met l yL_entry wsL_entry ({ frames := 8, cells := 2, slots := 12, locals := 125 } : Room) (va_Pc [.ref (a 0), .int x, .int wh, .ref ou] (zTl (dC, dI) [(cI, .int), (cZ, .boolean), (cJ, .long)] ((w3 a cI cZ nk pa fa nc fo th tg nt tb te tk tt nu ub ue uk ut re ro fu bl go ra rc ex tc es wy) ++ ([(ou, .inl (cJ, 1, .inr (.inl fz)))])) sz)) (va_Qi (fun (r : Int32) (fz9 : Nat → Int64) => ((r = 0 ∧ fz9 = vp_updL fz 0 ((entV T x.toNatClampNeg wh).toInt64) ∧ ((hasI x nt && hasI wh 4) = true))) ∨ (r = 1 ∧ ((hasI x nt && hasI wh 4) = false) ∧ fz9 = fz)) (fun fz9 t => zWo (dC, dI) [(cI, .int), (cZ, .boolean), (cJ, .long)] ((w3 a cI cZ nk pa fa nc fo th tg nt tb te tk tt nu ub ue uk ut re ro fu bl go ra rc ex tc es wy) ++ ([(ou, .inl (cJ, 1, .inr (.inl fz9)))])) (va_A ((w3 a cI cZ nk pa fa nc fo th tg nt tb te tk tt nu ub ue uk ut re ro fu bl go ra rc ex tc es wy) ++ ([(ou, .inl (cJ, 1, .inr (.inl fz)))])) sz) t) (va_A ((w3 a cI cZ nk pa fa nc fo th tg nt tb te tk tt nu ub ue uk ut re ro fu bl go ra rc ex tc es wy) ++ ([(ou, .inl (cJ, 1, .inr (.inl fz)))])) sz)) 2 12 (va_A ((w3 a cI cZ nk pa fa nc fo th tg nt tb te tk tt nu ub ue uk ut re ro fu bl go ra rc ex tc es wy) ++ ([(ou, .inl (cJ, 1, .inr (.inl fz)))])) sz) := by
  refine va_MetW (cc := cL_entry) (maxL := 5) (ret := (some .int)) (hh := [(0, 10, 13, 13)]) (by decide) rfl ?_
  intro p e s m args below meth c s₁ B hml hv
  obtain ⟨hav, ⟨⟨hsz, ⟨hP, hK, hn⟩, hD0⟩, hzt, hzu⟩, hzc⟩ := hv
  have hx := B.exec
  have hb := B.bytes
  have hr := B.returns
  have hts := atoms_spec (ws := wsL_entry) B.pre
  have hown : s.vm.findClass RL = some m.cls := findClass_of_methodNamed B.named
  have hlocks := B.notSynchronized
  have htab : c.exceptionTable.toList = [⟨0, 10, 13, 13⟩] := vx_table (x := yL_entry) B (hh := [(0, 10, 13, 13)]) (hts _ (by unfold wsL_entry; exact List.mem_cons_self))
  subst hsz
  have hD := hD0.self (sz := s.heap.size)
  generalize hAe : (va_A ((w3 a cI cZ nk pa fa nc fo th tg nt tb te tk tt nu ub ue uk ut re ro fu bl go ra rc ex tc es wy) ++ ([(ou, .inl (cJ, 1, .inr (.inl fz)))])) s.heap.size) = A at hD hzu ⊢
  have hA : ∀ q : Nat, s.heap.size ≤ q → A q := fun q h => by rw [← hAe]; exact Or.inr h
  have hS : va_S A s.heap s.heap [] := va_S.rf
  generalize hQ : MQ below (va_Qi (fun (r : Int32) (fz9 : Nat → Int64) => ((r = 0 ∧ fz9 = vp_updL fz 0 ((entV T x.toNatClampNeg wh).toInt64) ∧ ((hasI x nt && hasI wh 4) = true))) ∨ (r = 1 ∧ ((hasI x nt && hasI wh 4) = false) ∧ fz9 = fz)) (fun fz9 t => zWo (dC, dI) [(cI, .int), (cZ, .boolean), (cJ, .long)] ((w3 a cI cZ nk pa fa nc fo th tg nt tb te tk tt nu ub ue uk ut re ro fu bl go ra rc ex tc es wy) ++ ([(ou, .inl (cJ, 1, .inr (.inl fz9)))])) A t) A) args s 2 12 A = Q
  refine W.eq (g2 := entryFrame m ([.ref (a 0), .int x, .int wh, .ref ou] : List Value).toArray 5) (by rw [hav]) ?_
  have hl := lv_entry ([.ref (a 0), .int x, .int wh, .ref ou]) (n := 5) (Nat.le_of_ble_eq_true rfl)
  rw [lg_entry_eq]
  generalize (lg_sl ([.ref (a 0), .int x, .int wh, .ref ou]) ++ List.replicate (5 - (lg_sl ([.ref (a 0), .int x, .int wh, .ref ou])).length) Slot.unset).toArray = ls at hl ⊢
  have hl : lv_has ls 5 [(0, .ref (a 0)), (1, .int x), (2, .int wh), (3, .ref ou)] := hl
  obtain ⟨H, hH⟩ : ∃ H, H = s.heap := ⟨_, rfl⟩
  obtain ⟨locs, hlo⟩ : ∃ q : List Loc, q = [] := ⟨_, rfl⟩
  have hP : va_P (dC, dI) vwCl ((w3 a cI cZ nk pa fa nc fo th tg nt tb te tk tt nu ub ue uk ut re ro fu bl go ra rc ex tc es wy) ++ ([(ou, .inl (cJ, 1, .inr (.inl fz)))])) H := by rw [hH]; exact hP
  have hS : va_S A s.heap H locs := by rw [hH, hlo]; exact hS
  refine zz_hl hH hlo ?_
  refine lv_aload_n hx hb dL_entry_0 rfl (lv_at hl 3 rfl) ?_
  refine lv_iconst (v := 0) hx hb dL_entry_1 (by decide) ?_
  refine lv_aload_n hx hb dL_entry_2 rfl (lv_at hl 0 rfl) ?_
  refine lv_iload_n hx hb dL_entry_3 rfl (lv_at hl 1 rfl) ?_
  refine lv_iload_n hx hb dL_entry_4 rfl (lv_at hl 2 rfl) ?_
  have hPc := hP.sub (ws' := w3 a cI cZ nk pa fa nc fo th tg nt tb te tk tt nu ub ue uk ut re ro fu bl go ra rc ex tc es wy) [0, 1, 2, 3, 4, 5, 6, 7, 8, 9, 10, 11, 12, 13, 14, 15, 16, 17, 18, 19, 20, 21, 22, 23] rfl
  have hDc := hD.sub (ws' := w3 a cI cZ nk pa fa nc fo th tg nt tb te tk tt nu ub ue uk ut re ro fu bl go ra rc ex tc es wy) [0, 1, 2, 3, 4, 5, 6, 7, 8, 9, 10, 11, 12, 13, 14, 15, 16, 17, 18, 19, 20, 21, 22, 23] (by decide) rfl
  have hFc := va_free (wc := w3 a cI cZ nk pa fa nc fo th tg nt tb te tk tt nu ub ue uk ut re ro fu bl go ra rc ex tc es wy) hD hS hA [0, 1, 2, 3, 4, 5, 6, 7, 8, 9, 10, 11, 12, 13, 14, 15, 16, 17, 18, 19, 20, 21, 22, 23] rfl
  refine vx_calli (vx_runV (As := [.int x, .int wh]) (rest := [.int 0, .ref ou]) ⟨hx, hb, hml, hown, hts⟩ (c_X3_entry l dC dI cI cZ cJ a nk pa fa nc fo th tg nt tb te tk tt nu ub ue uk ut re ro fu bl go ra rc ex tc es wy x wh T up H.size hlt (hg) (hc)) (cwV 2 hts gL_entry_X3_entry rfl rfl rfl (by decide +kernel) ⟨Nat.le_of_ble_eq_true rfl, Nat.le_of_ble_eq_true rfl⟩) ⟨zTr_blind, va_recv hK hPc (ci := 3) (q0 := 0) rfl rfl, zTr_at hPc hK hn (hDc.weaken (fun _ _ _ _ => trivial)) hzt hzu hS hFc⟩ rfl rfl hl.1 rfl (lv_room (Nat.le_of_ble_eq_true rfl)) dL_entry_5 ⟨Nat.le_of_ble_eq_true rfl, Nat.le_of_ble_eq_true rfl⟩) hS (fun q _ h => hFc q h) hFc (fun q _ h => hFc q h) (fun E ce q9 u_9 t H1 locs ht hvm hpx hBX hz1 hk1 hS hc9 hv9 hcl => ?_) (fun r_1 u_9 t H1 locs ht hvm hw hB hz1 hk1 hS => ?_)
  · skip
    obtain ⟨hXE, hP1, -, hD1⟩ := hBX
    rw [ht] at hP1
    obtain ⟨hP, hD⟩ := va_join (wr := [(ou, .inl (cJ, 1, .inr (.inl fz)))]) (w1 := w3 a cI cZ nk pa fa nc fo th tg nt tb te tk tt nu ub ue uk ut re ro fu bl go ra rc ex tc es wy) hP hD [0, 1, 2, 3, 4, 5, 6, 7, 8, 9, 10, 11, 12, 13, 14, 15, 16, 17, 18, 19, 20, 21, 22, 23] [24] rfl rfl (by decide) (by decide) hk1 hFc hP1 hD1
    generalize H1 = H at hP hS hc9 ⊢
    have hP := hP.sub (ws' := (w3 a cI cZ nk pa fa nc fo th tg nt tb te tk tt nu ub ue uk ut re ro fu bl go ra rc ex tc es wy) ++ ([(ou, .inl (cJ, 1, .inr (.inl fz)))])) [1, 2, 3, 4, 5, 6, 7, 8, 9, 10, 11, 12, 13, 14, 15, 16, 17, 18, 19, 20, 21, 22, 23, 24, 0] rfl
    have hD := hD.sub (ws' := (w3 a cI cZ nk pa fa nc fo th tg nt tb te tk tt nu ub ue uk ut re ro fu bl go ra rc ex tc es wy) ++ ([(ou, .inl (cJ, 1, .inr (.inl fz)))])) [1, 2, 3, 4, 5, 6, 7, 8, 9, 10, 11, 12, 13, 14, 15, 16, 17, 18, 19, 20, 21, 22, 23, 24, 0] (by decide) rfl
    have hP : va_P (dC, dI) vwCl ((w3 a cI cZ nk pa fa nc fo th tg nt tb te tk tt nu ub ue uk ut re ro fu bl go ra rc ex tc es wy) ++ ([(ou, .inl (cJ, 1, .inr (.inl fz)))])) H := hP
    have hD : va_D A ((w3 a cI cZ nk pa fa nc fo th tg nt tb te tk tt nu ub ue uk ut re ro fu bl go ra rc ex tc es wy) ++ ([(ou, .inl (cJ, 1, .inr (.inl fz)))])) := hD
    refine vx_widen (k := 2) (n := 12) (by omega) (by omega) ?_
    rcases hXE with ⟨rfl, hp9⟩
    · skip
      refine vx_catch (own := RL) (name := "java/lang/IndexOutOfBoundsException") hown [] ⟨0, 10, 13, 13⟩ [] htab (fun z hz => absurd hz List.not_mem_nil) (by decide) (by decide) (hts (.classLink RL 13 "java/lang/IndexOutOfBoundsException") (by decide +kernel)) (va_Nw.use rfl (hzt.1 (.castable "java/lang/IndexOutOfBoundsException" "java/lang/IndexOutOfBoundsException") (by decide +kernel))) hc9 hv9 hcl ?_
      refine lv_astore (lv' := [(4, .ref q9), (0, .ref (a 0)), (1, .int x), (2, .int wh), (3, .ref ou)]) hx hb dL_entry_13 hl (by decide) rfl (fun ls hl => ?_)
      refine lv_iconst (v := 1) hx hb dL_entry_15 (by decide) ?_
      rw [← hQ]
      have hP9 := hP
      have hD9 := hD
      exact W.iret (v := 1) hx hb hr (fun t ht hW => ⟨⟨1, fz, rfl, (Or.inr ⟨rfl, hp9, rfl⟩), (by rw [ht]; exact hP9), va_K.moved hW.alike hK, hD9⟩, hS.F ht⟩) hS.2.2 dL_entry_16
  obtain ⟨hP1, -, hD1⟩ := hB
  rw [ht] at hP1
  obtain ⟨hP, hD⟩ := va_join (wr := [(ou, .inl (cJ, 1, .inr (.inl fz)))]) (w1 := w3 a cI cZ nk pa fa nc fo th tg nt tb te tk tt nu ub ue uk ut re ro fu bl go ra rc ex tc es wy) hP hD [0, 1, 2, 3, 4, 5, 6, 7, 8, 9, 10, 11, 12, 13, 14, 15, 16, 17, 18, 19, 20, 21, 22, 23] [24] rfl rfl (by decide) (by decide) hk1 hFc hP1 hD1
  generalize H1 = H at hP hS ⊢
  have hP := hP.sub (ws' := (w3 a cI cZ nk pa fa nc fo th tg nt tb te tk tt nu ub ue uk ut re ro fu bl go ra rc ex tc es wy) ++ ([(ou, .inl (cJ, 1, .inr (.inl fz)))])) [1, 2, 3, 4, 5, 6, 7, 8, 9, 10, 11, 12, 13, 14, 15, 16, 17, 18, 19, 20, 21, 22, 23, 24, 0] rfl
  have hD := hD.sub (ws' := (w3 a cI cZ nk pa fa nc fo th tg nt tb te tk tt nu ub ue uk ut re ro fu bl go ra rc ex tc es wy) ++ ([(ou, .inl (cJ, 1, .inr (.inl fz)))])) [1, 2, 3, 4, 5, 6, 7, 8, 9, 10, 11, 12, 13, 14, 15, 16, 17, 18, 19, 20, 21, 22, 23, 24, 0] (by decide) rfl
  have hP : va_P (dC, dI) vwCl ((w3 a cI cZ nk pa fa nc fo th tg nt tb te tk tt nu ub ue uk ut re ro fu bl go ra rc ex tc es wy) ++ ([(ou, .inl (cJ, 1, .inr (.inl fz)))])) H := hP
  have hD : va_D A ((w3 a cI cZ nk pa fa nc fo th tg nt tb te tk tt nu ub ue uk ut re ro fu bl go ra rc ex tc es wy) ++ ([(ou, .inl (cJ, 1, .inr (.inl fz)))])) := hD
  refine W.widen (k := 2) (n := 12) (by omega) (by omega) ?_
  obtain ⟨hw0, hw⟩ := hw
  subst hw0
  refine lv_i2l (v := (entV T x.toNatClampNeg wh).toInt64) hx hb dL_entry_8 rfl ?_
  refine va_last hx hb hK hP hD hS 24 2 rfl rfl (vp_in_nI (n := 0) (by omega) (by decide)) dL_entry_9 (fun H locs hP hD hS => ?_)
  have hP : va_P (dC, dI) vwCl ((w3 a cI cZ nk pa fa nc fo th tg nt tb te tk tt nu ub ue uk ut re ro fu bl go ra rc ex tc es wy) ++ ([(ou, .inl (cJ, 1, .inr (.inl (vp_updL fz 0 ((entV T x.toNatClampNeg wh).toInt64)))))])) H := hP
  have hD : va_D A ((w3 a cI cZ nk pa fa nc fo th tg nt tb te tk tt nu ub ue uk ut re ro fu bl go ra rc ex tc es wy) ++ ([(ou, .inl (cJ, 1, .inr (.inl (vp_updL fz 0 ((entV T x.toNatClampNeg wh).toInt64)))))])) := hD
  refine lv_goto (tgt := 17) hx hb dL_entry_10 (by decide) ?_
  refine lv_iconst (v := 0) hx hb dL_entry_17 (by decide) ?_
  rw [← hQ]
  have hP9 := hP
  have hD9 := hD
  exact W.iret (v := 0) hx hb hr (fun t ht hW => ⟨⟨0, vp_updL fz 0 ((entV T x.toNatClampNeg wh).toInt64), rfl, (Or.inl ⟨rfl, rfl, hw⟩), (by rw [ht]; exact hP9), va_K.moved hW.alike hK, hD9⟩, hS.F ht⟩) hS.2.2 dL_entry_18

set_option maxHeartbeats 4000000 in
set_option maxRecDepth 100000 in
theorem c_L_taker (l : Launch) (dC : Nat → ClassId) (dI : Nat → Nat → Nat) (cI cZ cJ : ClassId) (a : Nat → Nat) (nk : Nat) (pa : Nat → Int32) (fa : Nat → Int32) (nc : Nat) (fo : Nat → Int32) (th : Nat → Int32) (tg : Nat → Int32) (nt : Nat) (tb : Nat → Int32) (te : Nat → Int32) (tk : Nat → Int32) (tt : Nat → Int32) (nu : Nat) (ub : Nat → Int32) (ue : Nat → Int32) (uk : Nat → Int32) (ut : Nat → Int32) (re : Nat → Int32) (ro : Nat → Int32) (fu : Nat → Int32) (bl : Nat → Int32) (go : Nat → Int32) (ra : Nat → Int32) (rc : Nat) (ex : Int32) (tc : Int32) (es : Int32) (wy : Int64) (x : Int32) (y : Int32) (T : Nat → Nat → Nat) (up : Nat → Nat → Bool) (ou : Nat) (fz : Nat → Int64) (sz : Nat) (hlt : l.stackTraces = false) (hg : g3 nk fa up nt tb te tk tt T) (hc : okC nk nc fo th tg) : Met l yL_taker wsL_taker ({ frames := 8, cells := 2, slots := 12, locals := 125 } : Room) (va_Pc [.ref (a 0), .int x, .int y, .ref ou] (zTl (dC, dI) [(cI, .int), (cZ, .boolean), (cJ, .long)] ((w3 a cI cZ nk pa fa nc fo th tg nt tb te tk tt nu ub ue uk ut re ro fu bl go ra rc ex tc es wy) ++ ([(ou, .inl (cJ, 1, .inr (.inl fz)))])) sz)) (va_Qi (fun (r : Int32) (fz9 : Nat → Int64) => ((r = 0 ∧ fz9 = vp_updL fz 0 ((tkI T nt up x.toNatClampNeg y.toNatClampNeg).toInt64) ∧ ((hasI x nc && hasI y nk) = true))) ∨ (r = 1 ∧ ((hasI x nc && hasI y nk) = false) ∧ fz9 = fz)) (fun fz9 t => zWo (dC, dI) [(cI, .int), (cZ, .boolean), (cJ, .long)] ((w3 a cI cZ nk pa fa nc fo th tg nt tb te tk tt nu ub ue uk ut re ro fu bl go ra rc ex tc es wy) ++ ([(ou, .inl (cJ, 1, .inr (.inl fz9)))])) (va_A ((w3 a cI cZ nk pa fa nc fo th tg nt tb te tk tt nu ub ue uk ut re ro fu bl go ra rc ex tc es wy) ++ ([(ou, .inl (cJ, 1, .inr (.inl fz)))])) sz) t) (va_A ((w3 a cI cZ nk pa fa nc fo th tg nt tb te tk tt nu ub ue uk ut re ro fu bl go ra rc ex tc es wy) ++ ([(ou, .inl (cJ, 1, .inr (.inl fz)))])) sz)) 2 12 (va_A ((w3 a cI cZ nk pa fa nc fo th tg nt tb te tk tt nu ub ue uk ut re ro fu bl go ra rc ex tc es wy) ++ ([(ou, .inl (cJ, 1, .inr (.inl fz)))])) sz) := by
  refine va_MetW (cc := cL_taker) (maxL := 5) (ret := (some .int)) (hh := [(0, 10, 13, 13)]) (by decide) rfl ?_
  intro p e s m args below meth c s₁ B hml hv
  obtain ⟨hav, ⟨⟨hsz, ⟨hP, hK, hn⟩, hD0⟩, hzt, hzu⟩, hzc⟩ := hv
  have hx := B.exec
  have hb := B.bytes
  have hr := B.returns
  have hts := atoms_spec (ws := wsL_taker) B.pre
  have hown : s.vm.findClass RL = some m.cls := findClass_of_methodNamed B.named
  have hlocks := B.notSynchronized
  have htab : c.exceptionTable.toList = [⟨0, 10, 13, 13⟩] := vx_table (x := yL_taker) B (hh := [(0, 10, 13, 13)]) (hts _ (by unfold wsL_taker; exact List.mem_cons_self))
  subst hsz
  have hD := hD0.self (sz := s.heap.size)
  generalize hAe : (va_A ((w3 a cI cZ nk pa fa nc fo th tg nt tb te tk tt nu ub ue uk ut re ro fu bl go ra rc ex tc es wy) ++ ([(ou, .inl (cJ, 1, .inr (.inl fz)))])) s.heap.size) = A at hD hzu ⊢
  have hA : ∀ q : Nat, s.heap.size ≤ q → A q := fun q h => by rw [← hAe]; exact Or.inr h
  have hS : va_S A s.heap s.heap [] := va_S.rf
  generalize hQ : MQ below (va_Qi (fun (r : Int32) (fz9 : Nat → Int64) => ((r = 0 ∧ fz9 = vp_updL fz 0 ((tkI T nt up x.toNatClampNeg y.toNatClampNeg).toInt64) ∧ ((hasI x nc && hasI y nk) = true))) ∨ (r = 1 ∧ ((hasI x nc && hasI y nk) = false) ∧ fz9 = fz)) (fun fz9 t => zWo (dC, dI) [(cI, .int), (cZ, .boolean), (cJ, .long)] ((w3 a cI cZ nk pa fa nc fo th tg nt tb te tk tt nu ub ue uk ut re ro fu bl go ra rc ex tc es wy) ++ ([(ou, .inl (cJ, 1, .inr (.inl fz9)))])) A t) A) args s 2 12 A = Q
  refine W.eq (g2 := entryFrame m ([.ref (a 0), .int x, .int y, .ref ou] : List Value).toArray 5) (by rw [hav]) ?_
  have hl := lv_entry ([.ref (a 0), .int x, .int y, .ref ou]) (n := 5) (Nat.le_of_ble_eq_true rfl)
  rw [lg_entry_eq]
  generalize (lg_sl ([.ref (a 0), .int x, .int y, .ref ou]) ++ List.replicate (5 - (lg_sl ([.ref (a 0), .int x, .int y, .ref ou])).length) Slot.unset).toArray = ls at hl ⊢
  have hl : lv_has ls 5 [(0, .ref (a 0)), (1, .int x), (2, .int y), (3, .ref ou)] := hl
  obtain ⟨H, hH⟩ : ∃ H, H = s.heap := ⟨_, rfl⟩
  obtain ⟨locs, hlo⟩ : ∃ q : List Loc, q = [] := ⟨_, rfl⟩
  have hP : va_P (dC, dI) vwCl ((w3 a cI cZ nk pa fa nc fo th tg nt tb te tk tt nu ub ue uk ut re ro fu bl go ra rc ex tc es wy) ++ ([(ou, .inl (cJ, 1, .inr (.inl fz)))])) H := by rw [hH]; exact hP
  have hS : va_S A s.heap H locs := by rw [hH, hlo]; exact hS
  refine zz_hl hH hlo ?_
  refine lv_aload_n hx hb dL_taker_0 rfl (lv_at hl 3 rfl) ?_
  refine lv_iconst (v := 0) hx hb dL_taker_1 (by decide) ?_
  refine lv_aload_n hx hb dL_taker_2 rfl (lv_at hl 0 rfl) ?_
  refine lv_iload_n hx hb dL_taker_3 rfl (lv_at hl 1 rfl) ?_
  refine lv_iload_n hx hb dL_taker_4 rfl (lv_at hl 2 rfl) ?_
  have hPc := hP.sub (ws' := w3 a cI cZ nk pa fa nc fo th tg nt tb te tk tt nu ub ue uk ut re ro fu bl go ra rc ex tc es wy) [0, 1, 2, 3, 4, 5, 6, 7, 8, 9, 10, 11, 12, 13, 14, 15, 16, 17, 18, 19, 20, 21, 22, 23] rfl
  have hDc := hD.sub (ws' := w3 a cI cZ nk pa fa nc fo th tg nt tb te tk tt nu ub ue uk ut re ro fu bl go ra rc ex tc es wy) [0, 1, 2, 3, 4, 5, 6, 7, 8, 9, 10, 11, 12, 13, 14, 15, 16, 17, 18, 19, 20, 21, 22, 23] (by decide) rfl
  have hFc := va_free (wc := w3 a cI cZ nk pa fa nc fo th tg nt tb te tk tt nu ub ue uk ut re ro fu bl go ra rc ex tc es wy) hD hS hA [0, 1, 2, 3, 4, 5, 6, 7, 8, 9, 10, 11, 12, 13, 14, 15, 16, 17, 18, 19, 20, 21, 22, 23] rfl
  refine vx_calli (vx_runV (As := [.int x, .int y]) (rest := [.int 0, .ref ou]) ⟨hx, hb, hml, hown, hts⟩ (c_X3_taker l dC dI cI cZ cJ a nk pa fa nc fo th tg nt tb te tk tt nu ub ue uk ut re ro fu bl go ra rc ex tc es wy x y T up H.size hlt (hg) (hc)) (cwV 2 hts gL_taker_X3_taker rfl rfl rfl (by decide +kernel) ⟨Nat.le_of_ble_eq_true rfl, Nat.le_of_ble_eq_true rfl⟩) ⟨zTr_blind, va_recv hK hPc (ci := 3) (q0 := 0) rfl rfl, zTr_at hPc hK hn (hDc.weaken (fun _ _ _ _ => trivial)) hzt hzu hS hFc⟩ rfl rfl hl.1 rfl (lv_room (Nat.le_of_ble_eq_true rfl)) dL_taker_5 ⟨Nat.le_of_ble_eq_true rfl, Nat.le_of_ble_eq_true rfl⟩) hS (fun q _ h => hFc q h) hFc (fun q _ h => hFc q h) (fun E ce q9 u_9 t H1 locs ht hvm hpx hBX hz1 hk1 hS hc9 hv9 hcl => ?_) (fun r_1 u_9 t H1 locs ht hvm hw hB hz1 hk1 hS => ?_)
  · skip
    obtain ⟨hXE, hP1, -, hD1⟩ := hBX
    rw [ht] at hP1
    obtain ⟨hP, hD⟩ := va_join (wr := [(ou, .inl (cJ, 1, .inr (.inl fz)))]) (w1 := w3 a cI cZ nk pa fa nc fo th tg nt tb te tk tt nu ub ue uk ut re ro fu bl go ra rc ex tc es wy) hP hD [0, 1, 2, 3, 4, 5, 6, 7, 8, 9, 10, 11, 12, 13, 14, 15, 16, 17, 18, 19, 20, 21, 22, 23] [24] rfl rfl (by decide) (by decide) hk1 hFc hP1 hD1
    generalize H1 = H at hP hS hc9 ⊢
    have hP := hP.sub (ws' := (w3 a cI cZ nk pa fa nc fo th tg nt tb te tk tt nu ub ue uk ut re ro fu bl go ra rc ex tc es wy) ++ ([(ou, .inl (cJ, 1, .inr (.inl fz)))])) [1, 2, 3, 4, 5, 6, 7, 8, 9, 10, 11, 12, 13, 14, 15, 16, 17, 18, 19, 20, 21, 22, 23, 24, 0] rfl
    have hD := hD.sub (ws' := (w3 a cI cZ nk pa fa nc fo th tg nt tb te tk tt nu ub ue uk ut re ro fu bl go ra rc ex tc es wy) ++ ([(ou, .inl (cJ, 1, .inr (.inl fz)))])) [1, 2, 3, 4, 5, 6, 7, 8, 9, 10, 11, 12, 13, 14, 15, 16, 17, 18, 19, 20, 21, 22, 23, 24, 0] (by decide) rfl
    have hP : va_P (dC, dI) vwCl ((w3 a cI cZ nk pa fa nc fo th tg nt tb te tk tt nu ub ue uk ut re ro fu bl go ra rc ex tc es wy) ++ ([(ou, .inl (cJ, 1, .inr (.inl fz)))])) H := hP
    have hD : va_D A ((w3 a cI cZ nk pa fa nc fo th tg nt tb te tk tt nu ub ue uk ut re ro fu bl go ra rc ex tc es wy) ++ ([(ou, .inl (cJ, 1, .inr (.inl fz)))])) := hD
    refine vx_widen (k := 2) (n := 12) (by omega) (by omega) ?_
    rcases hXE with ⟨rfl, hp9⟩
    · skip
      refine vx_catch (own := RL) (name := "java/lang/IndexOutOfBoundsException") hown [] ⟨0, 10, 13, 13⟩ [] htab (fun z hz => absurd hz List.not_mem_nil) (by decide) (by decide) (hts (.classLink RL 13 "java/lang/IndexOutOfBoundsException") (by decide +kernel)) (va_Nw.use rfl (hzt.1 (.castable "java/lang/IndexOutOfBoundsException" "java/lang/IndexOutOfBoundsException") (by decide +kernel))) hc9 hv9 hcl ?_
      refine lv_astore (lv' := [(4, .ref q9), (0, .ref (a 0)), (1, .int x), (2, .int y), (3, .ref ou)]) hx hb dL_taker_13 hl (by decide) rfl (fun ls hl => ?_)
      refine lv_iconst (v := 1) hx hb dL_taker_15 (by decide) ?_
      rw [← hQ]
      have hP9 := hP
      have hD9 := hD
      exact W.iret (v := 1) hx hb hr (fun t ht hW => ⟨⟨1, fz, rfl, (Or.inr ⟨rfl, hp9, rfl⟩), (by rw [ht]; exact hP9), va_K.moved hW.alike hK, hD9⟩, hS.F ht⟩) hS.2.2 dL_taker_16
  obtain ⟨hP1, -, hD1⟩ := hB
  rw [ht] at hP1
  obtain ⟨hP, hD⟩ := va_join (wr := [(ou, .inl (cJ, 1, .inr (.inl fz)))]) (w1 := w3 a cI cZ nk pa fa nc fo th tg nt tb te tk tt nu ub ue uk ut re ro fu bl go ra rc ex tc es wy) hP hD [0, 1, 2, 3, 4, 5, 6, 7, 8, 9, 10, 11, 12, 13, 14, 15, 16, 17, 18, 19, 20, 21, 22, 23] [24] rfl rfl (by decide) (by decide) hk1 hFc hP1 hD1
  generalize H1 = H at hP hS ⊢
  have hP := hP.sub (ws' := (w3 a cI cZ nk pa fa nc fo th tg nt tb te tk tt nu ub ue uk ut re ro fu bl go ra rc ex tc es wy) ++ ([(ou, .inl (cJ, 1, .inr (.inl fz)))])) [1, 2, 3, 4, 5, 6, 7, 8, 9, 10, 11, 12, 13, 14, 15, 16, 17, 18, 19, 20, 21, 22, 23, 24, 0] rfl
  have hD := hD.sub (ws' := (w3 a cI cZ nk pa fa nc fo th tg nt tb te tk tt nu ub ue uk ut re ro fu bl go ra rc ex tc es wy) ++ ([(ou, .inl (cJ, 1, .inr (.inl fz)))])) [1, 2, 3, 4, 5, 6, 7, 8, 9, 10, 11, 12, 13, 14, 15, 16, 17, 18, 19, 20, 21, 22, 23, 24, 0] (by decide) rfl
  have hP : va_P (dC, dI) vwCl ((w3 a cI cZ nk pa fa nc fo th tg nt tb te tk tt nu ub ue uk ut re ro fu bl go ra rc ex tc es wy) ++ ([(ou, .inl (cJ, 1, .inr (.inl fz)))])) H := hP
  have hD : va_D A ((w3 a cI cZ nk pa fa nc fo th tg nt tb te tk tt nu ub ue uk ut re ro fu bl go ra rc ex tc es wy) ++ ([(ou, .inl (cJ, 1, .inr (.inl fz)))])) := hD
  refine W.widen (k := 2) (n := 12) (by omega) (by omega) ?_
  obtain ⟨hw0, hw⟩ := hw
  subst hw0
  refine lv_i2l (v := (tkI T nt up x.toNatClampNeg y.toNatClampNeg).toInt64) hx hb dL_taker_8 rfl ?_
  refine va_last hx hb hK hP hD hS 24 2 rfl rfl (vp_in_nI (n := 0) (by omega) (by decide)) dL_taker_9 (fun H locs hP hD hS => ?_)
  have hP : va_P (dC, dI) vwCl ((w3 a cI cZ nk pa fa nc fo th tg nt tb te tk tt nu ub ue uk ut re ro fu bl go ra rc ex tc es wy) ++ ([(ou, .inl (cJ, 1, .inr (.inl (vp_updL fz 0 ((tkI T nt up x.toNatClampNeg y.toNatClampNeg).toInt64)))))])) H := hP
  have hD : va_D A ((w3 a cI cZ nk pa fa nc fo th tg nt tb te tk tt nu ub ue uk ut re ro fu bl go ra rc ex tc es wy) ++ ([(ou, .inl (cJ, 1, .inr (.inl (vp_updL fz 0 ((tkI T nt up x.toNatClampNeg y.toNatClampNeg).toInt64)))))])) := hD
  refine lv_goto (tgt := 17) hx hb dL_taker_10 (by decide) ?_
  refine lv_iconst (v := 0) hx hb dL_taker_17 (by decide) ?_
  rw [← hQ]
  have hP9 := hP
  have hD9 := hD
  exact W.iret (v := 0) hx hb hr (fun t ht hW => ⟨⟨0, vp_updL fz 0 ((tkI T nt up x.toNatClampNeg y.toNatClampNeg).toInt64), rfl, (Or.inl ⟨rfl, rfl, hw⟩), (by rw [ht]; exact hP9), va_K.moved hW.alike hK, hD9⟩, hS.F ht⟩) hS.2.2 dL_taker_18

set_option maxHeartbeats 4000000 in
set_option maxRecDepth 100000 in
theorem c_L_isReached (l : Launch) (dC : Nat → ClassId) (dI : Nat → Nat → Nat) (cI cZ cJ : ClassId) (a : Nat → Nat) (nk : Nat) (pa : Nat → Int32) (fa : Nat → Int32) (nc : Nat) (fo : Nat → Int32) (th : Nat → Int32) (tg : Nat → Int32) (nt : Nat) (tb : Nat → Int32) (te : Nat → Int32) (tk : Nat → Int32) (tt : Nat → Int32) (nu : Nat) (ub : Nat → Int32) (ue : Nat → Int32) (uk : Nat → Int32) (ut : Nat → Int32) (re : Nat → Int32) (ro : Nat → Int32) (fu : Nat → Int32) (bl : Nat → Int32) (go : Nat → Int32) (ra : Nat → Int32) (rc : Nat) (ex : Int32) (tc : Int32) (es : Int32) (wy : Int64) (x : Int32) (T : Nat → Nat → Nat) (up : Nat → Nat → Bool) (ou : Nat) (fz : Nat → Int64) (sz : Nat) (hlt : l.stackTraces = false) (hg : g3 nk fa up nt tb te tk tt T) (hc : okC nk nc fo th tg) : Met l yL_isReached wsL_isReached ({ frames := 8, cells := 1, slots := 6, locals := 124 } : Room) (va_Pc [.ref (a 0), .int x, .ref ou] (zTl (dC, dI) [(cI, .int), (cZ, .boolean), (cJ, .long)] ((w3 a cI cZ nk pa fa nc fo th tg nt tb te tk tt nu ub ue uk ut re ro fu bl go ra rc ex tc es wy) ++ ([(ou, .inl (cJ, 1, .inr (.inl fz)))])) sz)) (va_Qi (fun (r : Int32) (u : (Nat → Int32) × (Nat → Int32) × Nat × (Nat → Int64)) => match u with | (v_re, v_ro, v_o_6, fz9) => (∃ (re9 : Nat → Int32), ∃ (ro9 : Nat → Int32), ∃ (rc9 : Nat), (r = 0 ∧ fz9 = vp_updL fz 0 (bL ((RB nk nc fo th tg T nt up x.toNatClampNeg))) ∧ v_re = re9 ∧ v_ro = ro9 ∧ v_o_6 = rc9 ∧ (hasI x nc = true))) ∨ (r = 1 ∧ (hasI x nc = false) ∧ fz9 = fz ∧ v_re = re ∧ v_ro = ro ∧ v_o_6 = rc)) (fun u t => match u with | (v_re, v_ro, v_o_6, fz9) => zWo (dC, dI) [(cI, .int), (cZ, .boolean), (cJ, .long)] ((w3 a cI cZ nk pa fa nc fo th tg nt tb te tk tt nu ub ue uk ut v_re v_ro fu bl go ra v_o_6 ex tc es wy) ++ ([(ou, .inl (cJ, 1, .inr (.inl fz9)))])) (va_A ((w3 a cI cZ nk pa fa nc fo th tg nt tb te tk tt nu ub ue uk ut re ro fu bl go ra rc ex tc es wy) ++ ([(ou, .inl (cJ, 1, .inr (.inl fz)))])) sz) t) (va_A ((w3 a cI cZ nk pa fa nc fo th tg nt tb te tk tt nu ub ue uk ut re ro fu bl go ra rc ex tc es wy) ++ ([(ou, .inl (cJ, 1, .inr (.inl fz)))])) sz)) 1 6 (va_A ((w3 a cI cZ nk pa fa nc fo th tg nt tb te tk tt nu ub ue uk ut re ro fu bl go ra rc ex tc es wy) ++ ([(ou, .inl (cJ, 1, .inr (.inl fz)))])) sz) := by
  refine va_MetW (cc := cL_isReached) (maxL := 4) (ret := (some .int)) (hh := [(0, 16, 19, 13)]) (by decide) rfl ?_
  intro p e s m args below meth c s₁ B hml hv
  obtain ⟨hav, ⟨⟨hsz, ⟨hP, hK, hn⟩, hD0⟩, hzt, hzu⟩, hzc⟩ := hv
  have hx := B.exec
  have hb := B.bytes
  have hr := B.returns
  have hts := atoms_spec (ws := wsL_isReached) B.pre
  have hown : s.vm.findClass RL = some m.cls := findClass_of_methodNamed B.named
  have hlocks := B.notSynchronized
  have htab : c.exceptionTable.toList = [⟨0, 16, 19, 13⟩] := vx_table (x := yL_isReached) B (hh := [(0, 16, 19, 13)]) (hts _ (by unfold wsL_isReached; exact List.mem_cons_self))
  subst hsz
  have hD := hD0.self (sz := s.heap.size)
  generalize hAe : (va_A ((w3 a cI cZ nk pa fa nc fo th tg nt tb te tk tt nu ub ue uk ut re ro fu bl go ra rc ex tc es wy) ++ ([(ou, .inl (cJ, 1, .inr (.inl fz)))])) s.heap.size) = A at hD hzu ⊢
  have hA : ∀ q : Nat, s.heap.size ≤ q → A q := fun q h => by rw [← hAe]; exact Or.inr h
  have hS : va_S A s.heap s.heap [] := va_S.rf
  generalize hQ : MQ below (va_Qi (fun (r : Int32) (u : (Nat → Int32) × (Nat → Int32) × Nat × (Nat → Int64)) => match u with | (v_re, v_ro, v_o_6, fz9) => (∃ (re9 : Nat → Int32), ∃ (ro9 : Nat → Int32), ∃ (rc9 : Nat), (r = 0 ∧ fz9 = vp_updL fz 0 (bL ((RB nk nc fo th tg T nt up x.toNatClampNeg))) ∧ v_re = re9 ∧ v_ro = ro9 ∧ v_o_6 = rc9 ∧ (hasI x nc = true))) ∨ (r = 1 ∧ (hasI x nc = false) ∧ fz9 = fz ∧ v_re = re ∧ v_ro = ro ∧ v_o_6 = rc)) (fun u t => match u with | (v_re, v_ro, v_o_6, fz9) => zWo (dC, dI) [(cI, .int), (cZ, .boolean), (cJ, .long)] ((w3 a cI cZ nk pa fa nc fo th tg nt tb te tk tt nu ub ue uk ut v_re v_ro fu bl go ra v_o_6 ex tc es wy) ++ ([(ou, .inl (cJ, 1, .inr (.inl fz9)))])) A t) A) args s 1 6 A = Q
  refine W.eq (g2 := entryFrame m ([.ref (a 0), .int x, .ref ou] : List Value).toArray 4) (by rw [hav]) ?_
  have hl := lv_entry ([.ref (a 0), .int x, .ref ou]) (n := 4) (Nat.le_of_ble_eq_true rfl)
  rw [lg_entry_eq]
  generalize (lg_sl ([.ref (a 0), .int x, .ref ou]) ++ List.replicate (4 - (lg_sl ([.ref (a 0), .int x, .ref ou])).length) Slot.unset).toArray = ls at hl ⊢
  have hl : lv_has ls 4 [(0, .ref (a 0)), (1, .int x), (2, .ref ou)] := hl
  obtain ⟨H, hH⟩ : ∃ H, H = s.heap := ⟨_, rfl⟩
  obtain ⟨locs, hlo⟩ : ∃ q : List Loc, q = [] := ⟨_, rfl⟩
  have hP : va_P (dC, dI) vwCl ((w3 a cI cZ nk pa fa nc fo th tg nt tb te tk tt nu ub ue uk ut re ro fu bl go ra rc ex tc es wy) ++ ([(ou, .inl (cJ, 1, .inr (.inl fz)))])) H := by rw [hH]; exact hP
  have hS : va_S A s.heap H locs := by rw [hH, hlo]; exact hS
  refine zz_hl hH hlo ?_
  refine lv_aload_n hx hb dL_isReached_0 rfl (lv_at hl 2 rfl) ?_
  refine lv_iconst (v := 0) hx hb dL_isReached_1 (by decide) ?_
  refine lv_aload_n hx hb dL_isReached_2 rfl (lv_at hl 0 rfl) ?_
  refine lv_iload_n hx hb dL_isReached_3 rfl (lv_at hl 1 rfl) ?_
  have hPc := hP.sub (ws' := w3 a cI cZ nk pa fa nc fo th tg nt tb te tk tt nu ub ue uk ut re ro fu bl go ra rc ex tc es wy) [0, 1, 2, 3, 4, 5, 6, 7, 8, 9, 10, 11, 12, 13, 14, 15, 16, 17, 18, 19, 20, 21, 22, 23] rfl
  have hDc := hD.sub (ws' := w3 a cI cZ nk pa fa nc fo th tg nt tb te tk tt nu ub ue uk ut re ro fu bl go ra rc ex tc es wy) [0, 1, 2, 3, 4, 5, 6, 7, 8, 9, 10, 11, 12, 13, 14, 15, 16, 17, 18, 19, 20, 21, 22, 23] (by decide) rfl
  have hFc := va_free (wc := w3 a cI cZ nk pa fa nc fo th tg nt tb te tk tt nu ub ue uk ut re ro fu bl go ra rc ex tc es wy) hD hS hA [0, 1, 2, 3, 4, 5, 6, 7, 8, 9, 10, 11, 12, 13, 14, 15, 16, 17, 18, 19, 20, 21, 22, 23] rfl
  refine vx_calli (vx_runV (As := [.int x]) (rest := [.int 0, .ref ou]) ⟨hx, hb, hml, hown, hts⟩ (c_X3_isReached l dC dI cI cZ cJ a nk pa fa nc fo th tg nt tb te tk tt nu ub ue uk ut re ro fu bl go ra rc ex tc es wy x T up H.size hlt (hg) (hc)) (cwV 1 hts gL_isReached_X3_isReached rfl rfl rfl (by decide +kernel) ⟨Nat.le_of_ble_eq_true rfl, Nat.le_of_ble_eq_true rfl⟩) ⟨zTr_blind, va_recv hK hPc (ci := 3) (q0 := 0) rfl rfl, zTr_at hPc hK hn (hDc.weaken (fun _ _ _ _ => trivial)) hzt hzu hS hFc⟩ rfl rfl hl.1 rfl (lv_room (Nat.le_of_ble_eq_true rfl)) dL_isReached_4 ⟨Nat.le_of_ble_eq_true rfl, Nat.le_of_ble_eq_true rfl⟩) hS (fun q _ h => hFc q h) hFc (fun q _ h => hFc q h) (fun E ce q9 u_9 t H1 locs ht hvm hpx hBX hz1 hk1 hS hc9 hv9 hcl => ?_) (fun r_1 u_9 t H1 locs ht hvm hw hB hz1 hk1 hS => ?_)
  · skip
    obtain ⟨hXE, hP1, -, hD1⟩ := hBX
    rw [ht] at hP1
    obtain ⟨hP, hD⟩ := va_join (wr := [(ou, .inl (cJ, 1, .inr (.inl fz)))]) (w1 := w3 a cI cZ nk pa fa nc fo th tg nt tb te tk tt nu ub ue uk ut re ro fu bl go ra rc ex tc es wy) hP hD [0, 1, 2, 3, 4, 5, 6, 7, 8, 9, 10, 11, 12, 13, 14, 15, 16, 17, 18, 19, 20, 21, 22, 23] [24] rfl rfl (by decide) (by decide) hk1 hFc hP1 hD1
    generalize H1 = H at hP hS hc9 ⊢
    have hP := hP.sub (ws' := (w3 a cI cZ nk pa fa nc fo th tg nt tb te tk tt nu ub ue uk ut re ro fu bl go ra rc ex tc es wy) ++ ([(ou, .inl (cJ, 1, .inr (.inl fz)))])) [1, 2, 3, 4, 5, 6, 7, 8, 9, 10, 11, 12, 13, 14, 15, 16, 17, 18, 19, 20, 21, 22, 23, 24, 0] rfl
    have hD := hD.sub (ws' := (w3 a cI cZ nk pa fa nc fo th tg nt tb te tk tt nu ub ue uk ut re ro fu bl go ra rc ex tc es wy) ++ ([(ou, .inl (cJ, 1, .inr (.inl fz)))])) [1, 2, 3, 4, 5, 6, 7, 8, 9, 10, 11, 12, 13, 14, 15, 16, 17, 18, 19, 20, 21, 22, 23, 24, 0] (by decide) rfl
    have hP : va_P (dC, dI) vwCl ((w3 a cI cZ nk pa fa nc fo th tg nt tb te tk tt nu ub ue uk ut re ro fu bl go ra rc ex tc es wy) ++ ([(ou, .inl (cJ, 1, .inr (.inl fz)))])) H := hP
    have hD : va_D A ((w3 a cI cZ nk pa fa nc fo th tg nt tb te tk tt nu ub ue uk ut re ro fu bl go ra rc ex tc es wy) ++ ([(ou, .inl (cJ, 1, .inr (.inl fz)))])) := hD
    refine vx_widen (k := 1) (n := 6) (by omega) (by omega) ?_
    rcases hXE with ⟨rfl, hp9⟩
    · skip
      refine vx_catch (own := RL) (name := "java/lang/IndexOutOfBoundsException") hown [] ⟨0, 16, 19, 13⟩ [] htab (fun z hz => absurd hz List.not_mem_nil) (by decide) (by decide) (hts (.classLink RL 13 "java/lang/IndexOutOfBoundsException") (by decide +kernel)) (va_Nw.use rfl (hzt.1 (.castable "java/lang/IndexOutOfBoundsException" "java/lang/IndexOutOfBoundsException") (by decide +kernel))) hc9 hv9 hcl ?_
      refine lv_astore_n (lv' := [(3, .ref q9), (0, .ref (a 0)), (1, .int x), (2, .ref ou)]) hx hb dL_isReached_19 rfl hl (by decide) rfl (fun ls hl => ?_)
      refine lv_iconst (v := 1) hx hb dL_isReached_20 (by decide) ?_
      rw [← hQ]
      have hP9 := hP
      have hD9 := hD
      exact W.iret (v := 1) hx hb hr (fun t ht hW => ⟨⟨1, (re, ro, rc, fz), rfl, (Or.inr ⟨rfl, hp9, rfl, rfl, rfl, rfl⟩), (by rw [ht]; exact hP9), va_K.moved hW.alike hK, hD9⟩, hS.F ht⟩) hS.2.2 dL_isReached_21
  obtain ⟨re_n, ro_n, rc_n⟩ := u_9
  dsimp only at hw hB
  obtain ⟨hP1, -, hD1⟩ := hB
  rw [ht] at hP1
  obtain ⟨hP, hD⟩ := va_join (wr := [(ou, .inl (cJ, 1, .inr (.inl fz)))]) (w1 := w3 a cI cZ nk pa fa nc fo th tg nt tb te tk tt nu ub ue uk ut re_n ro_n fu bl go ra rc_n ex tc es wy) hP hD [0, 1, 2, 3, 4, 5, 6, 7, 8, 9, 10, 11, 12, 13, 14, 15, 16, 17, 18, 19, 20, 21, 22, 23] [24] rfl rfl (by decide) (by decide) hk1 hFc hP1 hD1
  generalize H1 = H at hP hS ⊢
  have hP := hP.sub (ws' := (w3 a cI cZ nk pa fa nc fo th tg nt tb te tk tt nu ub ue uk ut re_n ro_n fu bl go ra rc_n ex tc es wy) ++ ([(ou, .inl (cJ, 1, .inr (.inl fz)))])) [1, 2, 3, 4, 5, 6, 7, 8, 9, 10, 11, 12, 13, 14, 15, 16, 17, 18, 19, 20, 21, 22, 23, 24, 0] rfl
  have hD := hD.sub (ws' := (w3 a cI cZ nk pa fa nc fo th tg nt tb te tk tt nu ub ue uk ut re_n ro_n fu bl go ra rc_n ex tc es wy) ++ ([(ou, .inl (cJ, 1, .inr (.inl fz)))])) [1, 2, 3, 4, 5, 6, 7, 8, 9, 10, 11, 12, 13, 14, 15, 16, 17, 18, 19, 20, 21, 22, 23, 24, 0] (by decide) rfl
  have hP : va_P (dC, dI) vwCl ((w3 a cI cZ nk pa fa nc fo th tg nt tb te tk tt nu ub ue uk ut re_n ro_n fu bl go ra rc_n ex tc es wy) ++ ([(ou, .inl (cJ, 1, .inr (.inl fz)))])) H := hP
  have hD : va_D A ((w3 a cI cZ nk pa fa nc fo th tg nt tb te tk tt nu ub ue uk ut re_n ro_n fu bl go ra rc_n ex tc es wy) ++ ([(ou, .inl (cJ, 1, .inr (.inl fz)))])) := hD
  refine W.widen (k := 1) (n := 6) (by omega) (by omega) ?_
  obtain ⟨hw0, hw⟩ := hw
  subst hw0
  refine lv_if_eq (tgt := 14) hx hb dL_isReached_7 (by decide) (fun c_5 => ?_) (fun c_5 => ?_)
  · skip
    have c9 := zb_0.mp c_5
    refine lv_lconst (v := 0) hx hb dL_isReached_14 (by decide) ?_
    refine va_last hx hb hK hP hD hS 24 2 rfl rfl (vp_in_nI (n := 0) (by omega) (by decide)) dL_isReached_15 (fun H locs hP hD hS => ?_)
    have hP : va_P (dC, dI) vwCl ((w3 a cI cZ nk pa fa nc fo th tg nt tb te tk tt nu ub ue uk ut re_n ro_n fu bl go ra rc_n ex tc es wy) ++ ([(ou, .inl (cJ, 1, .inr (.inl (vp_updL fz 0 0))))])) H := hP
    have hD : va_D A ((w3 a cI cZ nk pa fa nc fo th tg nt tb te tk tt nu ub ue uk ut re_n ro_n fu bl go ra rc_n ex tc es wy) ++ ([(ou, .inl (cJ, 1, .inr (.inl (vp_updL fz 0 0))))])) := hD
    refine lv_goto (tgt := 22) hx hb dL_isReached_16 (by decide) ?_
    refine lv_iconst (v := 0) hx hb dL_isReached_22 (by decide) ?_
    rw [← hQ]
    have hP9 := hP
    have hD9 := hD
    exact W.iret (v := 0) hx hb hr (fun t ht hW => ⟨⟨0, (re_n, ro_n, rc_n, vp_updL fz 0 0), rfl, (by first | exact Or.inl ⟨re_n, ro_n, rc_n, rfl, congrArg (vp_updL fz 0) (bL_t c9), rfl, rfl, rfl, hw⟩ | exact Or.inl ⟨re_n, ro_n, rc_n, rfl, congrArg (vp_updL fz 0) (bL_f c9), rfl, rfl, rfl, hw⟩), (by rw [ht]; exact hP9), va_K.moved hW.alike hK, hD9⟩, hS.F ht⟩) hS.2.2 dL_isReached_23
  · skip
    have c9 := zb_1.mp c_5
    refine lv_lconst (v := 1) hx hb dL_isReached_10 (by decide) ?_
    refine lv_goto (tgt := 15) hx hb dL_isReached_11 (by decide) ?_
    refine va_last hx hb hK hP hD hS 24 2 rfl rfl (vp_in_nI (n := 0) (by omega) (by decide)) dL_isReached_15 (fun H locs hP hD hS => ?_)
    have hP : va_P (dC, dI) vwCl ((w3 a cI cZ nk pa fa nc fo th tg nt tb te tk tt nu ub ue uk ut re_n ro_n fu bl go ra rc_n ex tc es wy) ++ ([(ou, .inl (cJ, 1, .inr (.inl (vp_updL fz 0 1))))])) H := hP
    have hD : va_D A ((w3 a cI cZ nk pa fa nc fo th tg nt tb te tk tt nu ub ue uk ut re_n ro_n fu bl go ra rc_n ex tc es wy) ++ ([(ou, .inl (cJ, 1, .inr (.inl (vp_updL fz 0 1))))])) := hD
    refine lv_goto (tgt := 22) hx hb dL_isReached_16 (by decide) ?_
    refine lv_iconst (v := 0) hx hb dL_isReached_22 (by decide) ?_
    rw [← hQ]
    have hP9 := hP
    have hD9 := hD
    exact W.iret (v := 0) hx hb hr (fun t ht hW => ⟨⟨0, (re_n, ro_n, rc_n, vp_updL fz 0 1), rfl, (by first | exact Or.inl ⟨re_n, ro_n, rc_n, rfl, congrArg (vp_updL fz 0) (bL_t c9), rfl, rfl, rfl, hw⟩ | exact Or.inl ⟨re_n, ro_n, rc_n, rfl, congrArg (vp_updL fz 0) (bL_f c9), rfl, rfl, rfl, hw⟩), (by rw [ht]; exact hP9), va_K.moved hW.alike hK, hD9⟩, hS.F ht⟩) hS.2.2 dL_isReached_23

set_option maxHeartbeats 4000000 in
set_option maxRecDepth 100000 in
theorem c_L_isUsed (l : Launch) (dC : Nat → ClassId) (dI : Nat → Nat → Nat) (cI cZ cJ : ClassId) (a : Nat → Nat) (nk : Nat) (pa : Nat → Int32) (fa : Nat → Int32) (nc : Nat) (fo : Nat → Int32) (th : Nat → Int32) (tg : Nat → Int32) (nt : Nat) (tb : Nat → Int32) (te : Nat → Int32) (tk : Nat → Int32) (tt : Nat → Int32) (nu : Nat) (ub : Nat → Int32) (ue : Nat → Int32) (uk : Nat → Int32) (ut : Nat → Int32) (re : Nat → Int32) (ro : Nat → Int32) (fu : Nat → Int32) (bl : Nat → Int32) (go : Nat → Int32) (ra : Nat → Int32) (rc : Nat) (ex : Int32) (tc : Int32) (es : Int32) (wy : Int64) (x : Int32) (T : Nat → Nat → Nat) (up : Nat → Nat → Bool) (ou : Nat) (fz : Nat → Int64) (sz : Nat) (hlt : l.stackTraces = false) (hg : g3 nk fa up nt tb te tk tt T) (hc : okC nk nc fo th tg) : Met l yL_isUsed wsL_isUsed ({ frames := 8, cells := 1, slots := 6, locals := 136 } : Room) (va_Pc [.ref (a 0), .int x, .ref ou] (zTl (dC, dI) [(cI, .int), (cZ, .boolean), (cJ, .long)] ((w3 a cI cZ nk pa fa nc fo th tg nt tb te tk tt nu ub ue uk ut re ro fu bl go ra rc ex tc es wy) ++ ([(ou, .inl (cJ, 1, .inr (.inl fz)))])) sz)) (va_Qi (fun (r : Int32) (u : (Nat → Int32) × (Nat → Int32) × Nat × (Nat → Int32) × (Nat → Int32) × (Nat → Int64)) => match u with | (v_re, v_ro, v_o_6, v_fu, v_bl, fz9) => (∃ (re9 : Nat → Int32), ∃ (ro9 : Nat → Int32), ∃ (rc9 : Nat), ∃ (fu9 : Nat → Int32), ∃ (bl9 : Nat → Int32), (r = 0 ∧ fz9 = vp_updL fz 0 (bL ((an (US nk nc fo th tg T nt up x.toNatClampNeg) nc))) ∧ v_re = re9 ∧ v_ro = ro9 ∧ v_o_6 = rc9 ∧ v_fu = fu9 ∧ v_bl = bl9 ∧ (hasI x nt = true))) ∨ (r = 1 ∧ (hasI x nt = false) ∧ fz9 = fz ∧ v_re = re ∧ v_ro = ro ∧ v_o_6 = rc ∧ v_fu = fu ∧ v_bl = bl)) (fun u t => match u with | (v_re, v_ro, v_o_6, v_fu, v_bl, fz9) => zWo (dC, dI) [(cI, .int), (cZ, .boolean), (cJ, .long)] ((w3 a cI cZ nk pa fa nc fo th tg nt tb te tk tt nu ub ue uk ut v_re v_ro v_fu v_bl go ra v_o_6 ex tc es wy) ++ ([(ou, .inl (cJ, 1, .inr (.inl fz9)))])) (va_A ((w3 a cI cZ nk pa fa nc fo th tg nt tb te tk tt nu ub ue uk ut re ro fu bl go ra rc ex tc es wy) ++ ([(ou, .inl (cJ, 1, .inr (.inl fz)))])) sz) t) (va_A ((w3 a cI cZ nk pa fa nc fo th tg nt tb te tk tt nu ub ue uk ut re ro fu bl go ra rc ex tc es wy) ++ ([(ou, .inl (cJ, 1, .inr (.inl fz)))])) sz)) 1 6 (va_A ((w3 a cI cZ nk pa fa nc fo th tg nt tb te tk tt nu ub ue uk ut re ro fu bl go ra rc ex tc es wy) ++ ([(ou, .inl (cJ, 1, .inr (.inl fz)))])) sz) := by
  refine va_MetW (cc := cL_isUsed) (maxL := 4) (ret := (some .int)) (hh := [(0, 16, 19, 13)]) (by decide) rfl ?_
  intro p e s m args below meth c s₁ B hml hv
  obtain ⟨hav, ⟨⟨hsz, ⟨hP, hK, hn⟩, hD0⟩, hzt, hzu⟩, hzc⟩ := hv
  have hx := B.exec
  have hb := B.bytes
  have hr := B.returns
  have hts := atoms_spec (ws := wsL_isUsed) B.pre
  have hown : s.vm.findClass RL = some m.cls := findClass_of_methodNamed B.named
  have hlocks := B.notSynchronized
  have htab : c.exceptionTable.toList = [⟨0, 16, 19, 13⟩] := vx_table (x := yL_isUsed) B (hh := [(0, 16, 19, 13)]) (hts _ (by unfold wsL_isUsed; exact List.mem_cons_self))
  subst hsz
  have hD := hD0.self (sz := s.heap.size)
  generalize hAe : (va_A ((w3 a cI cZ nk pa fa nc fo th tg nt tb te tk tt nu ub ue uk ut re ro fu bl go ra rc ex tc es wy) ++ ([(ou, .inl (cJ, 1, .inr (.inl fz)))])) s.heap.size) = A at hD hzu ⊢
  have hA : ∀ q : Nat, s.heap.size ≤ q → A q := fun q h => by rw [← hAe]; exact Or.inr h
  have hS : va_S A s.heap s.heap [] := va_S.rf
  generalize hQ : MQ below (va_Qi (fun (r : Int32) (u : (Nat → Int32) × (Nat → Int32) × Nat × (Nat → Int32) × (Nat → Int32) × (Nat → Int64)) => match u with | (v_re, v_ro, v_o_6, v_fu, v_bl, fz9) => (∃ (re9 : Nat → Int32), ∃ (ro9 : Nat → Int32), ∃ (rc9 : Nat), ∃ (fu9 : Nat → Int32), ∃ (bl9 : Nat → Int32), (r = 0 ∧ fz9 = vp_updL fz 0 (bL ((an (US nk nc fo th tg T nt up x.toNatClampNeg) nc))) ∧ v_re = re9 ∧ v_ro = ro9 ∧ v_o_6 = rc9 ∧ v_fu = fu9 ∧ v_bl = bl9 ∧ (hasI x nt = true))) ∨ (r = 1 ∧ (hasI x nt = false) ∧ fz9 = fz ∧ v_re = re ∧ v_ro = ro ∧ v_o_6 = rc ∧ v_fu = fu ∧ v_bl = bl)) (fun u t => match u with | (v_re, v_ro, v_o_6, v_fu, v_bl, fz9) => zWo (dC, dI) [(cI, .int), (cZ, .boolean), (cJ, .long)] ((w3 a cI cZ nk pa fa nc fo th tg nt tb te tk tt nu ub ue uk ut v_re v_ro v_fu v_bl go ra v_o_6 ex tc es wy) ++ ([(ou, .inl (cJ, 1, .inr (.inl fz9)))])) A t) A) args s 1 6 A = Q
  refine W.eq (g2 := entryFrame m ([.ref (a 0), .int x, .ref ou] : List Value).toArray 4) (by rw [hav]) ?_
  have hl := lv_entry ([.ref (a 0), .int x, .ref ou]) (n := 4) (Nat.le_of_ble_eq_true rfl)
  rw [lg_entry_eq]
  generalize (lg_sl ([.ref (a 0), .int x, .ref ou]) ++ List.replicate (4 - (lg_sl ([.ref (a 0), .int x, .ref ou])).length) Slot.unset).toArray = ls at hl ⊢
  have hl : lv_has ls 4 [(0, .ref (a 0)), (1, .int x), (2, .ref ou)] := hl
  obtain ⟨H, hH⟩ : ∃ H, H = s.heap := ⟨_, rfl⟩
  obtain ⟨locs, hlo⟩ : ∃ q : List Loc, q = [] := ⟨_, rfl⟩
  have hP : va_P (dC, dI) vwCl ((w3 a cI cZ nk pa fa nc fo th tg nt tb te tk tt nu ub ue uk ut re ro fu bl go ra rc ex tc es wy) ++ ([(ou, .inl (cJ, 1, .inr (.inl fz)))])) H := by rw [hH]; exact hP
  have hS : va_S A s.heap H locs := by rw [hH, hlo]; exact hS
  refine zz_hl hH hlo ?_
  refine lv_aload_n hx hb dL_isUsed_0 rfl (lv_at hl 2 rfl) ?_
  refine lv_iconst (v := 0) hx hb dL_isUsed_1 (by decide) ?_
  refine lv_aload_n hx hb dL_isUsed_2 rfl (lv_at hl 0 rfl) ?_
  refine lv_iload_n hx hb dL_isUsed_3 rfl (lv_at hl 1 rfl) ?_
  have hPc := hP.sub (ws' := w3 a cI cZ nk pa fa nc fo th tg nt tb te tk tt nu ub ue uk ut re ro fu bl go ra rc ex tc es wy) [0, 1, 2, 3, 4, 5, 6, 7, 8, 9, 10, 11, 12, 13, 14, 15, 16, 17, 18, 19, 20, 21, 22, 23] rfl
  have hDc := hD.sub (ws' := w3 a cI cZ nk pa fa nc fo th tg nt tb te tk tt nu ub ue uk ut re ro fu bl go ra rc ex tc es wy) [0, 1, 2, 3, 4, 5, 6, 7, 8, 9, 10, 11, 12, 13, 14, 15, 16, 17, 18, 19, 20, 21, 22, 23] (by decide) rfl
  have hFc := va_free (wc := w3 a cI cZ nk pa fa nc fo th tg nt tb te tk tt nu ub ue uk ut re ro fu bl go ra rc ex tc es wy) hD hS hA [0, 1, 2, 3, 4, 5, 6, 7, 8, 9, 10, 11, 12, 13, 14, 15, 16, 17, 18, 19, 20, 21, 22, 23] rfl
  refine vx_calli (vx_runV (As := [.int x]) (rest := [.int 0, .ref ou]) ⟨hx, hb, hml, hown, hts⟩ (c_X3_isUsed l dC dI cI cZ cJ a nk pa fa nc fo th tg nt tb te tk tt nu ub ue uk ut re ro fu bl go ra rc ex tc es wy x T up H.size hlt (hg) (hc)) (cwV 1 hts gL_isUsed_X3_isUsed rfl rfl rfl (by decide +kernel) ⟨Nat.le_of_ble_eq_true rfl, Nat.le_of_ble_eq_true rfl⟩) ⟨zTr_blind, va_recv hK hPc (ci := 3) (q0 := 0) rfl rfl, zTr_at hPc hK hn (hDc.weaken (fun _ _ _ _ => trivial)) hzt hzu hS hFc⟩ rfl rfl hl.1 rfl (lv_room (Nat.le_of_ble_eq_true rfl)) dL_isUsed_4 ⟨Nat.le_of_ble_eq_true rfl, Nat.le_of_ble_eq_true rfl⟩) hS (fun q _ h => hFc q h) hFc (fun q _ h => hFc q h) (fun E ce q9 u_9 t H1 locs ht hvm hpx hBX hz1 hk1 hS hc9 hv9 hcl => ?_) (fun r_1 u_9 t H1 locs ht hvm hw hB hz1 hk1 hS => ?_)
  · skip
    obtain ⟨hXE, hP1, -, hD1⟩ := hBX
    rw [ht] at hP1
    obtain ⟨hP, hD⟩ := va_join (wr := [(ou, .inl (cJ, 1, .inr (.inl fz)))]) (w1 := w3 a cI cZ nk pa fa nc fo th tg nt tb te tk tt nu ub ue uk ut re ro fu bl go ra rc ex tc es wy) hP hD [0, 1, 2, 3, 4, 5, 6, 7, 8, 9, 10, 11, 12, 13, 14, 15, 16, 17, 18, 19, 20, 21, 22, 23] [24] rfl rfl (by decide) (by decide) hk1 hFc hP1 hD1
    generalize H1 = H at hP hS hc9 ⊢
    have hP := hP.sub (ws' := (w3 a cI cZ nk pa fa nc fo th tg nt tb te tk tt nu ub ue uk ut re ro fu bl go ra rc ex tc es wy) ++ ([(ou, .inl (cJ, 1, .inr (.inl fz)))])) [1, 2, 3, 4, 5, 6, 7, 8, 9, 10, 11, 12, 13, 14, 15, 16, 17, 18, 19, 20, 21, 22, 23, 24, 0] rfl
    have hD := hD.sub (ws' := (w3 a cI cZ nk pa fa nc fo th tg nt tb te tk tt nu ub ue uk ut re ro fu bl go ra rc ex tc es wy) ++ ([(ou, .inl (cJ, 1, .inr (.inl fz)))])) [1, 2, 3, 4, 5, 6, 7, 8, 9, 10, 11, 12, 13, 14, 15, 16, 17, 18, 19, 20, 21, 22, 23, 24, 0] (by decide) rfl
    have hP : va_P (dC, dI) vwCl ((w3 a cI cZ nk pa fa nc fo th tg nt tb te tk tt nu ub ue uk ut re ro fu bl go ra rc ex tc es wy) ++ ([(ou, .inl (cJ, 1, .inr (.inl fz)))])) H := hP
    have hD : va_D A ((w3 a cI cZ nk pa fa nc fo th tg nt tb te tk tt nu ub ue uk ut re ro fu bl go ra rc ex tc es wy) ++ ([(ou, .inl (cJ, 1, .inr (.inl fz)))])) := hD
    refine vx_widen (k := 1) (n := 6) (by omega) (by omega) ?_
    rcases hXE with ⟨rfl, hp9⟩
    · skip
      refine vx_catch (own := RL) (name := "java/lang/IndexOutOfBoundsException") hown [] ⟨0, 16, 19, 13⟩ [] htab (fun z hz => absurd hz List.not_mem_nil) (by decide) (by decide) (hts (.classLink RL 13 "java/lang/IndexOutOfBoundsException") (by decide +kernel)) (va_Nw.use rfl (hzt.1 (.castable "java/lang/IndexOutOfBoundsException" "java/lang/IndexOutOfBoundsException") (by decide +kernel))) hc9 hv9 hcl ?_
      refine lv_astore_n (lv' := [(3, .ref q9), (0, .ref (a 0)), (1, .int x), (2, .ref ou)]) hx hb dL_isUsed_19 rfl hl (by decide) rfl (fun ls hl => ?_)
      refine lv_iconst (v := 1) hx hb dL_isUsed_20 (by decide) ?_
      rw [← hQ]
      have hP9 := hP
      have hD9 := hD
      exact W.iret (v := 1) hx hb hr (fun t ht hW => ⟨⟨1, (re, ro, rc, fu, bl, fz), rfl, (Or.inr ⟨rfl, hp9, rfl, rfl, rfl, rfl, rfl, rfl⟩), (by rw [ht]; exact hP9), va_K.moved hW.alike hK, hD9⟩, hS.F ht⟩) hS.2.2 dL_isUsed_21
  obtain ⟨re_n, ro_n, rc_n, fu_n, bl_n⟩ := u_9
  dsimp only at hw hB
  obtain ⟨hP1, -, hD1⟩ := hB
  rw [ht] at hP1
  obtain ⟨hP, hD⟩ := va_join (wr := [(ou, .inl (cJ, 1, .inr (.inl fz)))]) (w1 := w3 a cI cZ nk pa fa nc fo th tg nt tb te tk tt nu ub ue uk ut re_n ro_n fu_n bl_n go ra rc_n ex tc es wy) hP hD [0, 1, 2, 3, 4, 5, 6, 7, 8, 9, 10, 11, 12, 13, 14, 15, 16, 17, 18, 19, 20, 21, 22, 23] [24] rfl rfl (by decide) (by decide) hk1 hFc hP1 hD1
  generalize H1 = H at hP hS ⊢
  have hP := hP.sub (ws' := (w3 a cI cZ nk pa fa nc fo th tg nt tb te tk tt nu ub ue uk ut re_n ro_n fu_n bl_n go ra rc_n ex tc es wy) ++ ([(ou, .inl (cJ, 1, .inr (.inl fz)))])) [1, 2, 3, 4, 5, 6, 7, 8, 9, 10, 11, 12, 13, 14, 15, 16, 17, 18, 19, 20, 21, 22, 23, 24, 0] rfl
  have hD := hD.sub (ws' := (w3 a cI cZ nk pa fa nc fo th tg nt tb te tk tt nu ub ue uk ut re_n ro_n fu_n bl_n go ra rc_n ex tc es wy) ++ ([(ou, .inl (cJ, 1, .inr (.inl fz)))])) [1, 2, 3, 4, 5, 6, 7, 8, 9, 10, 11, 12, 13, 14, 15, 16, 17, 18, 19, 20, 21, 22, 23, 24, 0] (by decide) rfl
  have hP : va_P (dC, dI) vwCl ((w3 a cI cZ nk pa fa nc fo th tg nt tb te tk tt nu ub ue uk ut re_n ro_n fu_n bl_n go ra rc_n ex tc es wy) ++ ([(ou, .inl (cJ, 1, .inr (.inl fz)))])) H := hP
  have hD : va_D A ((w3 a cI cZ nk pa fa nc fo th tg nt tb te tk tt nu ub ue uk ut re_n ro_n fu_n bl_n go ra rc_n ex tc es wy) ++ ([(ou, .inl (cJ, 1, .inr (.inl fz)))])) := hD
  refine W.widen (k := 1) (n := 6) (by omega) (by omega) ?_
  obtain ⟨hw0, hw⟩ := hw
  subst hw0
  refine lv_if_eq (tgt := 14) hx hb dL_isUsed_7 (by decide) (fun c_7 => ?_) (fun c_7 => ?_)
  · skip
    have c9 := zb_0.mp c_7
    refine lv_lconst (v := 0) hx hb dL_isUsed_14 (by decide) ?_
    refine va_last hx hb hK hP hD hS 24 2 rfl rfl (vp_in_nI (n := 0) (by omega) (by decide)) dL_isUsed_15 (fun H locs hP hD hS => ?_)
    have hP : va_P (dC, dI) vwCl ((w3 a cI cZ nk pa fa nc fo th tg nt tb te tk tt nu ub ue uk ut re_n ro_n fu_n bl_n go ra rc_n ex tc es wy) ++ ([(ou, .inl (cJ, 1, .inr (.inl (vp_updL fz 0 0))))])) H := hP
    have hD : va_D A ((w3 a cI cZ nk pa fa nc fo th tg nt tb te tk tt nu ub ue uk ut re_n ro_n fu_n bl_n go ra rc_n ex tc es wy) ++ ([(ou, .inl (cJ, 1, .inr (.inl (vp_updL fz 0 0))))])) := hD
    refine lv_goto (tgt := 22) hx hb dL_isUsed_16 (by decide) ?_
    refine lv_iconst (v := 0) hx hb dL_isUsed_22 (by decide) ?_
    rw [← hQ]
    have hP9 := hP
    have hD9 := hD
    exact W.iret (v := 0) hx hb hr (fun t ht hW => ⟨⟨0, (re_n, ro_n, rc_n, fu_n, bl_n, vp_updL fz 0 0), rfl, (by first | exact Or.inl ⟨re_n, ro_n, rc_n, fu_n, bl_n, rfl, congrArg (vp_updL fz 0) (bL_t c9), rfl, rfl, rfl, rfl, rfl, hw⟩ | exact Or.inl ⟨re_n, ro_n, rc_n, fu_n, bl_n, rfl, congrArg (vp_updL fz 0) (bL_f c9), rfl, rfl, rfl, rfl, rfl, hw⟩), (by rw [ht]; exact hP9), va_K.moved hW.alike hK, hD9⟩, hS.F ht⟩) hS.2.2 dL_isUsed_23
  · skip
    have c9 := zb_1.mp c_7
    refine lv_lconst (v := 1) hx hb dL_isUsed_10 (by decide) ?_
    refine lv_goto (tgt := 15) hx hb dL_isUsed_11 (by decide) ?_
    refine va_last hx hb hK hP hD hS 24 2 rfl rfl (vp_in_nI (n := 0) (by omega) (by decide)) dL_isUsed_15 (fun H locs hP hD hS => ?_)
    have hP : va_P (dC, dI) vwCl ((w3 a cI cZ nk pa fa nc fo th tg nt tb te tk tt nu ub ue uk ut re_n ro_n fu_n bl_n go ra rc_n ex tc es wy) ++ ([(ou, .inl (cJ, 1, .inr (.inl (vp_updL fz 0 1))))])) H := hP
    have hD : va_D A ((w3 a cI cZ nk pa fa nc fo th tg nt tb te tk tt nu ub ue uk ut re_n ro_n fu_n bl_n go ra rc_n ex tc es wy) ++ ([(ou, .inl (cJ, 1, .inr (.inl (vp_updL fz 0 1))))])) := hD
    refine lv_goto (tgt := 22) hx hb dL_isUsed_16 (by decide) ?_
    refine lv_iconst (v := 0) hx hb dL_isUsed_22 (by decide) ?_
    rw [← hQ]
    have hP9 := hP
    have hD9 := hD
    exact W.iret (v := 0) hx hb hr (fun t ht hW => ⟨⟨0, (re_n, ro_n, rc_n, fu_n, bl_n, vp_updL fz 0 1), rfl, (by first | exact Or.inl ⟨re_n, ro_n, rc_n, fu_n, bl_n, rfl, congrArg (vp_updL fz 0) (bL_t c9), rfl, rfl, rfl, rfl, rfl, hw⟩ | exact Or.inl ⟨re_n, ro_n, rc_n, fu_n, bl_n, rfl, congrArg (vp_updL fz 0) (bL_f c9), rfl, rfl, rfl, rfl, rfl, hw⟩), (by rw [ht]; exact hP9), va_K.moved hW.alike hK, hD9⟩, hS.F ht⟩) hS.2.2 dL_isUsed_23

set_option maxHeartbeats 4000000 in
set_option maxRecDepth 100000 in
theorem c_L_run (l : Launch) (dC : Nat → ClassId) (dI : Nat → Nat → Nat) (cI cZ cJ : ClassId) (a : Nat → Nat) (nk : Nat) (pa : Nat → Int32) (fa : Nat → Int32) (nc : Nat) (fo : Nat → Int32) (th : Nat → Int32) (tg : Nat → Int32) (nt : Nat) (tb : Nat → Int32) (te : Nat → Int32) (tk : Nat → Int32) (tt : Nat → Int32) (nu : Nat) (ub : Nat → Int32) (ue : Nat → Int32) (uk : Nat → Int32) (ut : Nat → Int32) (re : Nat → Int32) (ro : Nat → Int32) (fu : Nat → Int32) (bl : Nat → Int32) (go : Nat → Int32) (ra : Nat → Int32) (rc : Nat) (ex : Int32) (tc : Int32) (es : Int32) (wy : Int64) (ch : Int64) (mo : Int32) (T : Nat → Nat → Nat) (up : Nat → Nat → Bool) (ou : Nat) (fz : Nat → Int64) (sz : Nat) (hlt : l.stackTraces = false) (hg : g3 nk fa up nt tb te tk tt T) (hc : okC nk nc fo th tg) : Met l yL_run wsL_run ({ frames := 7, cells := 1, slots := 6, locals := 111 } : Room) (va_Pc [.ref (a 0), .long ch, .int mo, .ref ou] (zTl (dC, dI) [(cI, .int), (cZ, .boolean), (cJ, .long)] ((w3 a cI cZ nk pa fa nc fo th tg nt tb te tk tt nu ub ue uk ut re ro fu bl go ra rc ex tc es wy) ++ ([(ou, .inl (cJ, 1, .inr (.inl fz)))])) sz)) (va_Qi (fun (r : Int32) (u : Int32 × Int32 × Int32 × Int64 × (Nat → Int64)) => match u with | (v_o_11, v_o_12, v_o_13, v_o_14, fz9) => (∃ (ex9 : Int32), ∃ (tc9 : Int32), ∃ (es9 : Int32), ∃ (wy9 : Int64), (r = 0 ∧ fz9 = vp_updL fz 0 ((ouS nc (rnS nc (stS fo th tg nk T nt up) mo.toNatClampNeg ((0, ch.toInt.toNat, 0, 0, -1, 7) : RS))).toInt64) ∧ v_o_11 = ex9 ∧ v_o_12 = tc9 ∧ v_o_13 = es9 ∧ v_o_14 = wy9 ∧ (rOK ch mo = true ∧ ex9 = nI (rnS nc (stS fo th tg nk T nt up) mo.toNatClampNeg ((0, ch.toInt.toNat, 0, 0, -1, 7) : RS)).2.2.1 ∧ (tc9, es9, wy9) = (rnS nc (stS fo th tg nk T nt up) mo.toNatClampNeg ((0, ch.toInt.toNat, 0, 0, -1, 7) : RS)).2.2.2))) ∨ (r = 1 ∧ (rOK ch mo = false) ∧ fz9 = fz ∧ v_o_11 = ex ∧ v_o_12 = tc ∧ v_o_13 = es ∧ v_o_14 = wy)) (fun u t => match u with | (v_o_11, v_o_12, v_o_13, v_o_14, fz9) => zWo (dC, dI) [(cI, .int), (cZ, .boolean), (cJ, .long)] ((w3 a cI cZ nk pa fa nc fo th tg nt tb te tk tt nu ub ue uk ut re ro fu bl go ra rc v_o_11 v_o_12 v_o_13 v_o_14) ++ ([(ou, .inl (cJ, 1, .inr (.inl fz9)))])) (va_A ((w3 a cI cZ nk pa fa nc fo th tg nt tb te tk tt nu ub ue uk ut re ro fu bl go ra rc ex tc es wy) ++ ([(ou, .inl (cJ, 1, .inr (.inl fz)))])) sz) t) (va_A ((w3 a cI cZ nk pa fa nc fo th tg nt tb te tk tt nu ub ue uk ut re ro fu bl go ra rc ex tc es wy) ++ ([(ou, .inl (cJ, 1, .inr (.inl fz)))])) sz)) 1 6 (va_A ((w3 a cI cZ nk pa fa nc fo th tg nt tb te tk tt nu ub ue uk ut re ro fu bl go ra rc ex tc es wy) ++ ([(ou, .inl (cJ, 1, .inr (.inl fz)))])) sz) := by
  refine va_MetW (cc := cL_run) (maxL := 6) (ret := (some .int)) (hh := [(0, 11, 14, 28)]) (by decide) rfl ?_
  intro p e s m args below meth c s₁ B hml hv
  obtain ⟨hav, ⟨⟨hsz, ⟨hP, hK, hn⟩, hD0⟩, hzt, hzu⟩, hzc⟩ := hv
  have hx := B.exec
  have hb := B.bytes
  have hr := B.returns
  have hts := atoms_spec (ws := wsL_run) B.pre
  have hown : s.vm.findClass RL = some m.cls := findClass_of_methodNamed B.named
  have hlocks := B.notSynchronized
  have htab : c.exceptionTable.toList = [⟨0, 11, 14, 28⟩] := vx_table (x := yL_run) B (hh := [(0, 11, 14, 28)]) (hts _ (by unfold wsL_run; exact List.mem_cons_self))
  subst hsz
  have hD := hD0.self (sz := s.heap.size)
  generalize hAe : (va_A ((w3 a cI cZ nk pa fa nc fo th tg nt tb te tk tt nu ub ue uk ut re ro fu bl go ra rc ex tc es wy) ++ ([(ou, .inl (cJ, 1, .inr (.inl fz)))])) s.heap.size) = A at hD hzu ⊢
  have hA : ∀ q : Nat, s.heap.size ≤ q → A q := fun q h => by rw [← hAe]; exact Or.inr h
  have hS : va_S A s.heap s.heap [] := va_S.rf
  generalize hQ : MQ below (va_Qi (fun (r : Int32) (u : Int32 × Int32 × Int32 × Int64 × (Nat → Int64)) => match u with | (v_o_11, v_o_12, v_o_13, v_o_14, fz9) => (∃ (ex9 : Int32), ∃ (tc9 : Int32), ∃ (es9 : Int32), ∃ (wy9 : Int64), (r = 0 ∧ fz9 = vp_updL fz 0 ((ouS nc (rnS nc (stS fo th tg nk T nt up) mo.toNatClampNeg ((0, ch.toInt.toNat, 0, 0, -1, 7) : RS))).toInt64) ∧ v_o_11 = ex9 ∧ v_o_12 = tc9 ∧ v_o_13 = es9 ∧ v_o_14 = wy9 ∧ (rOK ch mo = true ∧ ex9 = nI (rnS nc (stS fo th tg nk T nt up) mo.toNatClampNeg ((0, ch.toInt.toNat, 0, 0, -1, 7) : RS)).2.2.1 ∧ (tc9, es9, wy9) = (rnS nc (stS fo th tg nk T nt up) mo.toNatClampNeg ((0, ch.toInt.toNat, 0, 0, -1, 7) : RS)).2.2.2))) ∨ (r = 1 ∧ (rOK ch mo = false) ∧ fz9 = fz ∧ v_o_11 = ex ∧ v_o_12 = tc ∧ v_o_13 = es ∧ v_o_14 = wy)) (fun u t => match u with | (v_o_11, v_o_12, v_o_13, v_o_14, fz9) => zWo (dC, dI) [(cI, .int), (cZ, .boolean), (cJ, .long)] ((w3 a cI cZ nk pa fa nc fo th tg nt tb te tk tt nu ub ue uk ut re ro fu bl go ra rc v_o_11 v_o_12 v_o_13 v_o_14) ++ ([(ou, .inl (cJ, 1, .inr (.inl fz9)))])) A t) A) args s 1 6 A = Q
  refine W.eq (g2 := entryFrame m ([.ref (a 0), .long ch, .int mo, .ref ou] : List Value).toArray 6) (by rw [hav]) ?_
  have hl := lv_entry ([.ref (a 0), .long ch, .int mo, .ref ou]) (n := 6) (Nat.le_of_ble_eq_true rfl)
  rw [lg_entry_eq]
  generalize (lg_sl ([.ref (a 0), .long ch, .int mo, .ref ou]) ++ List.replicate (6 - (lg_sl ([.ref (a 0), .long ch, .int mo, .ref ou])).length) Slot.unset).toArray = ls at hl ⊢
  have hl : lv_has ls 6 [(0, .ref (a 0)), (1, .long ch), (3, .int mo), (4, .ref ou)] := hl
  obtain ⟨H, hH⟩ : ∃ H, H = s.heap := ⟨_, rfl⟩
  obtain ⟨locs, hlo⟩ : ∃ q : List Loc, q = [] := ⟨_, rfl⟩
  have hP : va_P (dC, dI) vwCl ((w3 a cI cZ nk pa fa nc fo th tg nt tb te tk tt nu ub ue uk ut re ro fu bl go ra rc ex tc es wy) ++ ([(ou, .inl (cJ, 1, .inr (.inl fz)))])) H := by rw [hH]; exact hP
  have hS : va_S A s.heap H locs := by rw [hH, hlo]; exact hS
  refine zz_hl hH hlo ?_
  refine lv_aload hx hb dL_run_0 (lv_at hl 3 rfl) ?_
  refine lv_iconst (v := 0) hx hb dL_run_2 (by decide) ?_
  refine lv_aload_n hx hb dL_run_3 rfl (lv_at hl 0 rfl) ?_
  refine lv_lload_n hx hb dL_run_4 rfl (lv_at hl 1 rfl) ?_
  refine lv_iload_n hx hb dL_run_5 rfl (lv_at hl 2 rfl) ?_
  have hPc := hP.sub (ws' := w3 a cI cZ nk pa fa nc fo th tg nt tb te tk tt nu ub ue uk ut re ro fu bl go ra rc ex tc es wy) [0, 1, 2, 3, 4, 5, 6, 7, 8, 9, 10, 11, 12, 13, 14, 15, 16, 17, 18, 19, 20, 21, 22, 23] rfl
  have hDc := hD.sub (ws' := w3 a cI cZ nk pa fa nc fo th tg nt tb te tk tt nu ub ue uk ut re ro fu bl go ra rc ex tc es wy) [0, 1, 2, 3, 4, 5, 6, 7, 8, 9, 10, 11, 12, 13, 14, 15, 16, 17, 18, 19, 20, 21, 22, 23] (by decide) rfl
  have hFc := va_free (wc := w3 a cI cZ nk pa fa nc fo th tg nt tb te tk tt nu ub ue uk ut re ro fu bl go ra rc ex tc es wy) hD hS hA [0, 1, 2, 3, 4, 5, 6, 7, 8, 9, 10, 11, 12, 13, 14, 15, 16, 17, 18, 19, 20, 21, 22, 23] rfl
  refine vx_calli (vx_runV (As := [.long ch, .int mo]) (rest := [.int 0, .ref ou]) ⟨hx, hb, hml, hown, hts⟩ (c_X3_run l dC dI cI cZ cJ a nk pa fa nc fo th tg nt tb te tk tt nu ub ue uk ut re ro fu bl go ra rc ex tc es wy ch mo T up H.size hlt (hg) (hc)) (cwV 2 hts gL_run_X3_run rfl rfl rfl (by decide +kernel) ⟨Nat.le_of_ble_eq_true rfl, Nat.le_of_ble_eq_true rfl⟩) ⟨zTr_blind, va_recv hK hPc (ci := 3) (q0 := 0) rfl rfl, zTr_at hPc hK hn (hDc.weaken (fun _ _ _ _ => trivial)) hzt hzu hS hFc⟩ rfl rfl hl.1 rfl (lv_room (Nat.le_of_ble_eq_true rfl)) dL_run_6 ⟨Nat.le_of_ble_eq_true rfl, Nat.le_of_ble_eq_true rfl⟩) hS (fun q _ h => hFc q h) hFc (fun q _ h => hFc q h) (fun E ce q9 u_9 t H1 locs ht hvm hpx hBX hz1 hk1 hS hc9 hv9 hcl => ?_) (fun r_1 u_9 t H1 locs ht hvm hw hB hz1 hk1 hS => ?_)
  · skip
    obtain ⟨hXE, hP1, -, hD1⟩ := hBX
    rw [ht] at hP1
    obtain ⟨hP, hD⟩ := va_join (wr := [(ou, .inl (cJ, 1, .inr (.inl fz)))]) (w1 := w3 a cI cZ nk pa fa nc fo th tg nt tb te tk tt nu ub ue uk ut re ro fu bl go ra rc ex tc es wy) hP hD [0, 1, 2, 3, 4, 5, 6, 7, 8, 9, 10, 11, 12, 13, 14, 15, 16, 17, 18, 19, 20, 21, 22, 23] [24] rfl rfl (by decide) (by decide) hk1 hFc hP1 hD1
    generalize H1 = H at hP hS hc9 ⊢
    have hP := hP.sub (ws' := (w3 a cI cZ nk pa fa nc fo th tg nt tb te tk tt nu ub ue uk ut re ro fu bl go ra rc ex tc es wy) ++ ([(ou, .inl (cJ, 1, .inr (.inl fz)))])) [1, 2, 3, 4, 5, 6, 7, 8, 9, 10, 11, 12, 13, 14, 15, 16, 17, 18, 19, 20, 21, 22, 23, 24, 0] rfl
    have hD := hD.sub (ws' := (w3 a cI cZ nk pa fa nc fo th tg nt tb te tk tt nu ub ue uk ut re ro fu bl go ra rc ex tc es wy) ++ ([(ou, .inl (cJ, 1, .inr (.inl fz)))])) [1, 2, 3, 4, 5, 6, 7, 8, 9, 10, 11, 12, 13, 14, 15, 16, 17, 18, 19, 20, 21, 22, 23, 24, 0] (by decide) rfl
    have hP : va_P (dC, dI) vwCl ((w3 a cI cZ nk pa fa nc fo th tg nt tb te tk tt nu ub ue uk ut re ro fu bl go ra rc ex tc es wy) ++ ([(ou, .inl (cJ, 1, .inr (.inl fz)))])) H := hP
    have hD : va_D A ((w3 a cI cZ nk pa fa nc fo th tg nt tb te tk tt nu ub ue uk ut re ro fu bl go ra rc ex tc es wy) ++ ([(ou, .inl (cJ, 1, .inr (.inl fz)))])) := hD
    refine vx_widen (k := 1) (n := 6) (by omega) (by omega) ?_
    rcases hXE with ⟨rfl, hp9⟩
    · skip
      refine vx_catch (own := RL) (name := "java/lang/IllegalArgumentException") hown [] ⟨0, 11, 14, 28⟩ [] htab (fun z hz => absurd hz List.not_mem_nil) (by decide) (by decide) (hts (.classLink RL 28 "java/lang/IllegalArgumentException") (by decide +kernel)) (va_Nw.use rfl (hzt.1 (.castable "java/lang/IllegalArgumentException" "java/lang/IllegalArgumentException") (by decide +kernel))) hc9 hv9 hcl ?_
      refine lv_astore (lv' := [(5, .ref q9), (0, .ref (a 0)), (1, .long ch), (3, .int mo), (4, .ref ou)]) hx hb dL_run_14 hl (by decide) rfl (fun ls hl => ?_)
      refine lv_iconst (v := 1) hx hb dL_run_16 (by decide) ?_
      rw [← hQ]
      have hP9 := hP
      have hD9 := hD
      exact W.iret (v := 1) hx hb hr (fun t ht hW => ⟨⟨1, (ex, tc, es, wy, fz), rfl, (Or.inr ⟨rfl, hp9, rfl, rfl, rfl, rfl, rfl⟩), (by rw [ht]; exact hP9), va_K.moved hW.alike hK, hD9⟩, hS.F ht⟩) hS.2.2 dL_run_17
  obtain ⟨ex_n, tc_n, es_n, wy_n⟩ := u_9
  dsimp only at hw hB
  obtain ⟨hP1, -, hD1⟩ := hB
  rw [ht] at hP1
  obtain ⟨hP, hD⟩ := va_join (wr := [(ou, .inl (cJ, 1, .inr (.inl fz)))]) (w1 := w3 a cI cZ nk pa fa nc fo th tg nt tb te tk tt nu ub ue uk ut re ro fu bl go ra rc ex_n tc_n es_n wy_n) hP hD [0, 1, 2, 3, 4, 5, 6, 7, 8, 9, 10, 11, 12, 13, 14, 15, 16, 17, 18, 19, 20, 21, 22, 23] [24] rfl rfl (by decide) (by decide) hk1 hFc hP1 hD1
  generalize H1 = H at hP hS ⊢
  have hP := hP.sub (ws' := (w3 a cI cZ nk pa fa nc fo th tg nt tb te tk tt nu ub ue uk ut re ro fu bl go ra rc ex_n tc_n es_n wy_n) ++ ([(ou, .inl (cJ, 1, .inr (.inl fz)))])) [1, 2, 3, 4, 5, 6, 7, 8, 9, 10, 11, 12, 13, 14, 15, 16, 17, 18, 19, 20, 21, 22, 23, 24, 0] rfl
  have hD := hD.sub (ws' := (w3 a cI cZ nk pa fa nc fo th tg nt tb te tk tt nu ub ue uk ut re ro fu bl go ra rc ex_n tc_n es_n wy_n) ++ ([(ou, .inl (cJ, 1, .inr (.inl fz)))])) [1, 2, 3, 4, 5, 6, 7, 8, 9, 10, 11, 12, 13, 14, 15, 16, 17, 18, 19, 20, 21, 22, 23, 24, 0] (by decide) rfl
  have hP : va_P (dC, dI) vwCl ((w3 a cI cZ nk pa fa nc fo th tg nt tb te tk tt nu ub ue uk ut re ro fu bl go ra rc ex_n tc_n es_n wy_n) ++ ([(ou, .inl (cJ, 1, .inr (.inl fz)))])) H := hP
  have hD : va_D A ((w3 a cI cZ nk pa fa nc fo th tg nt tb te tk tt nu ub ue uk ut re ro fu bl go ra rc ex_n tc_n es_n wy_n) ++ ([(ou, .inl (cJ, 1, .inr (.inl fz)))])) := hD
  refine W.widen (k := 1) (n := 6) (by omega) (by omega) ?_
  obtain ⟨hw0, hw⟩ := hw
  subst hw0
  refine lv_i2l (v := (ouS nc (rnS nc (stS fo th tg nk T nt up) mo.toNatClampNeg ((0, ch.toInt.toNat, 0, 0, -1, 7) : RS))).toInt64) hx hb dL_run_9 rfl ?_
  refine va_last hx hb hK hP hD hS 24 2 rfl rfl (vp_in_nI (n := 0) (by omega) (by decide)) dL_run_10 (fun H locs hP hD hS => ?_)
  have hP : va_P (dC, dI) vwCl ((w3 a cI cZ nk pa fa nc fo th tg nt tb te tk tt nu ub ue uk ut re ro fu bl go ra rc ex_n tc_n es_n wy_n) ++ ([(ou, .inl (cJ, 1, .inr (.inl (vp_updL fz 0 ((ouS nc (rnS nc (stS fo th tg nk T nt up) mo.toNatClampNeg ((0, ch.toInt.toNat, 0, 0, -1, 7) : RS))).toInt64)))))])) H := hP
  have hD : va_D A ((w3 a cI cZ nk pa fa nc fo th tg nt tb te tk tt nu ub ue uk ut re ro fu bl go ra rc ex_n tc_n es_n wy_n) ++ ([(ou, .inl (cJ, 1, .inr (.inl (vp_updL fz 0 ((ouS nc (rnS nc (stS fo th tg nk T nt up) mo.toNatClampNeg ((0, ch.toInt.toNat, 0, 0, -1, 7) : RS))).toInt64)))))])) := hD
  refine lv_goto (tgt := 18) hx hb dL_run_11 (by decide) ?_
  refine lv_iconst (v := 0) hx hb dL_run_18 (by decide) ?_
  rw [← hQ]
  have hP9 := hP
  have hD9 := hD
  exact W.iret (v := 0) hx hb hr (fun t ht hW => ⟨⟨0, (ex_n, tc_n, es_n, wy_n, vp_updL fz 0 ((ouS nc (rnS nc (stS fo th tg nk T nt up) mo.toNatClampNeg ((0, ch.toInt.toNat, 0, 0, -1, 7) : RS))).toInt64)), rfl, (Or.inl ⟨ex_n, tc_n, es_n, wy_n, rfl, rfl, rfl, rfl, rfl, rfl, hw⟩), (by rw [ht]; exact hP9), va_K.moved hW.alike hK, hD9⟩, hS.F ht⟩) hS.2.2 dL_run_19

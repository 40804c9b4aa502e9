set_option maxHeartbeats 4000000 in
set_option maxRecDepth 100000 in
theorem lk_16 {p : Program} {e : Env} {s : State} {m : MethodId} {below : List Frame} {meth : Method} {c : Code} {Q : State → Prop} (l : Launch) {sb L : Nat} {xs : Nat → Int32} (dC : Nat → ClassId) (dI : Nat → Nat → Nat) (cI cZ cJ : ClassId) (a b : Nat → Nat) (ou i k0 n0 : Nat) (hF0 : lwF p l s m c sb L xs dC dI cI cZ cJ) (hi : i + 5 ≤ L) (hk0 : k0 + 100 ≤ 601024) (hn0 : n0 + 3000 ≤ 7293034) (nk : Nat) (pa : Nat → Int32) (fa : Nat → Int32) (nc : Nat) (fo : Nat → Int32) (th : Nat → Int32) (tg : Nat → Int32) (nt : Nat) (tb : Nat → Int32) (te : Nat → Int32) (tk : Nat → Int32) (tt : Nat → Int32) (nu : Nat) (ub : Nat → Int32) (ue : Nat → Int32) (uk : Nat → Int32) (ut : Nat → Int32) (re : Nat → Int32) (ro : Nat → Int32) (fu : Nat → Int32) (bl : Nat → Int32) (go : Nat → Int32) (ra : Nat → Int32) (rc : Nat) (ex : Int32) (tc : Int32) (es : Int32) (wy : Int64) (tw : Int32) (tb4 : Nat → Int32) (te4 : Nat → Int32) (tk4 : Nat → Int32) (tt4 : Nat → Int32) (ab : Nat → Int32) (re4 : Nat → Int32) (go4 : Nat → Int32) (be : Nat → Int32) (fz : Nat → Int64) (T : Nat → Nat → Nat) (up : Nat → Nat → Bool) (hg : g3 nk fa up nt tb te tk tt T) (hg4 : g4 nk ab up nt tb4 te4 tk4 tt4 T) (hc : okC nk nc fo th tg) (H : Heap) (locs : List Loc) (ls : Array Slot) (hP : va_P (dC, dI) vwCl ((w3 a cI cZ nk pa fa nc fo th tg nt tb te tk tt nu ub ue uk ut re ro fu bl go ra rc ex tc es wy) ++ ((w4 b cI cZ tw nk pa nc fo th tg nt tb4 te4 tk4 tt4 ex tc es wy ab re4 go4 be) ++ ([(ou, .inl (cJ, 1, .inr (.inl fz)))]))) H) (hD : va_D (fun q => s.heap.size ≤ q) ((w3 a cI cZ nk pa fa nc fo th tg nt tb te tk tt nu ub ue uk ut re ro fu bl go ra rc ex tc es wy) ++ ((w4 b cI cZ tw nk pa nc fo th tg nt tb4 te4 tk4 tt4 ex tc es wy ab re4 go4 be) ++ ([(ou, .inl (cJ, 1, .inr (.inl fz)))])))) (hS : va_S (fun q => s.heap.size ≤ q) s.heap H locs) (hl : lv_has ls 9 [(0, .ref sb), (1, .ref (a 0)), (2, .ref (b 0)), (3, .ref ou), (4, .int (nI i))]) (K : ∀ (nk : Nat) (pa : Nat → Int32) (fa : Nat → Int32) (nc : Nat) (fo : Nat → Int32) (th : Nat → Int32) (tg : Nat → Int32) (nt : Nat) (tb : Nat → Int32) (te : Nat → Int32) (tk : Nat → Int32) (tt : Nat → Int32) (nu : Nat) (ub : Nat → Int32) (ue : Nat → Int32) (uk : Nat → Int32) (ut : Nat → Int32) (re : Nat → Int32) (ro : Nat → Int32) (fu : Nat → Int32) (bl : Nat → Int32) (go : Nat → Int32) (ra : Nat → Int32) (rc : Nat) (ex : Int32) (tc : Int32) (es : Int32) (wy : Int64) (tw : Int32) (tb4 : Nat → Int32) (te4 : Nat → Int32) (tk4 : Nat → Int32) (tt4 : Nat → Int32) (ab : Nat → Int32) (re4 : Nat → Int32) (go4 : Nat → Int32) (be : Nat → Int32) (fz : Nat → Int64) (T : Nat → Nat → Nat) (up : Nat → Nat → Bool) (H : Heap) (locs : List Loc) (ls : Array Slot), g3 nk fa up nt tb te tk tt T → g4 nk ab up nt tb4 te4 tk4 tt4 T → okC nk nc fo th tg → va_P (dC, dI) vwCl ((w3 a cI cZ nk pa fa nc fo th tg nt tb te tk tt nu ub ue uk ut re ro fu bl go ra rc ex tc es wy) ++ ((w4 b cI cZ tw nk pa nc fo th tg nt tb4 te4 tk4 tt4 ex tc es wy ab re4 go4 be) ++ ([(ou, .inl (cJ, 1, .inr (.inl fz)))]))) H → va_D (fun q => s.heap.size ≤ q) ((w3 a cI cZ nk pa fa nc fo th tg nt tb te tk tt nu ub ue uk ut re ro fu bl go ra rc ex tc es wy) ++ ((w4 b cI cZ tw nk pa nc fo th tg nt tb4 te4 tk4 tt4 ex tc es wy ab re4 go4 be) ++ ([(ou, .inl (cJ, 1, .inr (.inl fz)))]))) → va_S (fun q => s.heap.size ≤ q) s.heap H locs → lv_has ls 9 [(0, .ref sb), (1, .ref (a 0)), (2, .ref (b 0)), (3, .ref ou), (4, .int (nI i))] → W p l e room_1 s m #[Value.ref sb] below meth c H locs (k0 + 100) (n0 + 3000) Q (F0 m 1475 ls [])) : W p l e room_1 s m #[Value.ref sb] below meth c H locs k0 n0 Q (F0 m 1050 ls []) := by
  obtain ⟨hx, hb, hml, hown, hts, hX, hbl, hL, hK, hn, hzt, hzu, hzc, hlt⟩ := id hF0
  obtain ⟨A, hAe⟩ : ∃ A : Nat → Prop, A = fun q => s.heap.size ≤ q := ⟨_, rfl⟩
  have hbA : ¬ A sb := by rw [hAe]; exact Nat.not_le.mpr hbl
  have hA : ∀ q : Nat, s.heap.size ≤ q → A q := fun q h => by rw [hAe]; exact h
  rw [← hAe] at hD hS hzu K
  refine lv_aload_n hx hb dL_law_1050 rfl (lv_at hl 1 rfl) ?_
  refine lv_aload_n hx hb dL_law_1051 rfl (lv_at hl 0 rfl) ?_
  refine lv_iload hx hb dL_law_1052 (lv_at hl 4 rfl) ?_
  refine lv_iconst (v := 1) hx hb dL_law_1054 (by decide) ?_
  refine lv_iadd hx hb dL_law_1055 ?_
  refine zz_top (y := nI (i + 1)) (nI_add _ _) ?_
  refine va_sld hx hb hX hbl hbA hS (vp_in_nI (n := i + 1) (by omega) (by omega)) dL_law_1056 ?_
  refine zz_top (y := xs (i + 1)) (congrArg _ (nI_clamp (by omega))) ?_
  refine lv_aload_n hx hb dL_law_1057 rfl (lv_at hl 3 rfl) ?_
  have hPc := hP.sub (ws' := (w3 a cI cZ nk pa fa nc fo th tg nt tb te tk tt nu ub ue uk ut re ro fu bl go ra rc ex tc es wy) ++ ([(ou, .inl (cJ, 1, .inr (.inl fz)))])) [0, 1, 2, 3, 4, 5, 6, 7, 8, 9, 10, 11, 12, 13, 14, 15, 16, 17, 18, 19, 20, 21, 22, 23, 37] rfl
  have hDc := hD.sub (ws' := (w3 a cI cZ nk pa fa nc fo th tg nt tb te tk tt nu ub ue uk ut re ro fu bl go ra rc ex tc es wy) ++ ([(ou, .inl (cJ, 1, .inr (.inl fz)))])) [0, 1, 2, 3, 4, 5, 6, 7, 8, 9, 10, 11, 12, 13, 14, 15, 16, 17, 18, 19, 20, 21, 22, 23, 37] (by decide) rfl
  have hFc := va_free (wc := (w3 a cI cZ nk pa fa nc fo th tg nt tb te tk tt nu ub ue uk ut re ro fu bl go ra rc ex tc es wy) ++ ([(ou, .inl (cJ, 1, .inr (.inl fz)))])) hD hS hA [0, 1, 2, 3, 4, 5, 6, 7, 8, 9, 10, 11, 12, 13, 14, 15, 16, 17, 18, 19, 20, 21, 22, 23, 37] rfl
  refine va_calli (vx_runSW (As := [.ref (a 0), .int (xs (i + 1)), .ref ou]) (rest := []) ⟨hx, hb, hml, hown, hts⟩ (c_L_isReached l dC dI cI cZ cJ a nk pa fa nc fo th tg nt tb te tk tt nu ub ue uk ut re ro fu bl go ra rc ex tc es wy (xs (i + 1)) T up ou fz H.size hlt (by first | assumption | omega) (by first | assumption | omega)) (vx_cwSW 3 hts gL_law_L_isReached rfl rfl rfl (by decide +kernel) ⟨Nat.le_of_ble_eq_true rfl, Nat.le_of_ble_eq_true rfl⟩) ⟨zTl_blind, zTl_at hPc hK hn (hDc.weaken (fun _ _ _ _ => trivial)) hzt hzu hS hFc hzc⟩ rfl rfl hl.1 rfl (lv_room (Nat.le_of_ble_eq_true rfl)) dL_law_1058 ⟨by show _ ≤ 601024; omega, by show _ ≤ 7293034; omega⟩) hS (fun q _ h => hFc q h) hFc (fun r_1 u_9 t H1 locs ht hvm hw hB hz1 hk1 hS => ?_)
  obtain ⟨v_re_1, v_ro_2, v_o_3, fz9_4⟩ := u_9
  dsimp only at hw hB
  obtain ⟨hP1, -, hD1⟩ := hB
  rw [ht] at hP1
  obtain ⟨hP, hD⟩ := va_join (wr := w4 b cI cZ tw nk pa nc fo th tg nt tb4 te4 tk4 tt4 ex tc es wy ab re4 go4 be) (w1 := (w3 a cI cZ nk pa fa nc fo th tg nt tb te tk tt nu ub ue uk ut v_re_1 v_ro_2 fu bl go ra v_o_3 ex tc es wy) ++ ([(ou, .inl (cJ, 1, .inr (.inl fz9_4)))])) hP hD [0, 1, 2, 3, 4, 5, 6, 7, 8, 9, 10, 11, 12, 13, 14, 15, 16, 17, 18, 19, 20, 21, 22, 23, 37] [24, 25, 26, 27, 28, 29, 30, 31, 32, 33, 34, 35, 36] rfl rfl (by decide) (by decide) hk1 hFc hP1 hD1
  generalize H1 = H at hP hS ⊢
  have hP := hP.sub (ws' := (w3 a cI cZ nk pa fa nc fo th tg nt tb te tk tt nu ub ue uk ut v_re_1 v_ro_2 fu bl go ra v_o_3 ex tc es wy) ++ ((w4 b cI cZ tw nk pa nc fo th tg nt tb4 te4 tk4 tt4 ex tc es wy ab re4 go4 be) ++ ([(ou, .inl (cJ, 1, .inr (.inl fz9_4)))]))) [13, 14, 15, 16, 17, 18, 19, 20, 21, 22, 23, 24, 25, 26, 27, 28, 29, 30, 31, 32, 33, 34, 35, 36, 0, 1, 2, 3, 4, 5, 6, 7, 8, 9, 10, 11, 12, 37] rfl
  have hD := hD.sub (ws' := (w3 a cI cZ nk pa fa nc fo th tg nt tb te tk tt nu ub ue uk ut v_re_1 v_ro_2 fu bl go ra v_o_3 ex tc es wy) ++ ((w4 b cI cZ tw nk pa nc fo th tg nt tb4 te4 tk4 tt4 ex tc es wy ab re4 go4 be) ++ ([(ou, .inl (cJ, 1, .inr (.inl fz9_4)))]))) [13, 14, 15, 16, 17, 18, 19, 20, 21, 22, 23, 24, 25, 26, 27, 28, 29, 30, 31, 32, 33, 34, 35, 36, 0, 1, 2, 3, 4, 5, 6, 7, 8, 9, 10, 11, 12, 37] (by decide) rfl
  have hP : va_P (dC, dI) vwCl ((w3 a cI cZ nk pa fa nc fo th tg nt tb te tk tt nu ub ue uk ut v_re_1 v_ro_2 fu bl go ra v_o_3 ex tc es wy) ++ ((w4 b cI cZ tw nk pa nc fo th tg nt tb4 te4 tk4 tt4 ex tc es wy ab re4 go4 be) ++ ([(ou, .inl (cJ, 1, .inr (.inl fz9_4)))]))) H := hP
  have hD : va_D A ((w3 a cI cZ nk pa fa nc fo th tg nt tb te tk tt nu ub ue uk ut v_re_1 v_ro_2 fu bl go ra v_o_3 ex tc es wy) ++ ((w4 b cI cZ tw nk pa nc fo th tg nt tb4 te4 tk4 tt4 ex tc es wy ab re4 go4 be) ++ ([(ou, .inl (cJ, 1, .inr (.inl fz9_4)))]))) := hD
  refine W.widen (k := k0 + 1) (n := n0 + 6) (by omega) (by omega) ?_
  rcases hw with ⟨x_6, x_7, x_8, ⟨h_9, h_10, h_11, h_12, h_13, h_14⟩⟩ | ⟨h_15, h_16, h_17, h_18, h_19, h_20⟩
  · skip
    replace h_9 := h_9.symm
    subst h_9
    replace h_10 := h_10.symm
    subst h_10
    replace h_11 := h_11.symm
    subst h_11
    replace h_12 := h_12.symm
    subst h_12
    replace h_13 := h_13.symm
    subst h_13
    have hP : va_P (dC, dI) vwCl ((w3 a cI cZ nk pa fa nc fo th tg nt tb te tk tt nu ub ue uk ut x_6 x_7 fu bl go ra x_8 ex tc es wy) ++ ((w4 b cI cZ tw nk pa nc fo th tg nt tb4 te4 tk4 tt4 ex tc es wy ab re4 go4 be) ++ ([(ou, .inl (cJ, 1, .inr (.inl (vp_updL fz 0 (bL ((RB nk nc fo th tg T nt up (xs (i + 1)).toNatClampNeg)))))))]))) H := hP
    have hD : va_D A ((w3 a cI cZ nk pa fa nc fo th tg nt tb te tk tt nu ub ue uk ut x_6 x_7 fu bl go ra x_8 ex tc es wy) ++ ((w4 b cI cZ tw nk pa nc fo th tg nt tb4 te4 tk4 tt4 ex tc es wy ab re4 go4 be) ++ ([(ou, .inl (cJ, 1, .inr (.inl (vp_updL fz 0 (bL ((RB nk nc fo th tg T nt up (xs (i + 1)).toNatClampNeg)))))))]))) := hD
    refine lv_istore (lv' := [(5, .int 0), (0, .ref sb), (1, .ref (a 0)), (2, .ref (b 0)), (3, .ref ou), (4, .int (nI i))]) hx hb dL_law_1061 hl (by decide) rfl (fun ls hl => ?_)
    refine lv_aload_n hx hb dL_law_1063 rfl (lv_at hl 3 rfl) ?_
    refine lv_aload_n hx hb dL_law_1064 rfl (lv_at hl 1 rfl) ?_
    refine lv_iload hx hb dL_law_1065 (lv_at hl 5 rfl) ?_
    refine lv_iconst (v := 1) hx hb dL_law_1067 (by decide) ?_
    refine lv_iadd hx hb dL_law_1068 ?_
    refine zz_top (y := nI (i + 1)) (nI_add _ _) ?_
    refine va_sld hx hb hX hbl hbA hS (vp_in_nI (n := i + 1) (by omega) (by omega)) dL_law_1069 ?_
    refine zz_top (y := xs (i + 1)) (congrArg _ (nI_clamp (by omega))) ?_
    have hPc := hP.sub (ws' := w4 b cI cZ tw nk pa nc fo th tg nt tb4 te4 tk4 tt4 ex tc es wy ab re4 go4 be) [24, 25, 26, 27, 28, 29, 30, 31, 32, 33, 34, 35, 36] rfl
    have hDc := hD.sub (ws' := w4 b cI cZ tw nk pa nc fo th tg nt tb4 te4 tk4 tt4 ex tc es wy ab re4 go4 be) [24, 25, 26, 27, 28, 29, 30, 31, 32, 33, 34, 35, 36] (by decide) rfl
    have hFc := va_free (wc := w4 b cI cZ tw nk pa nc fo th tg nt tb4 te4 tk4 tt4 ex tc es wy ab re4 go4 be) hD hS hA [24, 25, 26, 27, 28, 29, 30, 31, 32, 33, 34, 35, 36] rfl
    refine va_calli (va_runV (As := [.int (xs (i + 1))]) (rest := []) ⟨hx, hb, hml, hown, hts⟩ (c_X4_isReached l dC dI cI cZ cJ b tw nk pa nc fo th tg nt tb4 te4 tk4 tt4 ex tc es wy ab re4 go4 be (xs (i + 1)) T up H.size (by first | assumption | omega) (by first | assumption | omega)) (cwV 1 hts gL_law_X4_isReached rfl rfl rfl (by decide +kernel) ⟨Nat.le_of_ble_eq_true rfl, Nat.le_of_ble_eq_true rfl⟩) ⟨zWr_blind, va_recv hK hPc (ci := 4) (q0 := 0) rfl rfl, zWr_at hPc hK hn (hDc.weaken (fun _ _ _ _ => trivial))⟩ rfl rfl hl.1 rfl (lv_room (Nat.le_of_ble_eq_true rfl)) dL_law_1070 ⟨by show _ ≤ 601024; omega, by show _ ≤ 7293034; omega⟩) hS (fun q _ h => hFc q h) hFc (fun r_21 u_9 t H1 locs ht hvm hw hB hz1 hk1 hS => ?_)
    obtain ⟨tw9_21, re9_22⟩ := u_9
    dsimp only at hw hB
    obtain ⟨hP1, -, hD1⟩ := hB
    rw [ht] at hP1
    obtain ⟨hP, hD⟩ := va_join (wr := (w3 a cI cZ nk pa fa nc fo th tg nt tb te tk tt nu ub ue uk ut x_6 x_7 fu bl go ra x_8 ex tc es wy) ++ ([(ou, .inl (cJ, 1, .inr (.inl (vp_updL fz 0 (bL ((RB nk nc fo th tg T nt up (xs (i + 1)).toNatClampNeg)))))))])) (w1 := w4 b cI cZ tw9_21 nk pa nc fo th tg nt tb4 te4 tk4 tt4 ex tc es wy ab re9_22 go4 be) hP hD [24, 25, 26, 27, 28, 29, 30, 31, 32, 33, 34, 35, 36] [0, 1, 2, 3, 4, 5, 6, 7, 8, 9, 10, 11, 12, 13, 14, 15, 16, 17, 18, 19, 20, 21, 22, 23, 37] rfl rfl (by decide) (by decide) hk1 hFc hP1 hD1
    generalize H1 = H at hP hS ⊢
    have hP := hP.sub (ws' := (w3 a cI cZ nk pa fa nc fo th tg nt tb te tk tt nu ub ue uk ut x_6 x_7 fu bl go ra x_8 ex tc es wy) ++ ((w4 b cI cZ tw9_21 nk pa nc fo th tg nt tb4 te4 tk4 tt4 ex tc es wy ab re9_22 go4 be) ++ ([(ou, .inl (cJ, 1, .inr (.inl (vp_updL fz 0 (bL ((RB nk nc fo th tg T nt up (xs (i + 1)).toNatClampNeg)))))))]))) [0, 1, 2, 3, 4, 5, 6, 7, 8, 9, 10, 11, 12, 13, 14, 15, 16, 17, 18, 19, 20, 21, 22, 23, 25, 26, 27, 28, 29, 30, 31, 32, 33, 34, 35, 36, 37, 24] rfl
    have hD := hD.sub (ws' := (w3 a cI cZ nk pa fa nc fo th tg nt tb te tk tt nu ub ue uk ut x_6 x_7 fu bl go ra x_8 ex tc es wy) ++ ((w4 b cI cZ tw9_21 nk pa nc fo th tg nt tb4 te4 tk4 tt4 ex tc es wy ab re9_22 go4 be) ++ ([(ou, .inl (cJ, 1, .inr (.inl (vp_updL fz 0 (bL ((RB nk nc fo th tg T nt up (xs (i + 1)).toNatClampNeg)))))))]))) [0, 1, 2, 3, 4, 5, 6, 7, 8, 9, 10, 11, 12, 13, 14, 15, 16, 17, 18, 19, 20, 21, 22, 23, 25, 26, 27, 28, 29, 30, 31, 32, 33, 34, 35, 36, 37, 24] (by decide) rfl
    have hP : va_P (dC, dI) vwCl ((w3 a cI cZ nk pa fa nc fo th tg nt tb te tk tt nu ub ue uk ut x_6 x_7 fu bl go ra x_8 ex tc es wy) ++ ((w4 b cI cZ tw9_21 nk pa nc fo th tg nt tb4 te4 tk4 tt4 ex tc es wy ab re9_22 go4 be) ++ ([(ou, .inl (cJ, 1, .inr (.inl (vp_updL fz 0 (bL ((RB nk nc fo th tg T nt up (xs (i + 1)).toNatClampNeg)))))))]))) H := hP
    have hD : va_D A ((w3 a cI cZ nk pa fa nc fo th tg nt tb te tk tt nu ub ue uk ut x_6 x_7 fu bl go ra x_8 ex tc es wy) ++ ((w4 b cI cZ tw9_21 nk pa nc fo th tg nt tb4 te4 tk4 tt4 ex tc es wy ab re9_22 go4 be) ++ ([(ou, .inl (cJ, 1, .inr (.inl (vp_updL fz 0 (bL ((RB nk nc fo th tg T nt up (xs (i + 1)).toNatClampNeg)))))))]))) := hD
    rcases hw with ⟨h_24, h_25, h_26⟩ | ⟨h_27, h_28⟩
    · skip
      replace h_25 := h_25.symm
      subst h_25
      replace h_26 := h_26.symm
      subst h_26
      have hP : va_P (dC, dI) vwCl ((w3 a cI cZ nk pa fa nc fo th tg nt tb te tk tt nu ub ue uk ut x_6 x_7 fu bl go ra x_8 ex tc es wy) ++ ((w4 b cI cZ 0 nk pa nc fo th tg nt tb4 te4 tk4 tt4 ex tc es wy ab re9_22 go4 be) ++ ([(ou, .inl (cJ, 1, .inr (.inl (vp_updL fz 0 (bL ((RB nk nc fo th tg T nt up (xs (i + 1)).toNatClampNeg)))))))]))) H := hP
      have hD : va_D A ((w3 a cI cZ nk pa fa nc fo th tg nt tb te tk tt nu ub ue uk ut x_6 x_7 fu bl go ra x_8 ex tc es wy) ++ ((w4 b cI cZ 0 nk pa nc fo th tg nt tb4 te4 tk4 tt4 ex tc es wy ab re9_22 go4 be) ++ ([(ou, .inl (cJ, 1, .inr (.inl (vp_updL fz 0 (bL ((RB nk nc fo th tg T nt up (xs (i + 1)).toNatClampNeg)))))))]))) := hD
      refine lv_istore (lv' := [(6, .int (bI (RB nk nc fo th tg T nt up (xs (i + 1)).toNatClampNeg))), (5, .int 0), (0, .ref sb), (1, .ref (a 0)), (2, .ref (b 0)), (3, .ref ou), (4, .int (nI i))]) hx hb dL_law_1073 hl (by decide) rfl (fun ls hl => ?_)
      refine lv_aload_n hx hb dL_law_1075 rfl (lv_at hl 4 rfl) ?_
      have hPc := hP.sub (ws' := w4 b cI cZ 0 nk pa nc fo th tg nt tb4 te4 tk4 tt4 ex tc es wy ab re9_22 go4 be) [24, 25, 26, 27, 28, 29, 30, 31, 32, 33, 34, 35, 36] rfl
      refine va_calli (va_runV (As := []) (rest := []) ⟨hx, hb, hml, hown, hts⟩ (c_X4_thrown l dC dI cI cZ cJ b 0 nk pa nc fo th tg nt tb4 te4 tk4 tt4 ex tc es wy ab re9_22 go4 be ) (cwV 0 hts gL_law_X4_thrown rfl rfl rfl (by decide +kernel) ⟨Nat.le_of_ble_eq_true rfl, Nat.le_of_ble_eq_true rfl⟩) ⟨zPre_blind, va_recv hK hPc (ci := 4) (q0 := 0) rfl rfl, zPre_at hPc hK hn⟩ rfl rfl hl.1 rfl (lv_room (Nat.le_of_ble_eq_true rfl)) dL_law_1076 ⟨by show _ ≤ 601024; omega, by show _ ≤ 7293034; omega⟩) hS (fun _ _ h => h.elim) (fun _ h => h.elim) (fun r_29 u_9 t H locs ht hvm hw hB hz1 hk1 hS => ?_)
      have hP := zkeep hP hk1
      subst hw
      refine lv_iload hx hb dL_law_1079 (lv_at hl 1 rfl) ?_
      refine lv_icmp_eq (tgt := 1086) hx hb dL_law_1081 (by decide) (fun c_30 => ?_) (fun c_30 => ?_)
      · skip
        refine lv_iload hx hb dL_law_1086 (lv_at hl 1 rfl) ?_
        refine lv_if_ne (tgt := 1110) hx hb dL_law_1088 (by decide) (fun c_31 => ?_) (fun c_31 => ?_)
        · exact absurd c_31 (by decide)
        · skip
          refine lv_aload_n hx hb dL_law_1091 rfl (lv_at hl 5 rfl) ?_
          refine lv_iconst (v := 0) hx hb dL_law_1092 (by decide) ?_
          refine va_lald hx hb hK hP 37 2 rfl rfl (vp_in_nI (n := 0) (by omega) (by decide)) dL_law_1093 ?_
          refine zz_topl (y := (vp_updL fz 0 (bL ((RB nk nc fo th tg T nt up (xs (i + 1)).toNatClampNeg)))) 0) (rfl) ?_
          refine lv_iload hx hb dL_law_1094 (lv_at hl 0 rfl) ?_
          refine lv_if_eq (tgt := 1103) hx hb dL_law_1096 (by decide) (fun c_32 => ?_) (fun c_32 => ?_)
          · skip
            have hz9 := zb_0.mp c_32
            refine lv_lconst (v := 0) hx hb dL_law_1103 (by decide) ?_
            refine W.lcmp hx hb dL_law_1104 ?_
            refine lv_if_eq (tgt := 1110) hx hb dL_law_1105 (by decide) (fun c_33 => ?_) (fun c_33 => ?_)
            · skip
              skip
              refine lv_goto (tgt := 1475) hx hb dL_law_1110 (by decide) ?_
              refine W.widen (k := k0 + 100) (n := n0 + 3000) (by omega) (by omega) ?_
              exact K nk pa fa nc fo th tg nt tb te tk tt nu ub ue uk ut x_6 x_7 fu bl go ra x_8 ex tc es wy 0 tb4 te4 tk4 tt4 ab re9_22 go4 be (vp_updL fz 0 (bL ((RB nk nc fo th tg T nt up (xs (i + 1)).toNatClampNeg)))) T up _ _ _ (by first | assumption | omega) (by first | assumption | omega) (by first | assumption | omega) hP hD hS (lv_sub hl [2, 3, 4, 5, 6] rfl)
            · exact absurd ((lg_cmp_eq _ _).mpr (by first | rfl | exact (bL_t hz9).symm | exact (bL_f hz9).symm)) c_33
          · skip
            have hz9 := zb_1.mp c_32
            refine lv_lconst (v := 1) hx hb dL_law_1099 (by decide) ?_
            refine lv_goto (tgt := 1104) hx hb dL_law_1100 (by decide) ?_
            refine W.lcmp hx hb dL_law_1104 ?_
            refine lv_if_eq (tgt := 1110) hx hb dL_law_1105 (by decide) (fun c_34 => ?_) (fun c_34 => ?_)
            · skip
              skip
              refine lv_goto (tgt := 1475) hx hb dL_law_1110 (by decide) ?_
              refine W.widen (k := k0 + 100) (n := n0 + 3000) (by omega) (by omega) ?_
              exact K nk pa fa nc fo th tg nt tb te tk tt nu ub ue uk ut x_6 x_7 fu bl go ra x_8 ex tc es wy 0 tb4 te4 tk4 tt4 ab re9_22 go4 be (vp_updL fz 0 (bL ((RB nk nc fo th tg T nt up (xs (i + 1)).toNatClampNeg)))) T up _ _ _ (by first | assumption | omega) (by first | assumption | omega) (by first | assumption | omega) hP hD hS (lv_sub hl [2, 3, 4, 5, 6] rfl)
            · exact absurd ((lg_cmp_eq _ _).mpr (by first | rfl | exact (bL_t hz9).symm | exact (bL_f hz9).symm)) c_34
      · exact absurd c_30 (by decide)
    · skip
      exact absurd (h_14.symm.trans h_27) (by decide)
  · skip
    replace h_15 := h_15.symm
    subst h_15
    replace h_17 := h_17.symm
    subst h_17
    replace h_18 := h_18.symm
    subst h_18
    replace h_19 := h_19.symm
    subst h_19
    replace h_20 := h_20.symm
    subst h_20
    have hP : va_P (dC, dI) vwCl ((w3 a cI cZ nk pa fa nc fo th tg nt tb te tk tt nu ub ue uk ut re ro fu bl go ra rc ex tc es wy) ++ ((w4 b cI cZ tw nk pa nc fo th tg nt tb4 te4 tk4 tt4 ex tc es wy ab re4 go4 be) ++ ([(ou, .inl (cJ, 1, .inr (.inl fz)))]))) H := hP
    have hD : va_D A ((w3 a cI cZ nk pa fa nc fo th tg nt tb te tk tt nu ub ue uk ut re ro fu bl go ra rc ex tc es wy) ++ ((w4 b cI cZ tw nk pa nc fo th tg nt tb4 te4 tk4 tt4 ex tc es wy ab re4 go4 be) ++ ([(ou, .inl (cJ, 1, .inr (.inl fz)))]))) := hD
    refine lv_istore (lv' := [(5, .int 1), (0, .ref sb), (1, .ref (a 0)), (2, .ref (b 0)), (3, .ref ou), (4, .int (nI i))]) hx hb dL_law_1061 hl (by decide) rfl (fun ls hl => ?_)
    refine lv_aload_n hx hb dL_law_1063 rfl (lv_at hl 3 rfl) ?_
    refine lv_aload_n hx hb dL_law_1064 rfl (lv_at hl 1 rfl) ?_
    refine lv_iload hx hb dL_law_1065 (lv_at hl 5 rfl) ?_
    refine lv_iconst (v := 1) hx hb dL_law_1067 (by decide) ?_
    refine lv_iadd hx hb dL_law_1068 ?_
    refine zz_top (y := nI (i + 1)) (nI_add _ _) ?_
    refine va_sld hx hb hX hbl hbA hS (vp_in_nI (n := i + 1) (by omega) (by omega)) dL_law_1069 ?_
    refine zz_top (y := xs (i + 1)) (congrArg _ (nI_clamp (by omega))) ?_
    have hPc := hP.sub (ws' := w4 b cI cZ tw nk pa nc fo th tg nt tb4 te4 tk4 tt4 ex tc es wy ab re4 go4 be) [24, 25, 26, 27, 28, 29, 30, 31, 32, 33, 34, 35, 36] rfl
    have hDc := hD.sub (ws' := w4 b cI cZ tw nk pa nc fo th tg nt tb4 te4 tk4 tt4 ex tc es wy ab re4 go4 be) [24, 25, 26, 27, 28, 29, 30, 31, 32, 33, 34, 35, 36] (by decide) rfl
    have hFc := va_free (wc := w4 b cI cZ tw nk pa nc fo th tg nt tb4 te4 tk4 tt4 ex tc es wy ab re4 go4 be) hD hS hA [24, 25, 26, 27, 28, 29, 30, 31, 32, 33, 34, 35, 36] rfl
    refine va_calli (va_runV (As := [.int (xs (i + 1))]) (rest := []) ⟨hx, hb, hml, hown, hts⟩ (c_X4_isReached l dC dI cI cZ cJ b tw nk pa nc fo th tg nt tb4 te4 tk4 tt4 ex tc es wy ab re4 go4 be (xs (i + 1)) T up H.size (by first | assumption | omega) (by first | assumption | omega)) (cwV 1 hts gL_law_X4_isReached rfl rfl rfl (by decide +kernel) ⟨Nat.le_of_ble_eq_true rfl, Nat.le_of_ble_eq_true rfl⟩) ⟨zWr_blind, va_recv hK hPc (ci := 4) (q0 := 0) rfl rfl, zWr_at hPc hK hn (hDc.weaken (fun _ _ _ _ => trivial))⟩ rfl rfl hl.1 rfl (lv_room (Nat.le_of_ble_eq_true rfl)) dL_law_1070 ⟨by show _ ≤ 601024; omega, by show _ ≤ 7293034; omega⟩) hS (fun q _ h => hFc q h) hFc (fun r_35 u_9 t H1 locs ht hvm hw hB hz1 hk1 hS => ?_)
    obtain ⟨tw9_35, re9_36⟩ := u_9
    dsimp only at hw hB
    obtain ⟨hP1, -, hD1⟩ := hB
    rw [ht] at hP1
    obtain ⟨hP, hD⟩ := va_join (wr := (w3 a cI cZ nk pa fa nc fo th tg nt tb te tk tt nu ub ue uk ut re ro fu bl go ra rc ex tc es wy) ++ ([(ou, .inl (cJ, 1, .inr (.inl fz)))])) (w1 := w4 b cI cZ tw9_35 nk pa nc fo th tg nt tb4 te4 tk4 tt4 ex tc es wy ab re9_36 go4 be) hP hD [24, 25, 26, 27, 28, 29, 30, 31, 32, 33, 34, 35, 36] [0, 1, 2, 3, 4, 5, 6, 7, 8, 9, 10, 11, 12, 13, 14, 15, 16, 17, 18, 19, 20, 21, 22, 23, 37] rfl rfl (by decide) (by decide) hk1 hFc hP1 hD1
    generalize H1 = H at hP hS ⊢
    have hP := hP.sub (ws' := (w3 a cI cZ nk pa fa nc fo th tg nt tb te tk tt nu ub ue uk ut re ro fu bl go ra rc ex tc es wy) ++ ((w4 b cI cZ tw9_35 nk pa nc fo th tg nt tb4 te4 tk4 tt4 ex tc es wy ab re9_36 go4 be) ++ ([(ou, .inl (cJ, 1, .inr (.inl fz)))]))) [0, 1, 2, 3, 4, 5, 6, 7, 8, 9, 10, 11, 12, 13, 14, 15, 16, 17, 18, 19, 20, 21, 22, 23, 25, 26, 27, 28, 29, 30, 31, 32, 33, 34, 35, 36, 37, 24] rfl
    have hD := hD.sub (ws' := (w3 a cI cZ nk pa fa nc fo th tg nt tb te tk tt nu ub ue uk ut re ro fu bl go ra rc ex tc es wy) ++ ((w4 b cI cZ tw9_35 nk pa nc fo th tg nt tb4 te4 tk4 tt4 ex tc es wy ab re9_36 go4 be) ++ ([(ou, .inl (cJ, 1, .inr (.inl fz)))]))) [0, 1, 2, 3, 4, 5, 6, 7, 8, 9, 10, 11, 12, 13, 14, 15, 16, 17, 18, 19, 20, 21, 22, 23, 25, 26, 27, 28, 29, 30, 31, 32, 33, 34, 35, 36, 37, 24] (by decide) rfl
    have hP : va_P (dC, dI) vwCl ((w3 a cI cZ nk pa fa nc fo th tg nt tb te tk tt nu ub ue uk ut re ro fu bl go ra rc ex tc es wy) ++ ((w4 b cI cZ tw9_35 nk pa nc fo th tg nt tb4 te4 tk4 tt4 ex tc es wy ab re9_36 go4 be) ++ ([(ou, .inl (cJ, 1, .inr (.inl fz)))]))) H := hP
    have hD : va_D A ((w3 a cI cZ nk pa fa nc fo th tg nt tb te tk tt nu ub ue uk ut re ro fu bl go ra rc ex tc es wy) ++ ((w4 b cI cZ tw9_35 nk pa nc fo th tg nt tb4 te4 tk4 tt4 ex tc es wy ab re9_36 go4 be) ++ ([(ou, .inl (cJ, 1, .inr (.inl fz)))]))) := hD
    rcases hw with ⟨h_38, h_39, h_40⟩ | ⟨h_41, h_42⟩
    · skip
      exact absurd (h_16.symm.trans h_38) (by decide)
    · skip
      replace h_42 := h_42.symm
      subst h_42
      have hP : va_P (dC, dI) vwCl ((w3 a cI cZ nk pa fa nc fo th tg nt tb te tk tt nu ub ue uk ut re ro fu bl go ra rc ex tc es wy) ++ ((w4 b cI cZ 1 nk pa nc fo th tg nt tb4 te4 tk4 tt4 ex tc es wy ab re9_36 go4 be) ++ ([(ou, .inl (cJ, 1, .inr (.inl fz)))]))) H := hP
      have hD : va_D A ((w3 a cI cZ nk pa fa nc fo th tg nt tb te tk tt nu ub ue uk ut re ro fu bl go ra rc ex tc es wy) ++ ((w4 b cI cZ 1 nk pa nc fo th tg nt tb4 te4 tk4 tt4 ex tc es wy ab re9_36 go4 be) ++ ([(ou, .inl (cJ, 1, .inr (.inl fz)))]))) := hD
      refine lv_istore (lv' := [(6, .int r_35), (5, .int 1), (0, .ref sb), (1, .ref (a 0)), (2, .ref (b 0)), (3, .ref ou), (4, .int (nI i))]) hx hb dL_law_1073 hl (by decide) rfl (fun ls hl => ?_)
      refine lv_aload_n hx hb dL_law_1075 rfl (lv_at hl 4 rfl) ?_
      have hPc := hP.sub (ws' := w4 b cI cZ 1 nk pa nc fo th tg nt tb4 te4 tk4 tt4 ex tc es wy ab re9_36 go4 be) [24, 25, 26, 27, 28, 29, 30, 31, 32, 33, 34, 35, 36] rfl
      refine va_calli (va_runV (As := []) (rest := []) ⟨hx, hb, hml, hown, hts⟩ (c_X4_thrown l dC dI cI cZ cJ b 1 nk pa nc fo th tg nt tb4 te4 tk4 tt4 ex tc es wy ab re9_36 go4 be ) (cwV 0 hts gL_law_X4_thrown rfl rfl rfl (by decide +kernel) ⟨Nat.le_of_ble_eq_true rfl, Nat.le_of_ble_eq_true rfl⟩) ⟨zPre_blind, va_recv hK hPc (ci := 4) (q0 := 0) rfl rfl, zPre_at hPc hK hn⟩ rfl rfl hl.1 rfl (lv_room (Nat.le_of_ble_eq_true rfl)) dL_law_1076 ⟨by show _ ≤ 601024; omega, by show _ ≤ 7293034; omega⟩) hS (fun _ _ h => h.elim) (fun _ h => h.elim) (fun r_43 u_9 t H locs ht hvm hw hB hz1 hk1 hS => ?_)
      have hP := zkeep hP hk1
      subst hw
      refine lv_iload hx hb dL_law_1079 (lv_at hl 1 rfl) ?_
      refine lv_icmp_eq (tgt := 1086) hx hb dL_law_1081 (by decide) (fun c_44 => ?_) (fun c_44 => ?_)
      · skip
        refine lv_iload hx hb dL_law_1086 (lv_at hl 1 rfl) ?_
        refine lv_if_ne (tgt := 1110) hx hb dL_law_1088 (by decide) (fun c_45 => ?_) (fun c_45 => ?_)
        · skip
          refine lv_goto (tgt := 1475) hx hb dL_law_1110 (by decide) ?_
          refine W.widen (k := k0 + 100) (n := n0 + 3000) (by omega) (by omega) ?_
          exact K nk pa fa nc fo th tg nt tb te tk tt nu ub ue uk ut re ro fu bl go ra rc ex tc es wy 1 tb4 te4 tk4 tt4 ab re9_36 go4 be fz T up _ _ _ (by first | assumption | omega) (by first | assumption | omega) (by first | assumption | omega) hP hD hS (lv_sub hl [2, 3, 4, 5, 6] rfl)
        · exact absurd c_45 (by decide)
      · exact absurd c_44 (by decide)

set_option maxHeartbeats 4000000 in
set_option maxRecDepth 100000 in
theorem lk_17 {p : Program} {e : Env} {s : State} {m : MethodId} {below : List Frame} {meth : Method} {c : Code} {Q : State → Prop} (l : Launch) {sb L : Nat} {xs : Nat → Int32} (dC : Nat → ClassId) (dI : Nat → Nat → Nat) (cI cZ cJ : ClassId) (a b : Nat → Nat) (ou i k0 n0 : Nat) (hF0 : lwF p l s m c sb L xs dC dI cI cZ cJ) (hi : i + 5 ≤ L) (hk0 : k0 + 100 ≤ 601024) (hn0 : n0 + 3000 ≤ 7293034) (nk : Nat) (pa : Nat → Int32) (fa : Nat → Int32) (nc : Nat) (fo : Nat → Int32) (th : Nat → Int32) (tg : Nat → Int32) (nt : Nat) (tb : Nat → Int32) (te : Nat → Int32) (tk : Nat → Int32) (tt : Nat → Int32) (nu : Nat) (ub : Nat → Int32) (ue : Nat → Int32) (uk : Nat → Int32) (ut : Nat → Int32) (re : Nat → Int32) (ro : Nat → Int32) (fu : Nat → Int32) (bl : Nat → Int32) (go : Nat → Int32) (ra : Nat → Int32) (rc : Nat) (ex : Int32) (tc : Int32) (es : Int32) (wy : Int64) (tw : Int32) (tb4 : Nat → Int32) (te4 : Nat → Int32) (tk4 : Nat → Int32) (tt4 : Nat → Int32) (ab : Nat → Int32) (re4 : Nat → Int32) (go4 : Nat → Int32) (be : Nat → Int32) (fz : Nat → Int64) (T : Nat → Nat → Nat) (up : Nat → Nat → Bool) (hg : g3 nk fa up nt tb te tk tt T) (hg4 : g4 nk ab up nt tb4 te4 tk4 tt4 T) (hc : okC nk nc fo th tg) (H : Heap) (locs : List Loc) (ls : Array Slot) (hP : va_P (dC, dI) vwCl ((w3 a cI cZ nk pa fa nc fo th tg nt tb te tk tt nu ub ue uk ut re ro fu bl go ra rc ex tc es wy) ++ ((w4 b cI cZ tw nk pa nc fo th tg nt tb4 te4 tk4 tt4 ex tc es wy ab re4 go4 be) ++ ([(ou, .inl (cJ, 1, .inr (.inl fz)))]))) H) (hD : va_D (fun q => s.heap.size ≤ q) ((w3 a cI cZ nk pa fa nc fo th tg nt tb te tk tt nu ub ue uk ut re ro fu bl go ra rc ex tc es wy) ++ ((w4 b cI cZ tw nk pa nc fo th tg nt tb4 te4 tk4 tt4 ex tc es wy ab re4 go4 be) ++ ([(ou, .inl (cJ, 1, .inr (.inl fz)))])))) (hS : va_S (fun q => s.heap.size ≤ q) s.heap H locs) (hl : lv_has ls 9 [(0, .ref sb), (1, .ref (a 0)), (2, .ref (b 0)), (3, .ref ou), (4, .int (nI i))]) (K : ∀ (nk : Nat) (pa : Nat → Int32) (fa : Nat → Int32) (nc : Nat) (fo : Nat → Int32) (th : Nat → Int32) (tg : Nat → Int32) (nt : Nat) (tb : Nat → Int32) (te : Nat → Int32) (tk : Nat → Int32) (tt : Nat → Int32) (nu : Nat) (ub : Nat → Int32) (ue : Nat → Int32) (uk : Nat → Int32) (ut : Nat → Int32) (re : Nat → Int32) (ro : Nat → Int32) (fu : Nat → Int32) (bl : Nat → Int32) (go : Nat → Int32) (ra : Nat → Int32) (rc : Nat) (ex : Int32) (tc : Int32) (es : Int32) (wy : Int64) (tw : Int32) (tb4 : Nat → Int32) (te4 : Nat → Int32) (tk4 : Nat → Int32) (tt4 : Nat → Int32) (ab : Nat → Int32) (re4 : Nat → Int32) (go4 : Nat → Int32) (be : Nat → Int32) (fz : Nat → Int64) (T : Nat → Nat → Nat) (up : Nat → Nat → Bool) (H : Heap) (locs : List Loc) (ls : Array Slot), g3 nk fa up nt tb te tk tt T → g4 nk ab up nt tb4 te4 tk4 tt4 T → okC nk nc fo th tg → va_P (dC, dI) vwCl ((w3 a cI cZ nk pa fa nc fo th tg nt tb te tk tt nu ub ue uk ut re ro fu bl go ra rc ex tc es wy) ++ ((w4 b cI cZ tw nk pa nc fo th tg nt tb4 te4 tk4 tt4 ex tc es wy ab re4 go4 be) ++ ([(ou, .inl (cJ, 1, .inr (.inl fz)))]))) H → va_D (fun q => s.heap.size ≤ q) ((w3 a cI cZ nk pa fa nc fo th tg nt tb te tk tt nu ub ue uk ut re ro fu bl go ra rc ex tc es wy) ++ ((w4 b cI cZ tw nk pa nc fo th tg nt tb4 te4 tk4 tt4 ex tc es wy ab re4 go4 be) ++ ([(ou, .inl (cJ, 1, .inr (.inl fz)))]))) → va_S (fun q => s.heap.size ≤ q) s.heap H locs → lv_has ls 9 [(0, .ref sb), (1, .ref (a 0)), (2, .ref (b 0)), (3, .ref ou), (4, .int (nI i))] → W p l e room_1 s m #[Value.ref sb] below meth c H locs (k0 + 100) (n0 + 3000) Q (F0 m 1475 ls [])) : W p l e room_1 s m #[Value.ref sb] below meth c H locs k0 n0 Q (F0 m 1113 ls []) := by
  obtain ⟨hx, hb, hml, hown, hts, hX, hbl, hL, hK, hn, hzt, hzu, hzc, hlt⟩ := id hF0
  obtain ⟨A, hAe⟩ : ∃ A : Nat → Prop, A = fun q => s.heap.size ≤ q := ⟨_, rfl⟩
  have hbA : ¬ A sb := by rw [hAe]; exact Nat.not_le.mpr hbl
  have hA : ∀ q : Nat, s.heap.size ≤ q → A q := fun q h => by rw [hAe]; exact h
  rw [← hAe] at hD hS hzu K
  refine lv_aload_n hx hb dL_law_1113 rfl (lv_at hl 1 rfl) ?_
  refine lv_aload_n hx hb dL_law_1114 rfl (lv_at hl 0 rfl) ?_
  refine lv_iload hx hb dL_law_1115 (lv_at hl 4 rfl) ?_
  refine lv_iconst (v := 1) hx hb dL_law_1117 (by decide) ?_
  refine lv_iadd hx hb dL_law_1118 ?_
  refine zz_top (y := nI (i + 1)) (nI_add _ _) ?_
  refine va_sld hx hb hX hbl hbA hS (vp_in_nI (n := i + 1) (by omega) (by omega)) dL_law_1119 ?_
  refine zz_top (y := xs (i + 1)) (congrArg _ (nI_clamp (by omega))) ?_
  refine lv_aload_n hx hb dL_law_1120 rfl (lv_at hl 3 rfl) ?_
  have hPc := hP.sub (ws' := (w3 a cI cZ nk pa fa nc fo th tg nt tb te tk tt nu ub ue uk ut re ro fu bl go ra rc ex tc es wy) ++ ([(ou, .inl (cJ, 1, .inr (.inl fz)))])) [0, 1, 2, 3, 4, 5, 6, 7, 8, 9, 10, 11, 12, 13, 14, 15, 16, 17, 18, 19, 20, 21, 22, 23, 37] rfl
  have hDc := hD.sub (ws' := (w3 a cI cZ nk pa fa nc fo th tg nt tb te tk tt nu ub ue uk ut re ro fu bl go ra rc ex tc es wy) ++ ([(ou, .inl (cJ, 1, .inr (.inl fz)))])) [0, 1, 2, 3, 4, 5, 6, 7, 8, 9, 10, 11, 12, 13, 14, 15, 16, 17, 18, 19, 20, 21, 22, 23, 37] (by decide) rfl
  have hFc := va_free (wc := (w3 a cI cZ nk pa fa nc fo th tg nt tb te tk tt nu ub ue uk ut re ro fu bl go ra rc ex tc es wy) ++ ([(ou, .inl (cJ, 1, .inr (.inl fz)))])) hD hS hA [0, 1, 2, 3, 4, 5, 6, 7, 8, 9, 10, 11, 12, 13, 14, 15, 16, 17, 18, 19, 20, 21, 22, 23, 37] rfl
  refine va_calli (vx_runSW (As := [.ref (a 0), .int (xs (i + 1)), .ref ou]) (rest := []) ⟨hx, hb, hml, hown, hts⟩ (c_L_isUsed l dC dI cI cZ cJ a nk pa fa nc fo th tg nt tb te tk tt nu ub ue uk ut re ro fu bl go ra rc ex tc es wy (xs (i + 1)) T up ou fz H.size hlt (by first | assumption | omega) (by first | assumption | omega)) (vx_cwSW 3 hts gL_law_L_isUsed rfl rfl rfl (by decide +kernel) ⟨Nat.le_of_ble_eq_true rfl, Nat.le_of_ble_eq_true rfl⟩) ⟨zTl_blind, zTl_at hPc hK hn (hDc.weaken (fun _ _ _ _ => trivial)) hzt hzu hS hFc hzc⟩ rfl rfl hl.1 rfl (lv_room (Nat.le_of_ble_eq_true rfl)) dL_law_1121 ⟨by show _ ≤ 601024; omega, by show _ ≤ 7293034; omega⟩) hS (fun q _ h => hFc q h) hFc (fun r_1 u_9 t H1 locs ht hvm hw hB hz1 hk1 hS => ?_)
  obtain ⟨v_re_1, v_ro_2, v_o_3, v_fu_4, v_bl_5, fz9_6⟩ := u_9
  dsimp only at hw hB
  obtain ⟨hP1, -, hD1⟩ := hB
  rw [ht] at hP1
  obtain ⟨hP, hD⟩ := va_join (wr := w4 b cI cZ tw nk pa nc fo th tg nt tb4 te4 tk4 tt4 ex tc es wy ab re4 go4 be) (w1 := (w3 a cI cZ nk pa fa nc fo th tg nt tb te tk tt nu ub ue uk ut v_re_1 v_ro_2 v_fu_4 v_bl_5 go ra v_o_3 ex tc es wy) ++ ([(ou, .inl (cJ, 1, .inr (.inl fz9_6)))])) hP hD [0, 1, 2, 3, 4, 5, 6, 7, 8, 9, 10, 11, 12, 13, 14, 15, 16, 17, 18, 19, 20, 21, 22, 23, 37] [24, 25, 26, 27, 28, 29, 30, 31, 32, 33, 34, 35, 36] rfl rfl (by decide) (by decide) hk1 hFc hP1 hD1
  generalize H1 = H at hP hS ⊢
  have hP := hP.sub (ws' := (w3 a cI cZ nk pa fa nc fo th tg nt tb te tk tt nu ub ue uk ut v_re_1 v_ro_2 v_fu_4 v_bl_5 go ra v_o_3 ex tc es wy) ++ ((w4 b cI cZ tw nk pa nc fo th tg nt tb4 te4 tk4 tt4 ex tc es wy ab re4 go4 be) ++ ([(ou, .inl (cJ, 1, .inr (.inl fz9_6)))]))) [13, 14, 15, 16, 17, 18, 19, 20, 21, 22, 23, 24, 25, 26, 27, 28, 29, 30, 31, 32, 33, 34, 35, 36, 0, 1, 2, 3, 4, 5, 6, 7, 8, 9, 10, 11, 12, 37] rfl
  have hD := hD.sub (ws' := (w3 a cI cZ nk pa fa nc fo th tg nt tb te tk tt nu ub ue uk ut v_re_1 v_ro_2 v_fu_4 v_bl_5 go ra v_o_3 ex tc es wy) ++ ((w4 b cI cZ tw nk pa nc fo th tg nt tb4 te4 tk4 tt4 ex tc es wy ab re4 go4 be) ++ ([(ou, .inl (cJ, 1, .inr (.inl fz9_6)))]))) [13, 14, 15, 16, 17, 18, 19, 20, 21, 22, 23, 24, 25, 26, 27, 28, 29, 30, 31, 32, 33, 34, 35, 36, 0, 1, 2, 3, 4, 5, 6, 7, 8, 9, 10, 11, 12, 37] (by decide) rfl
  have hP : va_P (dC, dI) vwCl ((w3 a cI cZ nk pa fa nc fo th tg nt tb te tk tt nu ub ue uk ut v_re_1 v_ro_2 v_fu_4 v_bl_5 go ra v_o_3 ex tc es wy) ++ ((w4 b cI cZ tw nk pa nc fo th tg nt tb4 te4 tk4 tt4 ex tc es wy ab re4 go4 be) ++ ([(ou, .inl (cJ, 1, .inr (.inl fz9_6)))]))) H := hP
  have hD : va_D A ((w3 a cI cZ nk pa fa nc fo th tg nt tb te tk tt nu ub ue uk ut v_re_1 v_ro_2 v_fu_4 v_bl_5 go ra v_o_3 ex tc es wy) ++ ((w4 b cI cZ tw nk pa nc fo th tg nt tb4 te4 tk4 tt4 ex tc es wy ab re4 go4 be) ++ ([(ou, .inl (cJ, 1, .inr (.inl fz9_6)))]))) := hD
  refine W.widen (k := k0 + 1) (n := n0 + 6) (by omega) (by omega) ?_
  rcases hw with ⟨x_8, x_9, x_10, x_11, x_12, ⟨h_13, h_14, h_15, h_16, h_17, h_18, h_19, h_20⟩⟩ | ⟨h_21, h_22, h_23, h_24, h_25, h_26, h_27, h_28⟩
  · skip
    replace h_13 := h_13.symm
    subst h_13
    replace h_14 := h_14.symm
    subst h_14
    replace h_15 := h_15.symm
    subst h_15
    replace h_16 := h_16.symm
    subst h_16
    replace h_17 := h_17.symm
    subst h_17
    replace h_18 := h_18.symm
    subst h_18
    replace h_19 := h_19.symm
    subst h_19
    have hP : va_P (dC, dI) vwCl ((w3 a cI cZ nk pa fa nc fo th tg nt tb te tk tt nu ub ue uk ut x_8 x_9 x_11 x_12 go ra x_10 ex tc es wy) ++ ((w4 b cI cZ tw nk pa nc fo th tg nt tb4 te4 tk4 tt4 ex tc es wy ab re4 go4 be) ++ ([(ou, .inl (cJ, 1, .inr (.inl (vp_updL fz 0 (bL ((an (US nk nc fo th tg T nt up (xs (i + 1)).toNatClampNeg) nc)))))))]))) H := hP
    have hD : va_D A ((w3 a cI cZ nk pa fa nc fo th tg nt tb te tk tt nu ub ue uk ut x_8 x_9 x_11 x_12 go ra x_10 ex tc es wy) ++ ((w4 b cI cZ tw nk pa nc fo th tg nt tb4 te4 tk4 tt4 ex tc es wy ab re4 go4 be) ++ ([(ou, .inl (cJ, 1, .inr (.inl (vp_updL fz 0 (bL ((an (US nk nc fo th tg T nt up (xs (i + 1)).toNatClampNeg) nc)))))))]))) := hD
    refine lv_istore (lv' := [(5, .int 0), (0, .ref sb), (1, .ref (a 0)), (2, .ref (b 0)), (3, .ref ou), (4, .int (nI i))]) hx hb dL_law_1124 hl (by decide) rfl (fun ls hl => ?_)
    refine lv_aload_n hx hb dL_law_1126 rfl (lv_at hl 3 rfl) ?_
    refine lv_aload_n hx hb dL_law_1127 rfl (lv_at hl 1 rfl) ?_
    refine lv_iload hx hb dL_law_1128 (lv_at hl 5 rfl) ?_
    refine lv_iconst (v := 1) hx hb dL_law_1130 (by decide) ?_
    refine lv_iadd hx hb dL_law_1131 ?_
    refine zz_top (y := nI (i + 1)) (nI_add _ _) ?_
    refine va_sld hx hb hX hbl hbA hS (vp_in_nI (n := i + 1) (by omega) (by omega)) dL_law_1132 ?_
    refine zz_top (y := xs (i + 1)) (congrArg _ (nI_clamp (by omega))) ?_
    have hPc := hP.sub (ws' := w4 b cI cZ tw nk pa nc fo th tg nt tb4 te4 tk4 tt4 ex tc es wy ab re4 go4 be) [24, 25, 26, 27, 28, 29, 30, 31, 32, 33, 34, 35, 36] rfl
    have hDc := hD.sub (ws' := w4 b cI cZ tw nk pa nc fo th tg nt tb4 te4 tk4 tt4 ex tc es wy ab re4 go4 be) [24, 25, 26, 27, 28, 29, 30, 31, 32, 33, 34, 35, 36] (by decide) rfl
    have hFc := va_free (wc := w4 b cI cZ tw nk pa nc fo th tg nt tb4 te4 tk4 tt4 ex tc es wy ab re4 go4 be) hD hS hA [24, 25, 26, 27, 28, 29, 30, 31, 32, 33, 34, 35, 36] rfl
    refine va_calli (va_runV (As := [.int (xs (i + 1))]) (rest := []) ⟨hx, hb, hml, hown, hts⟩ (c_X4_isUsed l dC dI cI cZ cJ b tw nk pa nc fo th tg nt tb4 te4 tk4 tt4 ex tc es wy ab re4 go4 be (xs (i + 1)) T up H.size (by first | assumption | omega) (by first | assumption | omega)) (cwV 1 hts gL_law_X4_isUsed rfl rfl rfl (by decide +kernel) ⟨Nat.le_of_ble_eq_true rfl, Nat.le_of_ble_eq_true rfl⟩) ⟨zWr_blind, va_recv hK hPc (ci := 4) (q0 := 0) rfl rfl, zWr_at hPc hK hn (hDc.weaken (fun _ _ _ _ => trivial))⟩ rfl rfl hl.1 rfl (lv_room (Nat.le_of_ble_eq_true rfl)) dL_law_1133 ⟨by show _ ≤ 601024; omega, by show _ ≤ 7293034; omega⟩) hS (fun q _ h => hFc q h) hFc (fun r_29 u_9 t H1 locs ht hvm hw hB hz1 hk1 hS => ?_)
    obtain ⟨tw9_29, re9_30⟩ := u_9
    dsimp only at hw hB
    obtain ⟨hP1, -, hD1⟩ := hB
    rw [ht] at hP1
    obtain ⟨hP, hD⟩ := va_join (wr := (w3 a cI cZ nk pa fa nc fo th tg nt tb te tk tt nu ub ue uk ut x_8 x_9 x_11 x_12 go ra x_10 ex tc es wy) ++ ([(ou, .inl (cJ, 1, .inr (.inl (vp_updL fz 0 (bL ((an (US nk nc fo th tg T nt up (xs (i + 1)).toNatClampNeg) nc)))))))])) (w1 := w4 b cI cZ tw9_29 nk pa nc fo th tg nt tb4 te4 tk4 tt4 ex tc es wy ab re9_30 go4 be) hP hD [24, 25, 26, 27, 28, 29, 30, 31, 32, 33, 34, 35, 36] [0, 1, 2, 3, 4, 5, 6, 7, 8, 9, 10, 11, 12, 13, 14, 15, 16, 17, 18, 19, 20, 21, 22, 23, 37] rfl rfl (by decide) (by decide) hk1 hFc hP1 hD1
    generalize H1 = H at hP hS ⊢
    have hP := hP.sub (ws' := (w3 a cI cZ nk pa fa nc fo th tg nt tb te tk tt nu ub ue uk ut x_8 x_9 x_11 x_12 go ra x_10 ex tc es wy) ++ ((w4 b cI cZ tw9_29 nk pa nc fo th tg nt tb4 te4 tk4 tt4 ex tc es wy ab re9_30 go4 be) ++ ([(ou, .inl (cJ, 1, .inr (.inl (vp_updL fz 0 (bL ((an (US nk nc fo th tg T nt up (xs (i + 1)).toNatClampNeg) nc)))))))]))) [0, 1, 2, 3, 4, 5, 6, 7, 8, 9, 10, 11, 12, 13, 14, 15, 16, 17, 18, 19, 20, 21, 22, 23, 25, 26, 27, 28, 29, 30, 31, 32, 33, 34, 35, 36, 37, 24] rfl
    have hD := hD.sub (ws' := (w3 a cI cZ nk pa fa nc fo th tg nt tb te tk tt nu ub ue uk ut x_8 x_9 x_11 x_12 go ra x_10 ex tc es wy) ++ ((w4 b cI cZ tw9_29 nk pa nc fo th tg nt tb4 te4 tk4 tt4 ex tc es wy ab re9_30 go4 be) ++ ([(ou, .inl (cJ, 1, .inr (.inl (vp_updL fz 0 (bL ((an (US nk nc fo th tg T nt up (xs (i + 1)).toNatClampNeg) nc)))))))]))) [0, 1, 2, 3, 4, 5, 6, 7, 8, 9, 10, 11, 12, 13, 14, 15, 16, 17, 18, 19, 20, 21, 22, 23, 25, 26, 27, 28, 29, 30, 31, 32, 33, 34, 35, 36, 37, 24] (by decide) rfl
    have hP : va_P (dC, dI) vwCl ((w3 a cI cZ nk pa fa nc fo th tg nt tb te tk tt nu ub ue uk ut x_8 x_9 x_11 x_12 go ra x_10 ex tc es wy) ++ ((w4 b cI cZ tw9_29 nk pa nc fo th tg nt tb4 te4 tk4 tt4 ex tc es wy ab re9_30 go4 be) ++ ([(ou, .inl (cJ, 1, .inr (.inl (vp_updL fz 0 (bL ((an (US nk nc fo th tg T nt up (xs (i + 1)).toNatClampNeg) nc)))))))]))) H := hP
    have hD : va_D A ((w3 a cI cZ nk pa fa nc fo th tg nt tb te tk tt nu ub ue uk ut x_8 x_9 x_11 x_12 go ra x_10 ex tc es wy) ++ ((w4 b cI cZ tw9_29 nk pa nc fo th tg nt tb4 te4 tk4 tt4 ex tc es wy ab re9_30 go4 be) ++ ([(ou, .inl (cJ, 1, .inr (.inl (vp_updL fz 0 (bL ((an (US nk nc fo th tg T nt up (xs (i + 1)).toNatClampNeg) nc)))))))]))) := hD
    rcases hw with ⟨h_32, h_33, h_34⟩ | ⟨h_35, h_36⟩
    · skip
      replace h_33 := h_33.symm
      subst h_33
      replace h_34 := h_34.symm
      subst h_34
      have hP : va_P (dC, dI) vwCl ((w3 a cI cZ nk pa fa nc fo th tg nt tb te tk tt nu ub ue uk ut x_8 x_9 x_11 x_12 go ra x_10 ex tc es wy) ++ ((w4 b cI cZ 0 nk pa nc fo th tg nt tb4 te4 tk4 tt4 ex tc es wy ab re9_30 go4 be) ++ ([(ou, .inl (cJ, 1, .inr (.inl (vp_updL fz 0 (bL ((an (US nk nc fo th tg T nt up (xs (i + 1)).toNatClampNeg) nc)))))))]))) H := hP
      have hD : va_D A ((w3 a cI cZ nk pa fa nc fo th tg nt tb te tk tt nu ub ue uk ut x_8 x_9 x_11 x_12 go ra x_10 ex tc es wy) ++ ((w4 b cI cZ 0 nk pa nc fo th tg nt tb4 te4 tk4 tt4 ex tc es wy ab re9_30 go4 be) ++ ([(ou, .inl (cJ, 1, .inr (.inl (vp_updL fz 0 (bL ((an (US nk nc fo th tg T nt up (xs (i + 1)).toNatClampNeg) nc)))))))]))) := hD
      refine lv_istore (lv' := [(6, .int (bI (an (US nk nc fo th tg T nt up (xs (i + 1)).toNatClampNeg) nc))), (5, .int 0), (0, .ref sb), (1, .ref (a 0)), (2, .ref (b 0)), (3, .ref ou), (4, .int (nI i))]) hx hb dL_law_1136 hl (by decide) rfl (fun ls hl => ?_)
      refine lv_aload_n hx hb dL_law_1138 rfl (lv_at hl 4 rfl) ?_
      have hPc := hP.sub (ws' := w4 b cI cZ 0 nk pa nc fo th tg nt tb4 te4 tk4 tt4 ex tc es wy ab re9_30 go4 be) [24, 25, 26, 27, 28, 29, 30, 31, 32, 33, 34, 35, 36] rfl
      refine va_calli (va_runV (As := []) (rest := []) ⟨hx, hb, hml, hown, hts⟩ (c_X4_thrown l dC dI cI cZ cJ b 0 nk pa nc fo th tg nt tb4 te4 tk4 tt4 ex tc es wy ab re9_30 go4 be ) (cwV 0 hts gL_law_X4_thrown rfl rfl rfl (by decide +kernel) ⟨Nat.le_of_ble_eq_true rfl, Nat.le_of_ble_eq_true rfl⟩) ⟨zPre_blind, va_recv hK hPc (ci := 4) (q0 := 0) rfl rfl, zPre_at hPc hK hn⟩ rfl rfl hl.1 rfl (lv_room (Nat.le_of_ble_eq_true rfl)) dL_law_1139 ⟨by show _ ≤ 601024; omega, by show _ ≤ 7293034; omega⟩) hS (fun _ _ h => h.elim) (fun _ h => h.elim) (fun r_37 u_9 t H locs ht hvm hw hB hz1 hk1 hS => ?_)
      have hP := zkeep hP hk1
      subst hw
      refine lv_iload hx hb dL_law_1142 (lv_at hl 1 rfl) ?_
      refine lv_icmp_eq (tgt := 1149) hx hb dL_law_1144 (by decide) (fun c_38 => ?_) (fun c_38 => ?_)
      · skip
        refine lv_iload hx hb dL_law_1149 (lv_at hl 1 rfl) ?_
        refine lv_if_ne (tgt := 1173) hx hb dL_law_1151 (by decide) (fun c_39 => ?_) (fun c_39 => ?_)
        · exact absurd c_39 (by decide)
        · skip
          refine lv_aload_n hx hb dL_law_1154 rfl (lv_at hl 5 rfl) ?_
          refine lv_iconst (v := 0) hx hb dL_law_1155 (by decide) ?_
          refine va_lald hx hb hK hP 37 2 rfl rfl (vp_in_nI (n := 0) (by omega) (by decide)) dL_law_1156 ?_
          refine zz_topl (y := (vp_updL fz 0 (bL ((an (US nk nc fo th tg T nt up (xs (i + 1)).toNatClampNeg) nc)))) 0) (rfl) ?_
          refine lv_iload hx hb dL_law_1157 (lv_at hl 0 rfl) ?_
          refine lv_if_eq (tgt := 1166) hx hb dL_law_1159 (by decide) (fun c_40 => ?_) (fun c_40 => ?_)
          · skip
            have hz9 := zb_0.mp c_40
            refine lv_lconst (v := 0) hx hb dL_law_1166 (by decide) ?_
            refine W.lcmp hx hb dL_law_1167 ?_
            refine lv_if_eq (tgt := 1173) hx hb dL_law_1168 (by decide) (fun c_41 => ?_) (fun c_41 => ?_)
            · skip
              skip
              refine lv_goto (tgt := 1475) hx hb dL_law_1173 (by decide) ?_
              refine W.widen (k := k0 + 100) (n := n0 + 3000) (by omega) (by omega) ?_
              exact K nk pa fa nc fo th tg nt tb te tk tt nu ub ue uk ut x_8 x_9 x_11 x_12 go ra x_10 ex tc es wy 0 tb4 te4 tk4 tt4 ab re9_30 go4 be (vp_updL fz 0 (bL ((an (US nk nc fo th tg T nt up (xs (i + 1)).toNatClampNeg) nc)))) T up _ _ _ (by first | assumption | omega) (by first | assumption | omega) (by first | assumption | omega) hP hD hS (lv_sub hl [2, 3, 4, 5, 6] rfl)
            · exact absurd ((lg_cmp_eq _ _).mpr (by first | rfl | exact (bL_t hz9).symm | exact (bL_f hz9).symm)) c_41
          · skip
            have hz9 := zb_1.mp c_40
            refine lv_lconst (v := 1) hx hb dL_law_1162 (by decide) ?_
            refine lv_goto (tgt := 1167) hx hb dL_law_1163 (by decide) ?_
            refine W.lcmp hx hb dL_law_1167 ?_
            refine lv_if_eq (tgt := 1173) hx hb dL_law_1168 (by decide) (fun c_42 => ?_) (fun c_42 => ?_)
            · skip
              skip
              refine lv_goto (tgt := 1475) hx hb dL_law_1173 (by decide) ?_
              refine W.widen (k := k0 + 100) (n := n0 + 3000) (by omega) (by omega) ?_
              exact K nk pa fa nc fo th tg nt tb te tk tt nu ub ue uk ut x_8 x_9 x_11 x_12 go ra x_10 ex tc es wy 0 tb4 te4 tk4 tt4 ab re9_30 go4 be (vp_updL fz 0 (bL ((an (US nk nc fo th tg T nt up (xs (i + 1)).toNatClampNeg) nc)))) T up _ _ _ (by first | assumption | omega) (by first | assumption | omega) (by first | assumption | omega) hP hD hS (lv_sub hl [2, 3, 4, 5, 6] rfl)
            · exact absurd ((lg_cmp_eq _ _).mpr (by first | rfl | exact (bL_t hz9).symm | exact (bL_f hz9).symm)) c_42
      · exact absurd c_38 (by decide)
    · skip
      exact absurd (h_20.symm.trans h_35) (by decide)
  · skip
    replace h_21 := h_21.symm
    subst h_21
    replace h_23 := h_23.symm
    subst h_23
    replace h_24 := h_24.symm
    subst h_24
    replace h_25 := h_25.symm
    subst h_25
    replace h_26 := h_26.symm
    subst h_26
    replace h_27 := h_27.symm
    subst h_27
    replace h_28 := h_28.symm
    subst h_28
    have hP : va_P (dC, dI) vwCl ((w3 a cI cZ nk pa fa nc fo th tg nt tb te tk tt nu ub ue uk ut re ro fu bl go ra rc ex tc es wy) ++ ((w4 b cI cZ tw nk pa nc fo th tg nt tb4 te4 tk4 tt4 ex tc es wy ab re4 go4 be) ++ ([(ou, .inl (cJ, 1, .inr (.inl fz)))]))) H := hP
    have hD : va_D A ((w3 a cI cZ nk pa fa nc fo th tg nt tb te tk tt nu ub ue uk ut re ro fu bl go ra rc ex tc es wy) ++ ((w4 b cI cZ tw nk pa nc fo th tg nt tb4 te4 tk4 tt4 ex tc es wy ab re4 go4 be) ++ ([(ou, .inl (cJ, 1, .inr (.inl fz)))]))) := hD
    refine lv_istore (lv' := [(5, .int 1), (0, .ref sb), (1, .ref (a 0)), (2, .ref (b 0)), (3, .ref ou), (4, .int (nI i))]) hx hb dL_law_1124 hl (by decide) rfl (fun ls hl => ?_)
    refine lv_aload_n hx hb dL_law_1126 rfl (lv_at hl 3 rfl) ?_
    refine lv_aload_n hx hb dL_law_1127 rfl (lv_at hl 1 rfl) ?_
    refine lv_iload hx hb dL_law_1128 (lv_at hl 5 rfl) ?_
    refine lv_iconst (v := 1) hx hb dL_law_1130 (by decide) ?_
    refine lv_iadd hx hb dL_law_1131 ?_
    refine zz_top (y := nI (i + 1)) (nI_add _ _) ?_
    refine va_sld hx hb hX hbl hbA hS (vp_in_nI (n := i + 1) (by omega) (by omega)) dL_law_1132 ?_
    refine zz_top (y := xs (i + 1)) (congrArg _ (nI_clamp (by omega))) ?_
    have hPc := hP.sub (ws' := w4 b cI cZ tw nk pa nc fo th tg nt tb4 te4 tk4 tt4 ex tc es wy ab re4 go4 be) [24, 25, 26, 27, 28, 29, 30, 31, 32, 33, 34, 35, 36] rfl
    have hDc := hD.sub (ws' := w4 b cI cZ tw nk pa nc fo th tg nt tb4 te4 tk4 tt4 ex tc es wy ab re4 go4 be) [24, 25, 26, 27, 28, 29, 30, 31, 32, 33, 34, 35, 36] (by decide) rfl
    have hFc := va_free (wc := w4 b cI cZ tw nk pa nc fo th tg nt tb4 te4 tk4 tt4 ex tc es wy ab re4 go4 be) hD hS hA [24, 25, 26, 27, 28, 29, 30, 31, 32, 33, 34, 35, 36] rfl
    refine va_calli (va_runV (As := [.int (xs (i + 1))]) (rest := []) ⟨hx, hb, hml, hown, hts⟩ (c_X4_isUsed l dC dI cI cZ cJ b tw nk pa nc fo th tg nt tb4 te4 tk4 tt4 ex tc es wy ab re4 go4 be (xs (i + 1)) T up H.size (by first | assumption | omega) (by first | assumption | omega)) (cwV 1 hts gL_law_X4_isUsed rfl rfl rfl (by decide +kernel) ⟨Nat.le_of_ble_eq_true rfl, Nat.le_of_ble_eq_true rfl⟩) ⟨zWr_blind, va_recv hK hPc (ci := 4) (q0 := 0) rfl rfl, zWr_at hPc hK hn (hDc.weaken (fun _ _ _ _ => trivial))⟩ rfl rfl hl.1 rfl (lv_room (Nat.le_of_ble_eq_true rfl)) dL_law_1133 ⟨by show _ ≤ 601024; omega, by show _ ≤ 7293034; omega⟩) hS (fun q _ h => hFc q h) hFc (fun r_43 u_9 t H1 locs ht hvm hw hB hz1 hk1 hS => ?_)
    obtain ⟨tw9_43, re9_44⟩ := u_9
    dsimp only at hw hB
    obtain ⟨hP1, -, hD1⟩ := hB
    rw [ht] at hP1
    obtain ⟨hP, hD⟩ := va_join (wr := (w3 a cI cZ nk pa fa nc fo th tg nt tb te tk tt nu ub ue uk ut re ro fu bl go ra rc ex tc es wy) ++ ([(ou, .inl (cJ, 1, .inr (.inl fz)))])) (w1 := w4 b cI cZ tw9_43 nk pa nc fo th tg nt tb4 te4 tk4 tt4 ex tc es wy ab re9_44 go4 be) hP hD [24, 25, 26, 27, 28, 29, 30, 31, 32, 33, 34, 35, 36] [0, 1, 2, 3, 4, 5, 6, 7, 8, 9, 10, 11, 12, 13, 14, 15, 16, 17, 18, 19, 20, 21, 22, 23, 37] rfl rfl (by decide) (by decide) hk1 hFc hP1 hD1
    generalize H1 = H at hP hS ⊢
    have hP := hP.sub (ws' := (w3 a cI cZ nk pa fa nc fo th tg nt tb te tk tt nu ub ue uk ut re ro fu bl go ra rc ex tc es wy) ++ ((w4 b cI cZ tw9_43 nk pa nc fo th tg nt tb4 te4 tk4 tt4 ex tc es wy ab re9_44 go4 be) ++ ([(ou, .inl (cJ, 1, .inr (.inl fz)))]))) [0, 1, 2, 3, 4, 5, 6, 7, 8, 9, 10, 11, 12, 13, 14, 15, 16, 17, 18, 19, 20, 21, 22, 23, 25, 26, 27, 28, 29, 30, 31, 32, 33, 34, 35, 36, 37, 24] rfl
    have hD := hD.sub (ws' := (w3 a cI cZ nk pa fa nc fo th tg nt tb te tk tt nu ub ue uk ut re ro fu bl go ra rc ex tc es wy) ++ ((w4 b cI cZ tw9_43 nk pa nc fo th tg nt tb4 te4 tk4 tt4 ex tc es wy ab re9_44 go4 be) ++ ([(ou, .inl (cJ, 1, .inr (.inl fz)))]))) [0, 1, 2, 3, 4, 5, 6, 7, 8, 9, 10, 11, 12, 13, 14, 15, 16, 17, 18, 19, 20, 21, 22, 23, 25, 26, 27, 28, 29, 30, 31, 32, 33, 34, 35, 36, 37, 24] (by decide) rfl
    have hP : va_P (dC, dI) vwCl ((w3 a cI cZ nk pa fa nc fo th tg nt tb te tk tt nu ub ue uk ut re ro fu bl go ra rc ex tc es wy) ++ ((w4 b cI cZ tw9_43 nk pa nc fo th tg nt tb4 te4 tk4 tt4 ex tc es wy ab re9_44 go4 be) ++ ([(ou, .inl (cJ, 1, .inr (.inl fz)))]))) H := hP
    have hD : va_D A ((w3 a cI cZ nk pa fa nc fo th tg nt tb te tk tt nu ub ue uk ut re ro fu bl go ra rc ex tc es wy) ++ ((w4 b cI cZ tw9_43 nk pa nc fo th tg nt tb4 te4 tk4 tt4 ex tc es wy ab re9_44 go4 be) ++ ([(ou, .inl (cJ, 1, .inr (.inl fz)))]))) := hD
    rcases hw with ⟨h_46, h_47, h_48⟩ | ⟨h_49, h_50⟩
    · skip
      exact absurd (h_22.symm.trans h_46) (by decide)
    · skip
      replace h_50 := h_50.symm
      subst h_50
      have hP : va_P (dC, dI) vwCl ((w3 a cI cZ nk pa fa nc fo th tg nt tb te tk tt nu ub ue uk ut re ro fu bl go ra rc ex tc es wy) ++ ((w4 b cI cZ 1 nk pa nc fo th tg nt tb4 te4 tk4 tt4 ex tc es wy ab re9_44 go4 be) ++ ([(ou, .inl (cJ, 1, .inr (.inl fz)))]))) H := hP
      have hD : va_D A ((w3 a cI cZ nk pa fa nc fo th tg nt tb te tk tt nu ub ue uk ut re ro fu bl go ra rc ex tc es wy) ++ ((w4 b cI cZ 1 nk pa nc fo th tg nt tb4 te4 tk4 tt4 ex tc es wy ab re9_44 go4 be) ++ ([(ou, .inl (cJ, 1, .inr (.inl fz)))]))) := hD
      refine lv_istore (lv' := [(6, .int r_43), (5, .int 1), (0, .ref sb), (1, .ref (a 0)), (2, .ref (b 0)), (3, .ref ou), (4, .int (nI i))]) hx hb dL_law_1136 hl (by decide) rfl (fun ls hl => ?_)
      refine lv_aload_n hx hb dL_law_1138 rfl (lv_at hl 4 rfl) ?_
      have hPc := hP.sub (ws' := w4 b cI cZ 1 nk pa nc fo th tg nt tb4 te4 tk4 tt4 ex tc es wy ab re9_44 go4 be) [24, 25, 26, 27, 28, 29, 30, 31, 32, 33, 34, 35, 36] rfl
      refine va_calli (va_runV (As := []) (rest := []) ⟨hx, hb, hml, hown, hts⟩ (c_X4_thrown l dC dI cI cZ cJ b 1 nk pa nc fo th tg nt tb4 te4 tk4 tt4 ex tc es wy ab re9_44 go4 be ) (cwV 0 hts gL_law_X4_thrown rfl rfl rfl (by decide +kernel) ⟨Nat.le_of_ble_eq_true rfl, Nat.le_of_ble_eq_true rfl⟩) ⟨zPre_blind, va_recv hK hPc (ci := 4) (q0 := 0) rfl rfl, zPre_at hPc hK hn⟩ rfl rfl hl.1 rfl (lv_room (Nat.le_of_ble_eq_true rfl)) dL_law_1139 ⟨by show _ ≤ 601024; omega, by show _ ≤ 7293034; omega⟩) hS (fun _ _ h => h.elim) (fun _ h => h.elim) (fun r_51 u_9 t H locs ht hvm hw hB hz1 hk1 hS => ?_)
      have hP := zkeep hP hk1
      subst hw
      refine lv_iload hx hb dL_law_1142 (lv_at hl 1 rfl) ?_
      refine lv_icmp_eq (tgt := 1149) hx hb dL_law_1144 (by decide) (fun c_52 => ?_) (fun c_52 => ?_)
      · skip
        refine lv_iload hx hb dL_law_1149 (lv_at hl 1 rfl) ?_
        refine lv_if_ne (tgt := 1173) hx hb dL_law_1151 (by decide) (fun c_53 => ?_) (fun c_53 => ?_)
        · skip
          refine lv_goto (tgt := 1475) hx hb dL_law_1173 (by decide) ?_
          refine W.widen (k := k0 + 100) (n := n0 + 3000) (by omega) (by omega) ?_
          exact K nk pa fa nc fo th tg nt tb te tk tt nu ub ue uk ut re ro fu bl go ra rc ex tc es wy 1 tb4 te4 tk4 tt4 ab re9_44 go4 be fz T up _ _ _ (by first | assumption | omega) (by first | assumption | omega) (by first | assumption | omega) hP hD hS (lv_sub hl [2, 3, 4, 5, 6] rfl)
        · exact absurd c_53 (by decide)
      · exact absurd c_52 (by decide)

set_option maxHeartbeats 4000000 in
set_option maxRecDepth 100000 in
theorem lk_18 {p : Program} {e : Env} {s : State} {m : MethodId} {below : List Frame} {meth : Method} {c : Code} {Q : State → Prop} (l : Launch) {sb L : Nat} {xs : Nat → Int32} (dC : Nat → ClassId) (dI : Nat → Nat → Nat) (cI cZ cJ : ClassId) (a b : Nat → Nat) (ou i k0 n0 : Nat) (hF0 : lwF p l s m c sb L xs dC dI cI cZ cJ) (hi : i + 5 ≤ L) (hk0 : k0 + 100 ≤ 601024) (hn0 : n0 + 3000 ≤ 7293034) (nk : Nat) (pa : Nat → Int32) (fa : Nat → Int32) (nc : Nat) (fo : Nat → Int32) (th : Nat → Int32) (tg : Nat → Int32) (nt : Nat) (tb : Nat → Int32) (te : Nat → Int32) (tk : Nat → Int32) (tt : Nat → Int32) (nu : Nat) (ub : Nat → Int32) (ue : Nat → Int32) (uk : Nat → Int32) (ut : Nat → Int32) (re : Nat → Int32) (ro : Nat → Int32) (fu : Nat → Int32) (bl : Nat → Int32) (go : Nat → Int32) (ra : Nat → Int32) (rc : Nat) (ex : Int32) (tc : Int32) (es : Int32) (wy : Int64) (tw : Int32) (tb4 : Nat → Int32) (te4 : Nat → Int32) (tk4 : Nat → Int32) (tt4 : Nat → Int32) (ab : Nat → Int32) (re4 : Nat → Int32) (go4 : Nat → Int32) (be : Nat → Int32) (fz : Nat → Int64) (T : Nat → Nat → Nat) (up : Nat → Nat → Bool) (hg : g3 nk fa up nt tb te tk tt T) (hg4 : g4 nk ab up nt tb4 te4 tk4 tt4 T) (hc : okC nk nc fo th tg) (H : Heap) (locs : List Loc) (ls : Array Slot) (hP : va_P (dC, dI) vwCl ((w3 a cI cZ nk pa fa nc fo th tg nt tb te tk tt nu ub ue uk ut re ro fu bl go ra rc ex tc es wy) ++ ((w4 b cI cZ tw nk pa nc fo th tg nt tb4 te4 tk4 tt4 ex tc es wy ab re4 go4 be) ++ ([(ou, .inl (cJ, 1, .inr (.inl fz)))]))) H) (hD : va_D (fun q => s.heap.size ≤ q) ((w3 a cI cZ nk pa fa nc fo th tg nt tb te tk tt nu ub ue uk ut re ro fu bl go ra rc ex tc es wy) ++ ((w4 b cI cZ tw nk pa nc fo th tg nt tb4 te4 tk4 tt4 ex tc es wy ab re4 go4 be) ++ ([(ou, .inl (cJ, 1, .inr (.inl fz)))])))) (hS : va_S (fun q => s.heap.size ≤ q) s.heap H locs) (hl : lv_has ls 9 [(0, .ref sb), (1, .ref (a 0)), (2, .ref (b 0)), (3, .ref ou), (4, .int (nI i))]) (K : ∀ (nk : Nat) (pa : Nat → Int32) (fa : Nat → Int32) (nc : Nat) (fo : Nat → Int32) (th : Nat → Int32) (tg : Nat → Int32) (nt : Nat) (tb : Nat → Int32) (te : Nat → Int32) (tk : Nat → Int32) (tt : Nat → Int32) (nu : Nat) (ub : Nat → Int32) (ue : Nat → Int32) (uk : Nat → Int32) (ut : Nat → Int32) (re : Nat → Int32) (ro : Nat → Int32) (fu : Nat → Int32) (bl : Nat → Int32) (go : Nat → Int32) (ra : Nat → Int32) (rc : Nat) (ex : Int32) (tc : Int32) (es : Int32) (wy : Int64) (tw : Int32) (tb4 : Nat → Int32) (te4 : Nat → Int32) (tk4 : Nat → Int32) (tt4 : Nat → Int32) (ab : Nat → Int32) (re4 : Nat → Int32) (go4 : Nat → Int32) (be : Nat → Int32) (fz : Nat → Int64) (T : Nat → Nat → Nat) (up : Nat → Nat → Bool) (H : Heap) (locs : List Loc) (ls : Array Slot), g3 nk fa up nt tb te tk tt T → g4 nk ab up nt tb4 te4 tk4 tt4 T → okC nk nc fo th tg → va_P (dC, dI) vwCl ((w3 a cI cZ nk pa fa nc fo th tg nt tb te tk tt nu ub ue uk ut re ro fu bl go ra rc ex tc es wy) ++ ((w4 b cI cZ tw nk pa nc fo th tg nt tb4 te4 tk4 tt4 ex tc es wy ab re4 go4 be) ++ ([(ou, .inl (cJ, 1, .inr (.inl fz)))]))) H → va_D (fun q => s.heap.size ≤ q) ((w3 a cI cZ nk pa fa nc fo th tg nt tb te tk tt nu ub ue uk ut re ro fu bl go ra rc ex tc es wy) ++ ((w4 b cI cZ tw nk pa nc fo th tg nt tb4 te4 tk4 tt4 ex tc es wy ab re4 go4 be) ++ ([(ou, .inl (cJ, 1, .inr (.inl fz)))]))) → va_S (fun q => s.heap.size ≤ q) s.heap H locs → lv_has ls 9 [(0, .ref sb), (1, .ref (a 0)), (2, .ref (b 0)), (3, .ref ou), (4, .int (nI i))] → W p l e room_1 s m #[Value.ref sb] below meth c H locs (k0 + 100) (n0 + 3000) Q (F0 m 1475 ls [])) : W p l e room_1 s m #[Value.ref sb] below meth c H locs k0 n0 Q (F0 m 1176 ls []) := by
  obtain ⟨hx, hb, hml, hown, hts, hX, hbl, hL, hK, hn, hzt, hzu, hzc, hlt⟩ := id hF0
  obtain ⟨A, hAe⟩ : ∃ A : Nat → Prop, A = fun q => s.heap.size ≤ q := ⟨_, rfl⟩
  have hbA : ¬ A sb := by rw [hAe]; exact Nat.not_le.mpr hbl
  have hA : ∀ q : Nat, s.heap.size ≤ q → A q := fun q h => by rw [hAe]; exact h
  rw [← hAe] at hD hS hzu K
  refine lv_aload_n hx hb dL_law_1176 rfl (lv_at hl 1 rfl) ?_
  have hPc := hP.sub (ws' := w3 a cI cZ nk pa fa nc fo th tg nt tb te tk tt nu ub ue uk ut re ro fu bl go ra rc ex tc es wy) [0, 1, 2, 3, 4, 5, 6, 7, 8, 9, 10, 11, 12, 13, 14, 15, 16, 17, 18, 19, 20, 21, 22, 23] rfl
  have hDc := hD.sub (ws' := w3 a cI cZ nk pa fa nc fo th tg nt tb te tk tt nu ub ue uk ut re ro fu bl go ra rc ex tc es wy) [0, 1, 2, 3, 4, 5, 6, 7, 8, 9, 10, 11, 12, 13, 14, 15, 16, 17, 18, 19, 20, 21, 22, 23] (by decide) rfl
  have hFc := va_free (wc := w3 a cI cZ nk pa fa nc fo th tg nt tb te tk tt nu ub ue uk ut re ro fu bl go ra rc ex tc es wy) hD hS hA [0, 1, 2, 3, 4, 5, 6, 7, 8, 9, 10, 11, 12, 13, 14, 15, 16, 17, 18, 19, 20, 21, 22, 23] rfl
  refine va_calli (va_runV (As := []) (rest := []) ⟨hx, hb, hml, hown, hts⟩ (c_X3_leaving l dC dI cI cZ cJ a nk pa fa nc fo th tg nt tb te tk tt nu ub ue uk ut re ro fu bl go ra rc ex tc es wy T up H.size (by first | assumption | omega) (by first | assumption | omega)) (cwV 0 hts gL_law_X3_leaving rfl rfl rfl (by decide +kernel) ⟨Nat.le_of_ble_eq_true rfl, Nat.le_of_ble_eq_true rfl⟩) ⟨zWr_blind, va_recv hK hPc (ci := 3) (q0 := 0) rfl rfl, zWr_at hPc hK hn (hDc.weaken (fun _ _ _ _ => trivial))⟩ rfl rfl hl.1 rfl (lv_room (Nat.le_of_ble_eq_true rfl)) dL_law_1177 ⟨by show _ ≤ 601024; omega, by show _ ≤ 7293034; omega⟩) hS (fun q _ h => hFc q h) hFc (fun r_1 u_9 t H1 locs ht hvm hw hB hz1 hk1 hS => ?_)
  obtain ⟨re9_1, ro9_2, rc9_3⟩ := u_9
  dsimp only at hw hB
  obtain ⟨hP1, -, hD1⟩ := hB
  rw [ht] at hP1
  obtain ⟨hP, hD⟩ := va_join (wr := (w4 b cI cZ tw nk pa nc fo th tg nt tb4 te4 tk4 tt4 ex tc es wy ab re4 go4 be) ++ ([(ou, .inl (cJ, 1, .inr (.inl fz)))])) (w1 := w3 a cI cZ nk pa fa nc fo th tg nt tb te tk tt nu ub ue uk ut re9_1 ro9_2 fu bl go ra rc9_3 ex tc es wy) hP hD [0, 1, 2, 3, 4, 5, 6, 7, 8, 9, 10, 11, 12, 13, 14, 15, 16, 17, 18, 19, 20, 21, 22, 23] [24, 25, 26, 27, 28, 29, 30, 31, 32, 33, 34, 35, 36, 37] rfl rfl (by decide) (by decide) hk1 hFc hP1 hD1
  generalize H1 = H at hP hS ⊢
  have hP := hP.sub (ws' := (w3 a cI cZ nk pa fa nc fo th tg nt tb te tk tt nu ub ue uk ut re9_1 ro9_2 fu bl go ra rc9_3 ex tc es wy) ++ ((w4 b cI cZ tw nk pa nc fo th tg nt tb4 te4 tk4 tt4 ex tc es wy ab re4 go4 be) ++ ([(ou, .inl (cJ, 1, .inr (.inl fz)))]))) [14, 15, 16, 17, 18, 19, 20, 21, 22, 23, 24, 25, 26, 27, 28, 29, 30, 31, 32, 33, 34, 35, 36, 37, 0, 1, 2, 3, 4, 5, 6, 7, 8, 9, 10, 11, 12, 13] rfl
  have hD := hD.sub (ws' := (w3 a cI cZ nk pa fa nc fo th tg nt tb te tk tt nu ub ue uk ut re9_1 ro9_2 fu bl go ra rc9_3 ex tc es wy) ++ ((w4 b cI cZ tw nk pa nc fo th tg nt tb4 te4 tk4 tt4 ex tc es wy ab re4 go4 be) ++ ([(ou, .inl (cJ, 1, .inr (.inl fz)))]))) [14, 15, 16, 17, 18, 19, 20, 21, 22, 23, 24, 25, 26, 27, 28, 29, 30, 31, 32, 33, 34, 35, 36, 37, 0, 1, 2, 3, 4, 5, 6, 7, 8, 9, 10, 11, 12, 13] (by decide) rfl
  have hP : va_P (dC, dI) vwCl ((w3 a cI cZ nk pa fa nc fo th tg nt tb te tk tt nu ub ue uk ut re9_1 ro9_2 fu bl go ra rc9_3 ex tc es wy) ++ ((w4 b cI cZ tw nk pa nc fo th tg nt tb4 te4 tk4 tt4 ex tc es wy ab re4 go4 be) ++ ([(ou, .inl (cJ, 1, .inr (.inl fz)))]))) H := hP
  have hD : va_D A ((w3 a cI cZ nk pa fa nc fo th tg nt tb te tk tt nu ub ue uk ut re9_1 ro9_2 fu bl go ra rc9_3 ex tc es wy) ++ ((w4 b cI cZ tw nk pa nc fo th tg nt tb4 te4 tk4 tt4 ex tc es wy ab re4 go4 be) ++ ([(ou, .inl (cJ, 1, .inr (.inl fz)))]))) := hD
  subst hw
  refine lv_aload_n hx hb dL_law_1180 rfl (lv_at hl 2 rfl) ?_
  have hPc := hP.sub (ws' := w4 b cI cZ tw nk pa nc fo th tg nt tb4 te4 tk4 tt4 ex tc es wy ab re4 go4 be) [24, 25, 26, 27, 28, 29, 30, 31, 32, 33, 34, 35, 36] rfl
  have hDc := hD.sub (ws' := w4 b cI cZ tw nk pa nc fo th tg nt tb4 te4 tk4 tt4 ex tc es wy ab re4 go4 be) [24, 25, 26, 27, 28, 29, 30, 31, 32, 33, 34, 35, 36] (by decide) rfl
  have hFc := va_free (wc := w4 b cI cZ tw nk pa nc fo th tg nt tb4 te4 tk4 tt4 ex tc es wy ab re4 go4 be) hD hS hA [24, 25, 26, 27, 28, 29, 30, 31, 32, 33, 34, 35, 36] rfl
  refine va_calli (va_runV (As := []) (rest := [.int (lvI (RB nk nc fo th tg T nt up) th (tkf T nt up) nt nk nc)]) ⟨hx, hb, hml, hown, hts⟩ (c_X4_leaving l dC dI cI cZ cJ b tw nk pa nc fo th tg nt tb4 te4 tk4 tt4 ex tc es wy ab re4 go4 be T up H.size (by first | assumption | omega) (by first | assumption | omega)) (cwV 0 hts gL_law_X4_leaving rfl rfl rfl (by decide +kernel) ⟨Nat.le_of_ble_eq_true rfl, Nat.le_of_ble_eq_true rfl⟩) ⟨zWr_blind, va_recv hK hPc (ci := 4) (q0 := 0) rfl rfl, zWr_at hPc hK hn (hDc.weaken (fun _ _ _ _ => trivial))⟩ rfl rfl hl.1 rfl (lv_room (Nat.le_of_ble_eq_true rfl)) dL_law_1181 ⟨by show _ ≤ 601024; omega, by show _ ≤ 7293034; omega⟩) hS (fun q _ h => hFc q h) hFc (fun r_5 u_9 t H1 locs ht hvm hw hB hz1 hk1 hS => ?_)
  obtain ⟨re9_5, rfl⟩ : ∃ z, z = u_9 := ⟨_, rfl⟩
  obtain ⟨hP1, -, hD1⟩ := hB
  rw [ht] at hP1
  obtain ⟨hP, hD⟩ := va_join (wr := (w3 a cI cZ nk pa fa nc fo th tg nt tb te tk tt nu ub ue uk ut re9_1 ro9_2 fu bl go ra rc9_3 ex tc es wy) ++ ([(ou, .inl (cJ, 1, .inr (.inl fz)))])) (w1 := w4 b cI cZ 0 nk pa nc fo th tg nt tb4 te4 tk4 tt4 ex tc es wy ab re9_5 go4 be) hP hD [24, 25, 26, 27, 28, 29, 30, 31, 32, 33, 34, 35, 36] [0, 1, 2, 3, 4, 5, 6, 7, 8, 9, 10, 11, 12, 13, 14, 15, 16, 17, 18, 19, 20, 21, 22, 23, 37] rfl rfl (by decide) (by decide) hk1 hFc hP1 hD1
  generalize H1 = H at hP hS ⊢
  have hP := hP.sub (ws' := (w3 a cI cZ nk pa fa nc fo th tg nt tb te tk tt nu ub ue uk ut re9_1 ro9_2 fu bl go ra rc9_3 ex tc es wy) ++ ((w4 b cI cZ 0 nk pa nc fo th tg nt tb4 te4 tk4 tt4 ex tc es wy ab re9_5 go4 be) ++ ([(ou, .inl (cJ, 1, .inr (.inl fz)))]))) [0, 1, 2, 3, 4, 5, 6, 7, 8, 9, 10, 11, 12, 13, 14, 15, 16, 17, 18, 19, 20, 21, 22, 23, 25, 26, 27, 28, 29, 30, 31, 32, 33, 34, 35, 36, 37, 24] rfl
  have hD := hD.sub (ws' := (w3 a cI cZ nk pa fa nc fo th tg nt tb te tk tt nu ub ue uk ut re9_1 ro9_2 fu bl go ra rc9_3 ex tc es wy) ++ ((w4 b cI cZ 0 nk pa nc fo th tg nt tb4 te4 tk4 tt4 ex tc es wy ab re9_5 go4 be) ++ ([(ou, .inl (cJ, 1, .inr (.inl fz)))]))) [0, 1, 2, 3, 4, 5, 6, 7, 8, 9, 10, 11, 12, 13, 14, 15, 16, 17, 18, 19, 20, 21, 22, 23, 25, 26, 27, 28, 29, 30, 31, 32, 33, 34, 35, 36, 37, 24] (by decide) rfl
  have hP : va_P (dC, dI) vwCl ((w3 a cI cZ nk pa fa nc fo th tg nt tb te tk tt nu ub ue uk ut re9_1 ro9_2 fu bl go ra rc9_3 ex tc es wy) ++ ((w4 b cI cZ 0 nk pa nc fo th tg nt tb4 te4 tk4 tt4 ex tc es wy ab re9_5 go4 be) ++ ([(ou, .inl (cJ, 1, .inr (.inl fz)))]))) H := hP
  have hD : va_D A ((w3 a cI cZ nk pa fa nc fo th tg nt tb te tk tt nu ub ue uk ut re9_1 ro9_2 fu bl go ra rc9_3 ex tc es wy) ++ ((w4 b cI cZ 0 nk pa nc fo th tg nt tb4 te4 tk4 tt4 ex tc es wy ab re9_5 go4 be) ++ ([(ou, .inl (cJ, 1, .inr (.inl fz)))]))) := hD
  subst hw
  refine lv_icmp_eq (tgt := 1475) hx hb dL_law_1184 (by decide) (fun c_7 => ?_) (fun c_7 => ?_)
  · skip
    skip
    refine W.widen (k := k0 + 100) (n := n0 + 3000) (by omega) (by omega) ?_
    exact K nk pa fa nc fo th tg nt tb te tk tt nu ub ue uk ut re9_1 ro9_2 fu bl go ra rc9_3 ex tc es wy 0 tb4 te4 tk4 tt4 ab re9_5 go4 be fz T up _ _ _ (by first | assumption | omega) (by first | assumption | omega) (by first | assumption | omega) hP hD hS (lv_sub hl [0, 1, 2, 3, 4] rfl)
  · exact absurd rfl c_7

set_option maxHeartbeats 4000000 in
set_option maxRecDepth 100000 in
theorem lk_19 {p : Program} {e : Env} {s : State} {m : MethodId} {below : List Frame} {meth : Method} {c : Code} {Q : State → Prop} (l : Launch) {sb L : Nat} {xs : Nat → Int32} (dC : Nat → ClassId) (dI : Nat → Nat → Nat) (cI cZ cJ : ClassId) (a b : Nat → Nat) (ou i k0 n0 : Nat) (hF0 : lwF p l s m c sb L xs dC dI cI cZ cJ) (hi : i + 5 ≤ L) (hk0 : k0 + 100 ≤ 601024) (hn0 : n0 + 3000 ≤ 7293034) (nk : Nat) (pa : Nat → Int32) (fa : Nat → Int32) (nc : Nat) (fo : Nat → Int32) (th : Nat → Int32) (tg : Nat → Int32) (nt : Nat) (tb : Nat → Int32) (te : Nat → Int32) (tk : Nat → Int32) (tt : Nat → Int32) (nu : Nat) (ub : Nat → Int32) (ue : Nat → Int32) (uk : Nat → Int32) (ut : Nat → Int32) (re : Nat → Int32) (ro : Nat → Int32) (fu : Nat → Int32) (bl : Nat → Int32) (go : Nat → Int32) (ra : Nat → Int32) (rc : Nat) (ex : Int32) (tc : Int32) (es : Int32) (wy : Int64) (tw : Int32) (tb4 : Nat → Int32) (te4 : Nat → Int32) (tk4 : Nat → Int32) (tt4 : Nat → Int32) (ab : Nat → Int32) (re4 : Nat → Int32) (go4 : Nat → Int32) (be : Nat → Int32) (fz : Nat → Int64) (T : Nat → Nat → Nat) (up : Nat → Nat → Bool) (hg : g3 nk fa up nt tb te tk tt T) (hg4 : g4 nk ab up nt tb4 te4 tk4 tt4 T) (hc : okC nk nc fo th tg) (H : Heap) (locs : List Loc) (ls : Array Slot) (hP : va_P (dC, dI) vwCl ((w3 a cI cZ nk pa fa nc fo th tg nt tb te tk tt nu ub ue uk ut re ro fu bl go ra rc ex tc es wy) ++ ((w4 b cI cZ tw nk pa nc fo th tg nt tb4 te4 tk4 tt4 ex tc es wy ab re4 go4 be) ++ ([(ou, .inl (cJ, 1, .inr (.inl fz)))]))) H) (hD : va_D (fun q => s.heap.size ≤ q) ((w3 a cI cZ nk pa fa nc fo th tg nt tb te tk tt nu ub ue uk ut re ro fu bl go ra rc ex tc es wy) ++ ((w4 b cI cZ tw nk pa nc fo th tg nt tb4 te4 tk4 tt4 ex tc es wy ab re4 go4 be) ++ ([(ou, .inl (cJ, 1, .inr (.inl fz)))])))) (hS : va_S (fun q => s.heap.size ≤ q) s.heap H locs) (hl : lv_has ls 9 [(0, .ref sb), (1, .ref (a 0)), (2, .ref (b 0)), (3, .ref ou), (4, .int (nI i))]) (K : ∀ (nk : Nat) (pa : Nat → Int32) (fa : Nat → Int32) (nc : Nat) (fo : Nat → Int32) (th : Nat → Int32) (tg : Nat → Int32) (nt : Nat) (tb : Nat → Int32) (te : Nat → Int32) (tk : Nat → Int32) (tt : Nat → Int32) (nu : Nat) (ub : Nat → Int32) (ue : Nat → Int32) (uk : Nat → Int32) (ut : Nat → Int32) (re : Nat → Int32) (ro : Nat → Int32) (fu : Nat → Int32) (bl : Nat → Int32) (go : Nat → Int32) (ra : Nat → Int32) (rc : Nat) (ex : Int32) (tc : Int32) (es : Int32) (wy : Int64) (tw : Int32) (tb4 : Nat → Int32) (te4 : Nat → Int32) (tk4 : Nat → Int32) (tt4 : Nat → Int32) (ab : Nat → Int32) (re4 : Nat → Int32) (go4 : Nat → Int32) (be : Nat → Int32) (fz : Nat → Int64) (T : Nat → Nat → Nat) (up : Nat → Nat → Bool) (d1 : Drawn) (hd1 : s.drawn.sameBut d1 lw_cs) (H : Heap) (locs : List Loc) (ls : Array Slot), g3 nk fa up nt tb te tk tt T → g4 nk ab up nt tb4 te4 tk4 tt4 T → okC nk nc fo th tg → va_P (dC, dI) vwCl ((w3 a cI cZ nk pa fa nc fo th tg nt tb te tk tt nu ub ue uk ut re ro fu bl go ra rc ex tc es wy) ++ ((w4 b cI cZ tw nk pa nc fo th tg nt tb4 te4 tk4 tt4 ex tc es wy ab re4 go4 be) ++ ([(ou, .inl (cJ, 1, .inr (.inl fz)))]))) H → va_D (fun q => s.heap.size ≤ q) ((w3 a cI cZ nk pa fa nc fo th tg nt tb te tk tt nu ub ue uk ut re ro fu bl go ra rc ex tc es wy) ++ ((w4 b cI cZ tw nk pa nc fo th tg nt tb4 te4 tk4 tt4 ex tc es wy ab re4 go4 be) ++ ([(ou, .inl (cJ, 1, .inr (.inl fz)))]))) → va_S (fun q => s.heap.size ≤ q) s.heap H locs → lv_has ls 9 [(0, .ref sb), (1, .ref (a 0)), (2, .ref (b 0)), (3, .ref ou), (4, .int (nI i))] → W p l e room_1 (s.setDrawn d1) m #[Value.ref sb] below meth c H locs (k0 + 100) (n0 + 3000) Q (F0 m 1475 ls [])) : W p l e room_1 s m #[Value.ref sb] below meth c H locs k0 n0 Q (F0 m 1189 ls []) := by
  obtain ⟨hx, hb, hml, hown, hts, hX, hbl, hL, hK, hn, hzt, hzu, hzc, hlt⟩ := id hF0
  obtain ⟨A, hAe⟩ : ∃ A : Nat → Prop, A = fun q => s.heap.size ≤ q := ⟨_, rfl⟩
  have hbA : ¬ A sb := by rw [hAe]; exact Nat.not_le.mpr hbl
  have hA : ∀ q : Nat, s.heap.size ≤ q → A q := fun q h => by rw [hAe]; exact h
  rw [← hAe] at hD hS hzu K
  refine lv_aload_n hx hb dL_law_1189 rfl (lv_at hl 1 rfl) ?_
  have hd_0 := Drawn.sameBut.refl s.drawn lw_cs
  refine W.base ?_
  have hPc := hP.sub (ws' := w3 a cI cZ nk pa fa nc fo th tg nt tb te tk tt nu ub ue uk ut re ro fu bl go ra rc ex tc es wy) [0, 1, 2, 3, 4, 5, 6, 7, 8, 9, 10, 11, 12, 13, 14, 15, 16, 17, 18, 19, 20, 21, 22, 23] rfl
  have hDc := hD.sub (ws' := w3 a cI cZ nk pa fa nc fo th tg nt tb te tk tt nu ub ue uk ut re ro fu bl go ra rc ex tc es wy) [0, 1, 2, 3, 4, 5, 6, 7, 8, 9, 10, 11, 12, 13, 14, 15, 16, 17, 18, 19, 20, 21, 22, 23] (by decide) rfl
  have hFc := va_free (wc := w3 a cI cZ nk pa fa nc fo th tg nt tb te tk tt nu ub ue uk ut re ro fu bl go ra rc ex tc es wy) hD hS hA [0, 1, 2, 3, 4, 5, 6, 7, 8, 9, 10, 11, 12, 13, 14, 15, 16, 17, 18, 19, 20, 21, 22, 23] rfl
  refine va_calldD hd_0 (va_runV_D (As := []) (rest := []) ⟨hx, hb, hml, hown, dr_words hts _⟩ (c_X3_share l dC dI cI cZ cJ a nk pa fa nc fo th tg nt tb te tk tt nu ub ue uk ut re ro fu bl go ra rc ex tc es wy T up H.size (by first | assumption | omega) (by first | assumption | omega)) (cwV 0 (dr_words hts _) gL_law_X3_share rfl rfl rfl (by decide +kernel) ⟨Nat.le_of_ble_eq_true rfl, Nat.le_of_ble_eq_true rfl⟩) ⟨zWr_blind, va_recv hK hPc (ci := 3) (q0 := 0) rfl rfl, zWr_at hPc hK (zn_same (s := s) (U := s.setDrawn s.drawn) rfl hn) (hDc.weaken (fun _ _ _ _ => trivial))⟩ rfl rfl hl.1 rfl (lv_room (Nat.le_of_ble_eq_true rfl)) dL_law_1190 ⟨by show _ ≤ 601024; omega, by show _ ≤ 7293034; omega⟩) hS (fun q _ h => hFc q h) hFc (fun r_2 u_9 t H1 locs ht hvm hw hB hz1 hk1 hS d_1 hd_1 => ?_)
  obtain ⟨re9_2, ro9_3, rc9_4⟩ := u_9
  dsimp only at hw hB
  obtain ⟨hP1, -, hD1⟩ := hB
  rw [ht] at hP1
  obtain ⟨hP, hD⟩ := va_join (wr := (w4 b cI cZ tw nk pa nc fo th tg nt tb4 te4 tk4 tt4 ex tc es wy ab re4 go4 be) ++ ([(ou, .inl (cJ, 1, .inr (.inl fz)))])) (w1 := w3 a cI cZ nk pa fa nc fo th tg nt tb te tk tt nu ub ue uk ut re9_2 ro9_3 fu bl go ra rc9_4 ex tc es wy) hP hD [0, 1, 2, 3, 4, 5, 6, 7, 8, 9, 10, 11, 12, 13, 14, 15, 16, 17, 18, 19, 20, 21, 22, 23] [24, 25, 26, 27, 28, 29, 30, 31, 32, 33, 34, 35, 36, 37] rfl rfl (by decide) (by decide) hk1 hFc hP1 hD1
  generalize H1 = H at hP hS ⊢
  have hP := hP.sub (ws' := (w3 a cI cZ nk pa fa nc fo th tg nt tb te tk tt nu ub ue uk ut re9_2 ro9_3 fu bl go ra rc9_4 ex tc es wy) ++ ((w4 b cI cZ tw nk pa nc fo th tg nt tb4 te4 tk4 tt4 ex tc es wy ab re4 go4 be) ++ ([(ou, .inl (cJ, 1, .inr (.inl fz)))]))) [14, 15, 16, 17, 18, 19, 20, 21, 22, 23, 24, 25, 26, 27, 28, 29, 30, 31, 32, 33, 34, 35, 36, 37, 0, 1, 2, 3, 4, 5, 6, 7, 8, 9, 10, 11, 12, 13] rfl
  have hD := hD.sub (ws' := (w3 a cI cZ nk pa fa nc fo th tg nt tb te tk tt nu ub ue uk ut re9_2 ro9_3 fu bl go ra rc9_4 ex tc es wy) ++ ((w4 b cI cZ tw nk pa nc fo th tg nt tb4 te4 tk4 tt4 ex tc es wy ab re4 go4 be) ++ ([(ou, .inl (cJ, 1, .inr (.inl fz)))]))) [14, 15, 16, 17, 18, 19, 20, 21, 22, 23, 24, 25, 26, 27, 28, 29, 30, 31, 32, 33, 34, 35, 36, 37, 0, 1, 2, 3, 4, 5, 6, 7, 8, 9, 10, 11, 12, 13] (by decide) rfl
  have hP : va_P (dC, dI) vwCl ((w3 a cI cZ nk pa fa nc fo th tg nt tb te tk tt nu ub ue uk ut re9_2 ro9_3 fu bl go ra rc9_4 ex tc es wy) ++ ((w4 b cI cZ tw nk pa nc fo th tg nt tb4 te4 tk4 tt4 ex tc es wy ab re4 go4 be) ++ ([(ou, .inl (cJ, 1, .inr (.inl fz)))]))) H := hP
  have hD : va_D A ((w3 a cI cZ nk pa fa nc fo th tg nt tb te tk tt nu ub ue uk ut re9_2 ro9_3 fu bl go ra rc9_4 ex tc es wy) ++ ((w4 b cI cZ tw nk pa nc fo th tg nt tb4 te4 tk4 tt4 ex tc es wy ab re4 go4 be) ++ ([(ou, .inl (cJ, 1, .inr (.inl fz)))]))) := hD
  have h_6 := hw
  have hP : va_P (dC, dI) vwCl ((w3 a cI cZ nk pa fa nc fo th tg nt tb te tk tt nu ub ue uk ut re9_2 ro9_3 fu bl go ra rc9_4 ex tc es wy) ++ ((w4 b cI cZ tw nk pa nc fo th tg nt tb4 te4 tk4 tt4 ex tc es wy ab re4 go4 be) ++ ([(ou, .inl (cJ, 1, .inr (.inl fz)))]))) H := hP
  have hD : va_D A ((w3 a cI cZ nk pa fa nc fo th tg nt tb te tk tt nu ub ue uk ut re9_2 ro9_3 fu bl go ra rc9_4 ex tc es wy) ++ ((w4 b cI cZ tw nk pa nc fo th tg nt tb4 te4 tk4 tt4 ex tc es wy ab re4 go4 be) ++ ([(ou, .inl (cJ, 1, .inr (.inl fz)))]))) := hD
  refine lv_dstore (lv' := [(5, .double r_2), (0, .ref sb), (1, .ref (a 0)), (2, .ref (b 0)), (3, .ref ou), (4, .int (nI i))]) hx hb dL_law_1193 hl (by decide) rfl (fun ls hl => ?_)
  refine lv_aload_n hx hb dL_law_1195 rfl (lv_at hl 3 rfl) ?_
  have hPc := hP.sub (ws' := w4 b cI cZ tw nk pa nc fo th tg nt tb4 te4 tk4 tt4 ex tc es wy ab re4 go4 be) [24, 25, 26, 27, 28, 29, 30, 31, 32, 33, 34, 35, 36] rfl
  have hDc := hD.sub (ws' := w4 b cI cZ tw nk pa nc fo th tg nt tb4 te4 tk4 tt4 ex tc es wy ab re4 go4 be) [24, 25, 26, 27, 28, 29, 30, 31, 32, 33, 34, 35, 36] (by decide) rfl
  have hFc := va_free (wc := w4 b cI cZ tw nk pa nc fo th tg nt tb4 te4 tk4 tt4 ex tc es wy ab re4 go4 be) hD hS hA [24, 25, 26, 27, 28, 29, 30, 31, 32, 33, 34, 35, 36] rfl
  refine va_calldD hd_1 (va_runV_D (As := []) (rest := []) ⟨hx, hb, hml, hown, dr_words hts _⟩ (c_X4_share l dC dI cI cZ cJ b tw nk pa nc fo th tg nt tb4 te4 tk4 tt4 ex tc es wy ab re4 go4 be T up H.size (by first | assumption | omega) (by first | assumption | omega)) (cwV 0 (dr_words hts _) gL_law_X4_share rfl rfl rfl (by decide +kernel) ⟨Nat.le_of_ble_eq_true rfl, Nat.le_of_ble_eq_true rfl⟩) ⟨zWr_blind, va_recv hK hPc (ci := 4) (q0 := 0) rfl rfl, zWr_at hPc hK (zn_same (s := s) (U := s.setDrawn d_1) rfl hn) (hDc.weaken (fun _ _ _ _ => trivial))⟩ rfl rfl hl.1 rfl (lv_room (Nat.le_of_ble_eq_true rfl)) dL_law_1196 ⟨by show _ ≤ 601024; omega, by show _ ≤ 7293034; omega⟩) hS (fun q _ h => hFc q h) hFc (fun r_8 u_9 t H1 locs ht hvm hw hB hz1 hk1 hS d_7 hd_7 => ?_)
  obtain ⟨re9_8, rfl⟩ : ∃ z, z = u_9 := ⟨_, rfl⟩
  obtain ⟨hP1, -, hD1⟩ := hB
  rw [ht] at hP1
  obtain ⟨hP, hD⟩ := va_join (wr := (w3 a cI cZ nk pa fa nc fo th tg nt tb te tk tt nu ub ue uk ut re9_2 ro9_3 fu bl go ra rc9_4 ex tc es wy) ++ ([(ou, .inl (cJ, 1, .inr (.inl fz)))])) (w1 := w4 b cI cZ 0 nk pa nc fo th tg nt tb4 te4 tk4 tt4 ex tc es wy ab re9_8 go4 be) hP hD [24, 25, 26, 27, 28, 29, 30, 31, 32, 33, 34, 35, 36] [0, 1, 2, 3, 4, 5, 6, 7, 8, 9, 10, 11, 12, 13, 14, 15, 16, 17, 18, 19, 20, 21, 22, 23, 37] rfl rfl (by decide) (by decide) hk1 hFc hP1 hD1
  generalize H1 = H at hP hS ⊢
  have hP := hP.sub (ws' := (w3 a cI cZ nk pa fa nc fo th tg nt tb te tk tt nu ub ue uk ut re9_2 ro9_3 fu bl go ra rc9_4 ex tc es wy) ++ ((w4 b cI cZ 0 nk pa nc fo th tg nt tb4 te4 tk4 tt4 ex tc es wy ab re9_8 go4 be) ++ ([(ou, .inl (cJ, 1, .inr (.inl fz)))]))) [0, 1, 2, 3, 4, 5, 6, 7, 8, 9, 10, 11, 12, 13, 14, 15, 16, 17, 18, 19, 20, 21, 22, 23, 25, 26, 27, 28, 29, 30, 31, 32, 33, 34, 35, 36, 37, 24] rfl
  have hD := hD.sub (ws' := (w3 a cI cZ nk pa fa nc fo th tg nt tb te tk tt nu ub ue uk ut re9_2 ro9_3 fu bl go ra rc9_4 ex tc es wy) ++ ((w4 b cI cZ 0 nk pa nc fo th tg nt tb4 te4 tk4 tt4 ex tc es wy ab re9_8 go4 be) ++ ([(ou, .inl (cJ, 1, .inr (.inl fz)))]))) [0, 1, 2, 3, 4, 5, 6, 7, 8, 9, 10, 11, 12, 13, 14, 15, 16, 17, 18, 19, 20, 21, 22, 23, 25, 26, 27, 28, 29, 30, 31, 32, 33, 34, 35, 36, 37, 24] (by decide) rfl
  have hP : va_P (dC, dI) vwCl ((w3 a cI cZ nk pa fa nc fo th tg nt tb te tk tt nu ub ue uk ut re9_2 ro9_3 fu bl go ra rc9_4 ex tc es wy) ++ ((w4 b cI cZ 0 nk pa nc fo th tg nt tb4 te4 tk4 tt4 ex tc es wy ab re9_8 go4 be) ++ ([(ou, .inl (cJ, 1, .inr (.inl fz)))]))) H := hP
  have hD : va_D A ((w3 a cI cZ nk pa fa nc fo th tg nt tb te tk tt nu ub ue uk ut re9_2 ro9_3 fu bl go ra rc9_4 ex tc es wy) ++ ((w4 b cI cZ 0 nk pa nc fo th tg nt tb4 te4 tk4 tt4 ex tc es wy ab re9_8 go4 be) ++ ([(ou, .inl (cJ, 1, .inr (.inl fz)))]))) := hD
  have h_10 := hw
  have hP : va_P (dC, dI) vwCl ((w3 a cI cZ nk pa fa nc fo th tg nt tb te tk tt nu ub ue uk ut re9_2 ro9_3 fu bl go ra rc9_4 ex tc es wy) ++ ((w4 b cI cZ 0 nk pa nc fo th tg nt tb4 te4 tk4 tt4 ex tc es wy ab re9_8 go4 be) ++ ([(ou, .inl (cJ, 1, .inr (.inl fz)))]))) H := hP
  have hD : va_D A ((w3 a cI cZ nk pa fa nc fo th tg nt tb te tk tt nu ub ue uk ut re9_2 ro9_3 fu bl go ra rc9_4 ex tc es wy) ++ ((w4 b cI cZ 0 nk pa nc fo th tg nt tb4 te4 tk4 tt4 ex tc es wy ab re9_8 go4 be) ++ ([(ou, .inl (cJ, 1, .inr (.inl fz)))]))) := hD
  refine lv_dstore (lv' := [(7, .double r_8), (5, .double r_2), (0, .ref sb), (1, .ref (a 0)), (2, .ref (b 0)), (3, .ref ou), (4, .int (nI i))]) hx hb dL_law_1199 hl (by decide) rfl (fun ls hl => ?_)
  rcases zD_alike h_6 h_10 with hpq | ⟨hp9, hq9⟩
  · skip
    subst hpq
    obtain ⟨v9, hv9⟩ : ∃ v, v = Op.cmpValue (FP.dcmp r_2 r_2) CmpOp.l := ⟨_, rfl⟩
    refine lv_dload hx hb dL_law_1201 (lv_at hl 1 rfl) ?_
    refine lv_dload hx hb dL_law_1203 (lv_at hl 0 rfl) ?_
    refine lv_dcmp hx hb dL_law_1205 ?_
    refine zz_top (y := v9) hv9.symm ?_
    refine lv_if_eq (tgt := 1227) hx hb dL_law_1206 (by decide) (fun c_11 => ?_) (fun c_11 => ?_)
    · skip
      skip
      refine lv_goto (tgt := 1475) hx hb dL_law_1227 (by decide) ?_
      refine W.widen (k := k0 + 100) (n := n0 + 3000) (by omega) (by omega) ?_
      exact K nk pa fa nc fo th tg nt tb te tk tt nu ub ue uk ut re9_2 ro9_3 fu bl go ra rc9_4 ex tc es wy 0 tb4 te4 tk4 tt4 ab re9_8 go4 be fz T up _ hd_7 _ _ _ (by first | assumption | omega) (by first | assumption | omega) (by first | assumption | omega) hP hD hS (lv_sub hl [2, 3, 4, 5, 6] rfl)
    · skip
      skip
      refine lv_dload hx hb dL_law_1209 (lv_at hl 1 rfl) ?_
      refine lv_dload hx hb dL_law_1211 (lv_at hl 1 rfl) ?_
      refine lv_dcmp hx hb dL_law_1213 ?_
      refine zz_top (y := v9) hv9.symm ?_
      refine lv_if_eq (tgt := 1225) hx hb dL_law_1214 (by decide) (fun c_12 => ?_) (fun c_12 => ?_)
      · exact absurd c_12 c_11
      · skip
        skip
        refine lv_dload hx hb dL_law_1217 (lv_at hl 0 rfl) ?_
        refine lv_dload hx hb dL_law_1219 (lv_at hl 0 rfl) ?_
        refine lv_dcmp hx hb dL_law_1221 ?_
        refine zz_top (y := v9) hv9.symm ?_
        refine lv_if_ne (tgt := 1227) hx hb dL_law_1222 (by decide) (fun c_13 => ?_) (fun c_13 => ?_)
        · skip
          skip
          refine lv_goto (tgt := 1475) hx hb dL_law_1227 (by decide) ?_
          refine W.widen (k := k0 + 100) (n := n0 + 3000) (by omega) (by omega) ?_
          exact K nk pa fa nc fo th tg nt tb te tk tt nu ub ue uk ut re9_2 ro9_3 fu bl go ra rc9_4 ex tc es wy 0 tb4 te4 tk4 tt4 ab re9_8 go4 be fz T up _ hd_7 _ _ _ (by first | assumption | omega) (by first | assumption | omega) (by first | assumption | omega) hP hD hS (lv_sub hl [2, 3, 4, 5, 6] rfl)
        · first | exact absurd c_13 c_11 | exact absurd c_11 c_13 | exact c_13 c_11
  · skip
    refine lv_dload hx hb dL_law_1201 (lv_at hl 1 rfl) ?_
    refine lv_dload hx hb dL_law_1203 (lv_at hl 0 rfl) ?_
    refine lv_dcmp hx hb dL_law_1205 ?_
    refine zz_top (y := -1) (by rw [zD_none hp9]; rfl) ?_
    refine lv_if_eq (tgt := 1227) hx hb dL_law_1206 (by decide) (fun c_14 => ?_) (fun c_14 => ?_)
    · exact absurd c_14 (by decide)
    · skip
      refine lv_dload hx hb dL_law_1209 (lv_at hl 1 rfl) ?_
      refine lv_dload hx hb dL_law_1211 (lv_at hl 1 rfl) ?_
      refine lv_dcmp hx hb dL_law_1213 ?_
      refine zz_top (y := -1) (by rw [zD_none hp9]; rfl) ?_
      refine lv_if_eq (tgt := 1225) hx hb dL_law_1214 (by decide) (fun c_15 => ?_) (fun c_15 => ?_)
      · exact absurd c_15 (by decide)
      · skip
        refine lv_dload hx hb dL_law_1217 (lv_at hl 0 rfl) ?_
        refine lv_dload hx hb dL_law_1219 (lv_at hl 0 rfl) ?_
        refine lv_dcmp hx hb dL_law_1221 ?_
        refine zz_top (y := -1) (by rw [zD_none hq9]; rfl) ?_
        refine lv_if_ne (tgt := 1227) hx hb dL_law_1222 (by decide) (fun c_16 => ?_) (fun c_16 => ?_)
        · skip
          refine lv_goto (tgt := 1475) hx hb dL_law_1227 (by decide) ?_
          refine W.widen (k := k0 + 100) (n := n0 + 3000) (by omega) (by omega) ?_
          exact K nk pa fa nc fo th tg nt tb te tk tt nu ub ue uk ut re9_2 ro9_3 fu bl go ra rc9_4 ex tc es wy 0 tb4 te4 tk4 tt4 ab re9_8 go4 be fz T up _ hd_7 _ _ _ (by first | assumption | omega) (by first | assumption | omega) (by first | assumption | omega) hP hD hS (lv_sub hl [2, 3, 4, 5, 6] rfl)
        · exact absurd c_16 (by decide)

set_option maxHeartbeats 4000000 in
set_option maxRecDepth 100000 in
theorem lk_20 {p : Program} {e : Env} {s : State} {m : MethodId} {below : List Frame} {meth : Method} {c : Code} {Q : State → Prop} (l : Launch) {sb L : Nat} {xs : Nat → Int32} (dC : Nat → ClassId) (dI : Nat → Nat → Nat) (cI cZ cJ : ClassId) (a b : Nat → Nat) (ou i k0 n0 : Nat) (hF0 : lwF p l s m c sb L xs dC dI cI cZ cJ) (hi : i + 5 ≤ L) (hk0 : k0 + 100 ≤ 601024) (hn0 : n0 + 3000 ≤ 7293034) (nk : Nat) (pa : Nat → Int32) (fa : Nat → Int32) (nc : Nat) (fo : Nat → Int32) (th : Nat → Int32) (tg : Nat → Int32) (nt : Nat) (tb : Nat → Int32) (te : Nat → Int32) (tk : Nat → Int32) (tt : Nat → Int32) (nu : Nat) (ub : Nat → Int32) (ue : Nat → Int32) (uk : Nat → Int32) (ut : Nat → Int32) (re : Nat → Int32) (ro : Nat → Int32) (fu : Nat → Int32) (bl : Nat → Int32) (go : Nat → Int32) (ra : Nat → Int32) (rc : Nat) (ex : Int32) (tc : Int32) (es : Int32) (wy : Int64) (tw : Int32) (tb4 : Nat → Int32) (te4 : Nat → Int32) (tk4 : Nat → Int32) (tt4 : Nat → Int32) (ab : Nat → Int32) (re4 : Nat → Int32) (go4 : Nat → Int32) (be : Nat → Int32) (fz : Nat → Int64) (T : Nat → Nat → Nat) (up : Nat → Nat → Bool) (hg : g3 nk fa up nt tb te tk tt T) (hg4 : g4 nk ab up nt tb4 te4 tk4 tt4 T) (hc : okC nk nc fo th tg) (H : Heap) (locs : List Loc) (ls : Array Slot) (hP : va_P (dC, dI) vwCl ((w3 a cI cZ nk pa fa nc fo th tg nt tb te tk tt nu ub ue uk ut re ro fu bl go ra rc ex tc es wy) ++ ((w4 b cI cZ tw nk pa nc fo th tg nt tb4 te4 tk4 tt4 ex tc es wy ab re4 go4 be) ++ ([(ou, .inl (cJ, 1, .inr (.inl fz)))]))) H) (hD : va_D (fun q => s.heap.size ≤ q) ((w3 a cI cZ nk pa fa nc fo th tg nt tb te tk tt nu ub ue uk ut re ro fu bl go ra rc ex tc es wy) ++ ((w4 b cI cZ tw nk pa nc fo th tg nt tb4 te4 tk4 tt4 ex tc es wy ab re4 go4 be) ++ ([(ou, .inl (cJ, 1, .inr (.inl fz)))])))) (hS : va_S (fun q => s.heap.size ≤ q) s.heap H locs) (hl : lv_has ls 9 [(0, .ref sb), (1, .ref (a 0)), (2, .ref (b 0)), (3, .ref ou), (4, .int (nI i))]) (K : ∀ (nk : Nat) (pa : Nat → Int32) (fa : Nat → Int32) (nc : Nat) (fo : Nat → Int32) (th : Nat → Int32) (tg : Nat → Int32) (nt : Nat) (tb : Nat → Int32) (te : Nat → Int32) (tk : Nat → Int32) (tt : Nat → Int32) (nu : Nat) (ub : Nat → Int32) (ue : Nat → Int32) (uk : Nat → Int32) (ut : Nat → Int32) (re : Nat → Int32) (ro : Nat → Int32) (fu : Nat → Int32) (bl : Nat → Int32) (go : Nat → Int32) (ra : Nat → Int32) (rc : Nat) (ex : Int32) (tc : Int32) (es : Int32) (wy : Int64) (tw : Int32) (tb4 : Nat → Int32) (te4 : Nat → Int32) (tk4 : Nat → Int32) (tt4 : Nat → Int32) (ab : Nat → Int32) (re4 : Nat → Int32) (go4 : Nat → Int32) (be : Nat → Int32) (fz : Nat → Int64) (T : Nat → Nat → Nat) (up : Nat → Nat → Bool) (H : Heap) (locs : List Loc) (ls : Array Slot), g3 nk fa up nt tb te tk tt T → g4 nk ab up nt tb4 te4 tk4 tt4 T → okC nk nc fo th tg → va_P (dC, dI) vwCl ((w3 a cI cZ nk pa fa nc fo th tg nt tb te tk tt nu ub ue uk ut re ro fu bl go ra rc ex tc es wy) ++ ((w4 b cI cZ tw nk pa nc fo th tg nt tb4 te4 tk4 tt4 ex tc es wy ab re4 go4 be) ++ ([(ou, .inl (cJ, 1, .inr (.inl fz)))]))) H → va_D (fun q => s.heap.size ≤ q) ((w3 a cI cZ nk pa fa nc fo th tg nt tb te tk tt nu ub ue uk ut re ro fu bl go ra rc ex tc es wy) ++ ((w4 b cI cZ tw nk pa nc fo th tg nt tb4 te4 tk4 tt4 ex tc es wy ab re4 go4 be) ++ ([(ou, .inl (cJ, 1, .inr (.inl fz)))]))) → va_S (fun q => s.heap.size ≤ q) s.heap H locs → lv_has ls 9 [(0, .ref sb), (1, .ref (a 0)), (2, .ref (b 0)), (3, .ref ou), (4, .int (nI i))] → W p l e room_1 s m #[Value.ref sb] below meth c H locs (k0 + 100) (n0 + 3000) Q (F0 m 1475 ls [])) : W p l e room_1 s m #[Value.ref sb] below meth c H locs k0 n0 Q (F0 m 1230 ls []) := by
  obtain ⟨hx, hb, hml, hown, hts, hX, hbl, hL, hK, hn, hzt, hzu, hzc, hlt⟩ := id hF0
  obtain ⟨A, hAe⟩ : ∃ A : Nat → Prop, A = fun q => s.heap.size ≤ q := ⟨_, rfl⟩
  have hbA : ¬ A sb := by rw [hAe]; exact Nat.not_le.mpr hbl
  have hA : ∀ q : Nat, s.heap.size ≤ q → A q := fun q h => by rw [hAe]; exact h
  rw [← hAe] at hD hS hzu K
  refine lv_aload_n hx hb dL_law_1230 rfl (lv_at hl 1 rfl) ?_
  have hPc := hP.sub (ws' := w3 a cI cZ nk pa fa nc fo th tg nt tb te tk tt nu ub ue uk ut re ro fu bl go ra rc ex tc es wy) [0, 1, 2, 3, 4, 5, 6, 7, 8, 9, 10, 11, 12, 13, 14, 15, 16, 17, 18, 19, 20, 21, 22, 23] rfl
  refine va_calli (va_runV (As := []) (rest := []) ⟨hx, hb, hml, hown, hts⟩ (c_X3_parts l dC dI cI cZ cJ a nk pa fa nc fo th tg nt tb te tk tt nu ub ue uk ut re ro fu bl go ra rc ex tc es wy T up (by first | assumption | omega) (by first | assumption | omega)) (cwV 0 hts gL_law_X3_parts rfl rfl rfl (by decide +kernel) ⟨Nat.le_of_ble_eq_true rfl, Nat.le_of_ble_eq_true rfl⟩) ⟨zPre_blind, va_recv hK hPc (ci := 3) (q0 := 0) rfl rfl, zPre_at hPc hK hn⟩ rfl rfl hl.1 rfl (lv_room (Nat.le_of_ble_eq_true rfl)) dL_law_1231 ⟨by show _ ≤ 601024; omega, by show _ ≤ 7293034; omega⟩) hS (fun _ _ h => h.elim) (fun _ h => h.elim) (fun r_1 u_9 t H locs ht hvm hw hB hz1 hk1 hS => ?_)
  have hP := zkeep hP hk1
  subst hw
  refine lv_aload_n hx hb dL_law_1234 rfl (lv_at hl 2 rfl) ?_
  have hPc := hP.sub (ws' := w4 b cI cZ tw nk pa nc fo th tg nt tb4 te4 tk4 tt4 ex tc es wy ab re4 go4 be) [24, 25, 26, 27, 28, 29, 30, 31, 32, 33, 34, 35, 36] rfl
  have hDc := hD.sub (ws' := w4 b cI cZ tw nk pa nc fo th tg nt tb4 te4 tk4 tt4 ex tc es wy ab re4 go4 be) [24, 25, 26, 27, 28, 29, 30, 31, 32, 33, 34, 35, 36] (by decide) rfl
  have hFc := va_free (wc := w4 b cI cZ tw nk pa nc fo th tg nt tb4 te4 tk4 tt4 ex tc es wy ab re4 go4 be) hD hS hA [24, 25, 26, 27, 28, 29, 30, 31, 32, 33, 34, 35, 36] rfl
  refine va_calli (va_runV (As := []) (rest := [.int (nI (ptN (gl T nt up) nk nc))]) ⟨hx, hb, hml, hown, hts⟩ (c_X4_parts l dC dI cI cZ cJ b tw nk pa nc fo th tg nt tb4 te4 tk4 tt4 ex tc es wy ab re4 go4 be T up H.size (by first | assumption | omega) (by first | assumption | omega)) (cwV 0 hts gL_law_X4_parts rfl rfl rfl (by decide +kernel) ⟨Nat.le_of_ble_eq_true rfl, Nat.le_of_ble_eq_true rfl⟩) ⟨zWr_blind, va_recv hK hPc (ci := 4) (q0 := 0) rfl rfl, zWr_at hPc hK hn (hDc.weaken (fun _ _ _ _ => trivial))⟩ rfl rfl hl.1 rfl (lv_room (Nat.le_of_ble_eq_true rfl)) dL_law_1235 ⟨by show _ ≤ 601024; omega, by show _ ≤ 7293034; omega⟩) hS (fun q _ h => hFc q h) hFc (fun r_2 u_9 t H1 locs ht hvm hw hB hz1 hk1 hS => ?_)
  obtain ⟨hP1, -, hD1⟩ := hB
  rw [ht] at hP1
  obtain ⟨hP, hD⟩ := va_join (wr := (w3 a cI cZ nk pa fa nc fo th tg nt tb te tk tt nu ub ue uk ut re ro fu bl go ra rc ex tc es wy) ++ ([(ou, .inl (cJ, 1, .inr (.inl fz)))])) (w1 := w4 b cI cZ 0 nk pa nc fo th tg nt tb4 te4 tk4 tt4 ex tc es wy ab re4 go4 be) hP hD [24, 25, 26, 27, 28, 29, 30, 31, 32, 33, 34, 35, 36] [0, 1, 2, 3, 4, 5, 6, 7, 8, 9, 10, 11, 12, 13, 14, 15, 16, 17, 18, 19, 20, 21, 22, 23, 37] rfl rfl (by decide) (by decide) hk1 hFc hP1 hD1
  generalize H1 = H at hP hS ⊢
  have hP := hP.sub (ws' := (w3 a cI cZ nk pa fa nc fo th tg nt tb te tk tt nu ub ue uk ut re ro fu bl go ra rc ex tc es wy) ++ ((w4 b cI cZ 0 nk pa nc fo th tg nt tb4 te4 tk4 tt4 ex tc es wy ab re4 go4 be) ++ ([(ou, .inl (cJ, 1, .inr (.inl fz)))]))) [0, 1, 2, 3, 4, 5, 6, 7, 8, 9, 10, 11, 12, 13, 14, 15, 16, 17, 18, 19, 20, 21, 22, 23, 25, 26, 27, 28, 29, 30, 31, 32, 33, 34, 35, 36, 37, 24] rfl
  have hD := hD.sub (ws' := (w3 a cI cZ nk pa fa nc fo th tg nt tb te tk tt nu ub ue uk ut re ro fu bl go ra rc ex tc es wy) ++ ((w4 b cI cZ 0 nk pa nc fo th tg nt tb4 te4 tk4 tt4 ex tc es wy ab re4 go4 be) ++ ([(ou, .inl (cJ, 1, .inr (.inl fz)))]))) [0, 1, 2, 3, 4, 5, 6, 7, 8, 9, 10, 11, 12, 13, 14, 15, 16, 17, 18, 19, 20, 21, 22, 23, 25, 26, 27, 28, 29, 30, 31, 32, 33, 34, 35, 36, 37, 24] (by decide) rfl
  have hP : va_P (dC, dI) vwCl ((w3 a cI cZ nk pa fa nc fo th tg nt tb te tk tt nu ub ue uk ut re ro fu bl go ra rc ex tc es wy) ++ ((w4 b cI cZ 0 nk pa nc fo th tg nt tb4 te4 tk4 tt4 ex tc es wy ab re4 go4 be) ++ ([(ou, .inl (cJ, 1, .inr (.inl fz)))]))) H := hP
  have hD : va_D A ((w3 a cI cZ nk pa fa nc fo th tg nt tb te tk tt nu ub ue uk ut re ro fu bl go ra rc ex tc es wy) ++ ((w4 b cI cZ 0 nk pa nc fo th tg nt tb4 te4 tk4 tt4 ex tc es wy ab re4 go4 be) ++ ([(ou, .inl (cJ, 1, .inr (.inl fz)))]))) := hD
  subst hw
  refine lv_icmp_eq (tgt := 1475) hx hb dL_law_1238 (by decide) (fun c_3 => ?_) (fun c_3 => ?_)
  · skip
    skip
    refine W.widen (k := k0 + 100) (n := n0 + 3000) (by omega) (by omega) ?_
    exact K nk pa fa nc fo th tg nt tb te tk tt nu ub ue uk ut re ro fu bl go ra rc ex tc es wy 0 tb4 te4 tk4 tt4 ab re4 go4 be fz T up _ _ _ (by first | assumption | omega) (by first | assumption | omega) (by first | assumption | omega) hP hD hS (lv_sub hl [0, 1, 2, 3, 4] rfl)
  · exact absurd rfl c_3

set_option maxHeartbeats 4000000 in
set_option maxRecDepth 100000 in
theorem lk_21 {p : Program} {e : Env} {s : State} {m : MethodId} {below : List Frame} {meth : Method} {c : Code} {Q : State → Prop} (l : Launch) {sb L : Nat} {xs : Nat → Int32} (dC : Nat → ClassId) (dI : Nat → Nat → Nat) (cI cZ cJ : ClassId) (a b : Nat → Nat) (ou i k0 n0 : Nat) (hF0 : lwF p l s m c sb L xs dC dI cI cZ cJ) (hi : i + 5 ≤ L) (hk0 : k0 + 100 ≤ 601024) (hn0 : n0 + 3000 ≤ 7293034) (nk : Nat) (pa : Nat → Int32) (fa : Nat → Int32) (nc : Nat) (fo : Nat → Int32) (th : Nat → Int32) (tg : Nat → Int32) (nt : Nat) (tb : Nat → Int32) (te : Nat → Int32) (tk : Nat → Int32) (tt : Nat → Int32) (nu : Nat) (ub : Nat → Int32) (ue : Nat → Int32) (uk : Nat → Int32) (ut : Nat → Int32) (re : Nat → Int32) (ro : Nat → Int32) (fu : Nat → Int32) (bl : Nat → Int32) (go : Nat → Int32) (ra : Nat → Int32) (rc : Nat) (ex : Int32) (tc : Int32) (es : Int32) (wy : Int64) (tw : Int32) (tb4 : Nat → Int32) (te4 : Nat → Int32) (tk4 : Nat → Int32) (tt4 : Nat → Int32) (ab : Nat → Int32) (re4 : Nat → Int32) (go4 : Nat → Int32) (be : Nat → Int32) (fz : Nat → Int64) (T : Nat → Nat → Nat) (up : Nat → Nat → Bool) (hg : g3 nk fa up nt tb te tk tt T) (hg4 : g4 nk ab up nt tb4 te4 tk4 tt4 T) (hc : okC nk nc fo th tg) (H : Heap) (locs : List Loc) (ls : Array Slot) (hP : va_P (dC, dI) vwCl ((w3 a cI cZ nk pa fa nc fo th tg nt tb te tk tt nu ub ue uk ut re ro fu bl go ra rc ex tc es wy) ++ ((w4 b cI cZ tw nk pa nc fo th tg nt tb4 te4 tk4 tt4 ex tc es wy ab re4 go4 be) ++ ([(ou, .inl (cJ, 1, .inr (.inl fz)))]))) H) (hD : va_D (fun q => s.heap.size ≤ q) ((w3 a cI cZ nk pa fa nc fo th tg nt tb te tk tt nu ub ue uk ut re ro fu bl go ra rc ex tc es wy) ++ ((w4 b cI cZ tw nk pa nc fo th tg nt tb4 te4 tk4 tt4 ex tc es wy ab re4 go4 be) ++ ([(ou, .inl (cJ, 1, .inr (.inl fz)))])))) (hS : va_S (fun q => s.heap.size ≤ q) s.heap H locs) (hl : lv_has ls 9 [(0, .ref sb), (1, .ref (a 0)), (2, .ref (b 0)), (3, .ref ou), (4, .int (nI i))]) (K : ∀ (nk : Nat) (pa : Nat → Int32) (fa : Nat → Int32) (nc : Nat) (fo : Nat → Int32) (th : Nat → Int32) (tg : Nat → Int32) (nt : Nat) (tb : Nat → Int32) (te : Nat → Int32) (tk : Nat → Int32) (tt : Nat → Int32) (nu : Nat) (ub : Nat → Int32) (ue : Nat → Int32) (uk : Nat → Int32) (ut : Nat → Int32) (re : Nat → Int32) (ro : Nat → Int32) (fu : Nat → Int32) (bl : Nat → Int32) (go : Nat → Int32) (ra : Nat → Int32) (rc : Nat) (ex : Int32) (tc : Int32) (es : Int32) (wy : Int64) (tw : Int32) (tb4 : Nat → Int32) (te4 : Nat → Int32) (tk4 : Nat → Int32) (tt4 : Nat → Int32) (ab : Nat → Int32) (re4 : Nat → Int32) (go4 : Nat → Int32) (be : Nat → Int32) (fz : Nat → Int64) (T : Nat → Nat → Nat) (up : Nat → Nat → Bool) (H : Heap) (locs : List Loc) (ls : Array Slot), g3 nk fa up nt tb te tk tt T → g4 nk ab up nt tb4 te4 tk4 tt4 T → okC nk nc fo th tg → va_P (dC, dI) vwCl ((w3 a cI cZ nk pa fa nc fo th tg nt tb te tk tt nu ub ue uk ut re ro fu bl go ra rc ex tc es wy) ++ ((w4 b cI cZ tw nk pa nc fo th tg nt tb4 te4 tk4 tt4 ex tc es wy ab re4 go4 be) ++ ([(ou, .inl (cJ, 1, .inr (.inl fz)))]))) H → va_D (fun q => s.heap.size ≤ q) ((w3 a cI cZ nk pa fa nc fo th tg nt tb te tk tt nu ub ue uk ut re ro fu bl go ra rc ex tc es wy) ++ ((w4 b cI cZ tw nk pa nc fo th tg nt tb4 te4 tk4 tt4 ex tc es wy ab re4 go4 be) ++ ([(ou, .inl (cJ, 1, .inr (.inl fz)))]))) → va_S (fun q => s.heap.size ≤ q) s.heap H locs → lv_has ls 9 [(0, .ref sb), (1, .ref (a 0)), (2, .ref (b 0)), (3, .ref ou), (4, .int (nI i))] → W p l e room_1 s m #[Value.ref sb] below meth c H locs (k0 + 100) (n0 + 3000) Q (F0 m 1475 ls [])) : W p l e room_1 s m #[Value.ref sb] below meth c H locs k0 n0 Q (F0 m 1243 ls []) := by
  obtain ⟨hx, hb, hml, hown, hts, hX, hbl, hL, hK, hn, hzt, hzu, hzc, hlt⟩ := id hF0
  obtain ⟨A, hAe⟩ : ∃ A : Nat → Prop, A = fun q => s.heap.size ≤ q := ⟨_, rfl⟩
  have hbA : ¬ A sb := by rw [hAe]; exact Nat.not_le.mpr hbl
  have hA : ∀ q : Nat, s.heap.size ≤ q → A q := fun q h => by rw [hAe]; exact h
  rw [← hAe] at hD hS hzu K
  refine lv_aload_n hx hb dL_law_1243 rfl (lv_at hl 1 rfl) ?_
  have hPc := hP.sub (ws' := w3 a cI cZ nk pa fa nc fo th tg nt tb te tk tt nu ub ue uk ut re ro fu bl go ra rc ex tc es wy) [0, 1, 2, 3, 4, 5, 6, 7, 8, 9, 10, 11, 12, 13, 14, 15, 16, 17, 18, 19, 20, 21, 22, 23] rfl
  have hDc := hD.sub (ws' := w3 a cI cZ nk pa fa nc fo th tg nt tb te tk tt nu ub ue uk ut re ro fu bl go ra rc ex tc es wy) [0, 1, 2, 3, 4, 5, 6, 7, 8, 9, 10, 11, 12, 13, 14, 15, 16, 17, 18, 19, 20, 21, 22, 23] (by decide) rfl
  have hFc := va_free (wc := w3 a cI cZ nk pa fa nc fo th tg nt tb te tk tt nu ub ue uk ut re ro fu bl go ra rc ex tc es wy) hD hS hA [0, 1, 2, 3, 4, 5, 6, 7, 8, 9, 10, 11, 12, 13, 14, 15, 16, 17, 18, 19, 20, 21, 22, 23] rfl
  refine va_calli (va_runV (As := []) (rest := []) ⟨hx, hb, hml, hown, hts⟩ (c_X3_drop l dC dI cI cZ cJ a nk pa fa nc fo th tg nt tb te tk tt nu ub ue uk ut re ro fu bl go ra rc ex tc es wy T up H.size (by first | assumption | omega) (by first | assumption | omega)) (cwV 0 hts gL_law_X3_drop rfl rfl rfl (by decide +kernel) ⟨Nat.le_of_ble_eq_true rfl, Nat.le_of_ble_eq_true rfl⟩) ⟨zWr_blind, va_recv hK hPc (ci := 3) (q0 := 0) rfl rfl, zWr_at hPc hK hn (hDc.weaken (fun _ _ _ _ => trivial))⟩ rfl rfl hl.1 rfl (lv_room (Nat.le_of_ble_eq_true rfl)) dL_law_1244 ⟨by show _ ≤ 601024; omega, by show _ ≤ 7293034; omega⟩) hS (fun q _ h => hFc q h) hFc (fun r_1 u_9 t H1 locs ht hvm hw hB hz1 hk1 hS => ?_)
  obtain ⟨re9_1, ro9_2, rc9_3, fu9_4, bl9_5, nt9_6, tb9_7, te9_8, tk9_9, tt9_10⟩ := u_9
  dsimp only at hw hB
  obtain ⟨hP1, -, hD1⟩ := hB
  rw [ht] at hP1
  obtain ⟨hP, hD⟩ := va_join (wr := (w4 b cI cZ tw nk pa nc fo th tg nt tb4 te4 tk4 tt4 ex tc es wy ab re4 go4 be) ++ ([(ou, .inl (cJ, 1, .inr (.inl fz)))])) (w1 := w3 a cI cZ nk pa fa nc fo th tg nt9_6 tb9_7 te9_8 tk9_9 tt9_10 nu ub ue uk ut re9_1 ro9_2 fu9_4 bl9_5 go ra rc9_3 ex tc es wy) hP hD [0, 1, 2, 3, 4, 5, 6, 7, 8, 9, 10, 11, 12, 13, 14, 15, 16, 17, 18, 19, 20, 21, 22, 23] [24, 25, 26, 27, 28, 29, 30, 31, 32, 33, 34, 35, 36, 37] rfl rfl (by decide) (by decide) hk1 hFc hP1 hD1
  generalize H1 = H at hP hS ⊢
  have hP := hP.sub (ws' := (w3 a cI cZ nk pa fa nc fo th tg nt9_6 tb9_7 te9_8 tk9_9 tt9_10 nu ub ue uk ut re9_1 ro9_2 fu9_4 bl9_5 go ra rc9_3 ex tc es wy) ++ ((w4 b cI cZ tw nk pa nc fo th tg nt tb4 te4 tk4 tt4 ex tc es wy ab re4 go4 be) ++ ([(ou, .inl (cJ, 1, .inr (.inl fz)))]))) [14, 15, 16, 17, 18, 19, 20, 21, 22, 23, 24, 25, 26, 27, 28, 29, 30, 31, 32, 33, 34, 35, 36, 37, 0, 1, 2, 3, 4, 5, 6, 7, 8, 9, 10, 11, 12, 13] rfl
  have hD := hD.sub (ws' := (w3 a cI cZ nk pa fa nc fo th tg nt9_6 tb9_7 te9_8 tk9_9 tt9_10 nu ub ue uk ut re9_1 ro9_2 fu9_4 bl9_5 go ra rc9_3 ex tc es wy) ++ ((w4 b cI cZ tw nk pa nc fo th tg nt tb4 te4 tk4 tt4 ex tc es wy ab re4 go4 be) ++ ([(ou, .inl (cJ, 1, .inr (.inl fz)))]))) [14, 15, 16, 17, 18, 19, 20, 21, 22, 23, 24, 25, 26, 27, 28, 29, 30, 31, 32, 33, 34, 35, 36, 37, 0, 1, 2, 3, 4, 5, 6, 7, 8, 9, 10, 11, 12, 13] (by decide) rfl
  have hP : va_P (dC, dI) vwCl ((w3 a cI cZ nk pa fa nc fo th tg nt9_6 tb9_7 te9_8 tk9_9 tt9_10 nu ub ue uk ut re9_1 ro9_2 fu9_4 bl9_5 go ra rc9_3 ex tc es wy) ++ ((w4 b cI cZ tw nk pa nc fo th tg nt tb4 te4 tk4 tt4 ex tc es wy ab re4 go4 be) ++ ([(ou, .inl (cJ, 1, .inr (.inl fz)))]))) H := hP
  have hD : va_D A ((w3 a cI cZ nk pa fa nc fo th tg nt9_6 tb9_7 te9_8 tk9_9 tt9_10 nu ub ue uk ut re9_1 ro9_2 fu9_4 bl9_5 go ra rc9_3 ex tc es wy) ++ ((w4 b cI cZ tw nk pa nc fo th tg nt tb4 te4 tk4 tt4 ex tc es wy ab re4 go4 be) ++ ([(ou, .inl (cJ, 1, .inr (.inl fz)))]))) := hD
  obtain ⟨hw0, hw⟩ := hw
  subst hw0
  rcases hw with ⟨h_12, h_13⟩
  replace h_12 := h_12.symm
  subst h_12
  have hP : va_P (dC, dI) vwCl ((w3 a cI cZ nk pa fa nc fo th tg ((dR nk nc fo th tg up (T, nt)).2) tb9_7 te9_8 tk9_9 tt9_10 nu ub ue uk ut re9_1 ro9_2 fu9_4 bl9_5 go ra rc9_3 ex tc es wy) ++ ((w4 b cI cZ tw nk pa nc fo th tg nt tb4 te4 tk4 tt4 ex tc es wy ab re4 go4 be) ++ ([(ou, .inl (cJ, 1, .inr (.inl fz)))]))) H := hP
  have hD : va_D A ((w3 a cI cZ nk pa fa nc fo th tg ((dR nk nc fo th tg up (T, nt)).2) tb9_7 te9_8 tk9_9 tt9_10 nu ub ue uk ut re9_1 ro9_2 fu9_4 bl9_5 go ra rc9_3 ex tc es wy) ++ ((w4 b cI cZ tw nk pa nc fo th tg nt tb4 te4 tk4 tt4 ex tc es wy ab re4 go4 be) ++ ([(ou, .inl (cJ, 1, .inr (.inl fz)))]))) := hD
  refine lv_aload_n hx hb dL_law_1247 rfl (lv_at hl 2 rfl) ?_
  have hPc := hP.sub (ws' := w4 b cI cZ tw nk pa nc fo th tg nt tb4 te4 tk4 tt4 ex tc es wy ab re4 go4 be) [24, 25, 26, 27, 28, 29, 30, 31, 32, 33, 34, 35, 36] rfl
  have hDc := hD.sub (ws' := w4 b cI cZ tw nk pa nc fo th tg nt tb4 te4 tk4 tt4 ex tc es wy ab re4 go4 be) [24, 25, 26, 27, 28, 29, 30, 31, 32, 33, 34, 35, 36] (by decide) rfl
  have hFc := va_free (wc := w4 b cI cZ tw nk pa nc fo th tg nt tb4 te4 tk4 tt4 ex tc es wy ab re4 go4 be) hD hS hA [24, 25, 26, 27, 28, 29, 30, 31, 32, 33, 34, 35, 36] rfl
  refine va_calli (va_runV (As := []) (rest := [.int (nI (nt - (dR nk nc fo th tg up (T, nt)).2))]) ⟨hx, hb, hml, hown, hts⟩ (c_X4_drop l dC dI cI cZ cJ b tw nk pa nc fo th tg nt tb4 te4 tk4 tt4 ex tc es wy ab re4 go4 be T up H.size (by first | assumption | omega) (by first | assumption | omega)) (cwV 0 hts gL_law_X4_drop rfl rfl rfl (by decide +kernel) ⟨Nat.le_of_ble_eq_true rfl, Nat.le_of_ble_eq_true rfl⟩) ⟨zWr_blind, va_recv hK hPc (ci := 4) (q0 := 0) rfl rfl, zWr_at hPc hK hn (hDc.weaken (fun _ _ _ _ => trivial))⟩ rfl rfl hl.1 rfl (lv_room (Nat.le_of_ble_eq_true rfl)) dL_law_1248 ⟨by show _ ≤ 601024; omega, by show _ ≤ 7293034; omega⟩) hS (fun q _ h => hFc q h) hFc (fun r_14 u_9 t H1 locs ht hvm hw hB hz1 hk1 hS => ?_)
  obtain ⟨re9_14, nt9_15, tb9_16, te9_17, tk9_18, tt9_19⟩ := u_9
  dsimp only at hw hB
  obtain ⟨hP1, -, hD1⟩ := hB
  rw [ht] at hP1
  obtain ⟨hP, hD⟩ := va_join (wr := (w3 a cI cZ nk pa fa nc fo th tg ((dR nk nc fo th tg up (T, nt)).2) tb9_7 te9_8 tk9_9 tt9_10 nu ub ue uk ut re9_1 ro9_2 fu9_4 bl9_5 go ra rc9_3 ex tc es wy) ++ ([(ou, .inl (cJ, 1, .inr (.inl fz)))])) (w1 := w4 b cI cZ 0 nk pa nc fo th tg nt9_15 tb9_16 te9_17 tk9_18 tt9_19 ex tc es wy ab re9_14 go4 be) hP hD [24, 25, 26, 27, 28, 29, 30, 31, 32, 33, 34, 35, 36] [0, 1, 2, 3, 4, 5, 6, 7, 8, 9, 10, 11, 12, 13, 14, 15, 16, 17, 18, 19, 20, 21, 22, 23, 37] rfl rfl (by decide) (by decide) hk1 hFc hP1 hD1
  generalize H1 = H at hP hS ⊢
  have hP := hP.sub (ws' := (w3 a cI cZ nk pa fa nc fo th tg ((dR nk nc fo th tg up (T, nt)).2) tb9_7 te9_8 tk9_9 tt9_10 nu ub ue uk ut re9_1 ro9_2 fu9_4 bl9_5 go ra rc9_3 ex tc es wy) ++ ((w4 b cI cZ 0 nk pa nc fo th tg nt9_15 tb9_16 te9_17 tk9_18 tt9_19 ex tc es wy ab re9_14 go4 be) ++ ([(ou, .inl (cJ, 1, .inr (.inl fz)))]))) [0, 1, 2, 3, 4, 5, 6, 7, 8, 9, 10, 11, 12, 13, 14, 15, 16, 17, 18, 19, 20, 21, 22, 23, 25, 26, 27, 28, 29, 30, 31, 32, 33, 34, 35, 36, 37, 24] rfl
  have hD := hD.sub (ws' := (w3 a cI cZ nk pa fa nc fo th tg ((dR nk nc fo th tg up (T, nt)).2) tb9_7 te9_8 tk9_9 tt9_10 nu ub ue uk ut re9_1 ro9_2 fu9_4 bl9_5 go ra rc9_3 ex tc es wy) ++ ((w4 b cI cZ 0 nk pa nc fo th tg nt9_15 tb9_16 te9_17 tk9_18 tt9_19 ex tc es wy ab re9_14 go4 be) ++ ([(ou, .inl (cJ, 1, .inr (.inl fz)))]))) [0, 1, 2, 3, 4, 5, 6, 7, 8, 9, 10, 11, 12, 13, 14, 15, 16, 17, 18, 19, 20, 21, 22, 23, 25, 26, 27, 28, 29, 30, 31, 32, 33, 34, 35, 36, 37, 24] (by decide) rfl
  have hP : va_P (dC, dI) vwCl ((w3 a cI cZ nk pa fa nc fo th tg ((dR nk nc fo th tg up (T, nt)).2) tb9_7 te9_8 tk9_9 tt9_10 nu ub ue uk ut re9_1 ro9_2 fu9_4 bl9_5 go ra rc9_3 ex tc es wy) ++ ((w4 b cI cZ 0 nk pa nc fo th tg nt9_15 tb9_16 te9_17 tk9_18 tt9_19 ex tc es wy ab re9_14 go4 be) ++ ([(ou, .inl (cJ, 1, .inr (.inl fz)))]))) H := hP
  have hD : va_D A ((w3 a cI cZ nk pa fa nc fo th tg ((dR nk nc fo th tg up (T, nt)).2) tb9_7 te9_8 tk9_9 tt9_10 nu ub ue uk ut re9_1 ro9_2 fu9_4 bl9_5 go ra rc9_3 ex tc es wy) ++ ((w4 b cI cZ 0 nk pa nc fo th tg nt9_15 tb9_16 te9_17 tk9_18 tt9_19 ex tc es wy ab re9_14 go4 be) ++ ([(ou, .inl (cJ, 1, .inr (.inl fz)))]))) := hD
  refine W.widen (k := k0 + 1) (n := n0 + 24) (by omega) (by omega) ?_
  obtain ⟨hw0, hw⟩ := hw
  subst hw0
  rcases hw with ⟨h_21, h_22⟩
  replace h_21 := h_21.symm
  subst h_21
  have hP : va_P (dC, dI) vwCl ((w3 a cI cZ nk pa fa nc fo th tg ((dR nk nc fo th tg up (T, nt)).2) tb9_7 te9_8 tk9_9 tt9_10 nu ub ue uk ut re9_1 ro9_2 fu9_4 bl9_5 go ra rc9_3 ex tc es wy) ++ ((w4 b cI cZ 0 nk pa nc fo th tg ((dR nk nc fo th tg up (T, nt)).2) tb9_16 te9_17 tk9_18 tt9_19 ex tc es wy ab re9_14 go4 be) ++ ([(ou, .inl (cJ, 1, .inr (.inl fz)))]))) H := hP
  have hD : va_D A ((w3 a cI cZ nk pa fa nc fo th tg ((dR nk nc fo th tg up (T, nt)).2) tb9_7 te9_8 tk9_9 tt9_10 nu ub ue uk ut re9_1 ro9_2 fu9_4 bl9_5 go ra rc9_3 ex tc es wy) ++ ((w4 b cI cZ 0 nk pa nc fo th tg ((dR nk nc fo th tg up (T, nt)).2) tb9_16 te9_17 tk9_18 tt9_19 ex tc es wy ab re9_14 go4 be) ++ ([(ou, .inl (cJ, 1, .inr (.inl fz)))]))) := hD
  refine lv_icmp_eq (tgt := 1475) hx hb dL_law_1251 (by decide) (fun c_23 => ?_) (fun c_23 => ?_)
  · skip
    skip
    refine W.widen (k := k0 + 100) (n := n0 + 3000) (by omega) (by omega) ?_
    exact K nk pa fa nc fo th tg ((dR nk nc fo th tg up (T, nt)).2) tb9_7 te9_8 tk9_9 tt9_10 nu ub ue uk ut re9_1 ro9_2 fu9_4 bl9_5 go ra rc9_3 ex tc es wy 0 tb9_16 te9_17 tk9_18 tt9_19 ab re9_14 go4 be fz ((dR nk nc fo th tg up (T, nt)).1) up _ _ _ (by first | assumption | omega) (by first | assumption | omega) (by first | assumption | omega) hP hD hS (lv_sub hl [0, 1, 2, 3, 4] rfl)
  · exact absurd rfl c_23

set_option maxHeartbeats 4000000 in
set_option maxRecDepth 100000 in
theorem lk_22 {p : Program} {e : Env} {s : State} {m : MethodId} {below : List Frame} {meth : Method} {c : Code} {Q : State → Prop} (l : Launch) {sb L : Nat} {xs : Nat → Int32} (dC : Nat → ClassId) (dI : Nat → Nat → Nat) (cI cZ cJ : ClassId) (a b : Nat → Nat) (ou i k0 n0 : Nat) (hF0 : lwF p l s m c sb L xs dC dI cI cZ cJ) (hi : i + 5 ≤ L) (hk0 : k0 + 100 ≤ 601024) (hn0 : n0 + 3000 ≤ 7293034) (nk : Nat) (pa : Nat → Int32) (fa : Nat → Int32) (nc : Nat) (fo : Nat → Int32) (th : Nat → Int32) (tg : Nat → Int32) (nt : Nat) (tb : Nat → Int32) (te : Nat → Int32) (tk : Nat → Int32) (tt : Nat → Int32) (nu : Nat) (ub : Nat → Int32) (ue : Nat → Int32) (uk : Nat → Int32) (ut : Nat → Int32) (re : Nat → Int32) (ro : Nat → Int32) (fu : Nat → Int32) (bl : Nat → Int32) (go : Nat → Int32) (ra : Nat → Int32) (rc : Nat) (ex : Int32) (tc : Int32) (es : Int32) (wy : Int64) (tw : Int32) (tb4 : Nat → Int32) (te4 : Nat → Int32) (tk4 : Nat → Int32) (tt4 : Nat → Int32) (ab : Nat → Int32) (re4 : Nat → Int32) (go4 : Nat → Int32) (be : Nat → Int32) (fz : Nat → Int64) (T : Nat → Nat → Nat) (up : Nat → Nat → Bool) (hg : g3 nk fa up nt tb te tk tt T) (hg4 : g4 nk ab up nt tb4 te4 tk4 tt4 T) (hc : okC nk nc fo th tg) (H : Heap) (locs : List Loc) (ls : Array Slot) (hP : va_P (dC, dI) vwCl ((w3 a cI cZ nk pa fa nc fo th tg nt tb te tk tt nu ub ue uk ut re ro fu bl go ra rc ex tc es wy) ++ ((w4 b cI cZ tw nk pa nc fo th tg nt tb4 te4 tk4 tt4 ex tc es wy ab re4 go4 be) ++ ([(ou, .inl (cJ, 1, .inr (.inl fz)))]))) H) (hD : va_D (fun q => s.heap.size ≤ q) ((w3 a cI cZ nk pa fa nc fo th tg nt tb te tk tt nu ub ue uk ut re ro fu bl go ra rc ex tc es wy) ++ ((w4 b cI cZ tw nk pa nc fo th tg nt tb4 te4 tk4 tt4 ex tc es wy ab re4 go4 be) ++ ([(ou, .inl (cJ, 1, .inr (.inl fz)))])))) (hS : va_S (fun q => s.heap.size ≤ q) s.heap H locs) (hl : lv_has ls 9 [(0, .ref sb), (1, .ref (a 0)), (2, .ref (b 0)), (3, .ref ou), (4, .int (nI i))]) (K : ∀ (nk : Nat) (pa : Nat → Int32) (fa : Nat → Int32) (nc : Nat) (fo : Nat → Int32) (th : Nat → Int32) (tg : Nat → Int32) (nt : Nat) (tb : Nat → Int32) (te : Nat → Int32) (tk : Nat → Int32) (tt : Nat → Int32) (nu : Nat) (ub : Nat → Int32) (ue : Nat → Int32) (uk : Nat → Int32) (ut : Nat → Int32) (re : Nat → Int32) (ro : Nat → Int32) (fu : Nat → Int32) (bl : Nat → Int32) (go : Nat → Int32) (ra : Nat → Int32) (rc : Nat) (ex : Int32) (tc : Int32) (es : Int32) (wy : Int64) (tw : Int32) (tb4 : Nat → Int32) (te4 : Nat → Int32) (tk4 : Nat → Int32) (tt4 : Nat → Int32) (ab : Nat → Int32) (re4 : Nat → Int32) (go4 : Nat → Int32) (be : Nat → Int32) (fz : Nat → Int64) (T : Nat → Nat → Nat) (up : Nat → Nat → Bool) (H : Heap) (locs : List Loc) (ls : Array Slot), g3 nk fa up nt tb te tk tt T → g4 nk ab up nt tb4 te4 tk4 tt4 T → okC nk nc fo th tg → va_P (dC, dI) vwCl ((w3 a cI cZ nk pa fa nc fo th tg nt tb te tk tt nu ub ue uk ut re ro fu bl go ra rc ex tc es wy) ++ ((w4 b cI cZ tw nk pa nc fo th tg nt tb4 te4 tk4 tt4 ex tc es wy ab re4 go4 be) ++ ([(ou, .inl (cJ, 1, .inr (.inl fz)))]))) H → va_D (fun q => s.heap.size ≤ q) ((w3 a cI cZ nk pa fa nc fo th tg nt tb te tk tt nu ub ue uk ut re ro fu bl go ra rc ex tc es wy) ++ ((w4 b cI cZ tw nk pa nc fo th tg nt tb4 te4 tk4 tt4 ex tc es wy ab re4 go4 be) ++ ([(ou, .inl (cJ, 1, .inr (.inl fz)))]))) → va_S (fun q => s.heap.size ≤ q) s.heap H locs → lv_has ls 9 [(0, .ref sb), (1, .ref (a 0)), (2, .ref (b 0)), (3, .ref ou), (4, .int (nI i))] → W p l e room_1 s m #[Value.ref sb] below meth c H locs (k0 + 100) (n0 + 3000) Q (F0 m 1475 ls [])) : W p l e room_1 s m #[Value.ref sb] below meth c H locs k0 n0 Q (F0 m 1256 ls []) := by
  obtain ⟨hx, hb, hml, hown, hts, hX, hbl, hL, hK, hn, hzt, hzu, hzc, hlt⟩ := id hF0
  obtain ⟨A, hAe⟩ : ∃ A : Nat → Prop, A = fun q => s.heap.size ≤ q := ⟨_, rfl⟩
  have hbA : ¬ A sb := by rw [hAe]; exact Nat.not_le.mpr hbl
  have hA : ∀ q : Nat, s.heap.size ≤ q → A q := fun q h => by rw [hAe]; exact h
  rw [← hAe] at hD hS hzu K
  refine lv_aload_n hx hb dL_law_1256 rfl (lv_at hl 1 rfl) ?_
  have hPc := hP.sub (ws' := w3 a cI cZ nk pa fa nc fo th tg nt tb te tk tt nu ub ue uk ut re ro fu bl go ra rc ex tc es wy) [0, 1, 2, 3, 4, 5, 6, 7, 8, 9, 10, 11, 12, 13, 14, 15, 16, 17, 18, 19, 20, 21, 22, 23] rfl
  have hDc := hD.sub (ws' := w3 a cI cZ nk pa fa nc fo th tg nt tb te tk tt nu ub ue uk ut re ro fu bl go ra rc ex tc es wy) [0, 1, 2, 3, 4, 5, 6, 7, 8, 9, 10, 11, 12, 13, 14, 15, 16, 17, 18, 19, 20, 21, 22, 23] (by decide) rfl
  have hFc := va_free (wc := w3 a cI cZ nk pa fa nc fo th tg nt tb te tk tt nu ub ue uk ut re ro fu bl go ra rc ex tc es wy) hD hS hA [0, 1, 2, 3, 4, 5, 6, 7, 8, 9, 10, 11, 12, 13, 14, 15, 16, 17, 18, 19, 20, 21, 22, 23] rfl
  refine va_calli (va_runV (As := []) (rest := []) ⟨hx, hb, hml, hown, hts⟩ (c_X3_shrink l dC dI cI cZ cJ a nk pa fa nc fo th tg nt tb te tk tt nu ub ue uk ut re ro fu bl go ra rc ex tc es wy T up H.size (by first | assumption | omega) (by first | assumption | omega)) (cwV 0 hts gL_law_X3_shrink rfl rfl rfl (by decide +kernel) ⟨Nat.le_of_ble_eq_true rfl, Nat.le_of_ble_eq_true rfl⟩) ⟨zWr_blind, va_recv hK hPc (ci := 3) (q0 := 0) rfl rfl, zWr_at hPc hK hn (hDc.weaken (fun _ _ _ _ => trivial))⟩ rfl rfl hl.1 rfl (lv_room (Nat.le_of_ble_eq_true rfl)) dL_law_1257 ⟨by show _ ≤ 601024; omega, by show _ ≤ 7293034; omega⟩) hS (fun q _ h => hFc q h) hFc (fun r_1 u_9 t H1 locs ht hvm hw hB hz1 hk1 hS => ?_)
  obtain ⟨re9_1, ro9_2, rc9_3, fu9_4, bl9_5, tb9_6, te9_7⟩ := u_9
  dsimp only at hw hB
  obtain ⟨hP1, -, hD1⟩ := hB
  rw [ht] at hP1
  obtain ⟨hP, hD⟩ := va_join (wr := (w4 b cI cZ tw nk pa nc fo th tg nt tb4 te4 tk4 tt4 ex tc es wy ab re4 go4 be) ++ ([(ou, .inl (cJ, 1, .inr (.inl fz)))])) (w1 := w3 a cI cZ nk pa fa nc fo th tg nt tb9_6 te9_7 tk tt nu ub ue uk ut re9_1 ro9_2 fu9_4 bl9_5 go ra rc9_3 ex tc es wy) hP hD [0, 1, 2, 3, 4, 5, 6, 7, 8, 9, 10, 11, 12, 13, 14, 15, 16, 17, 18, 19, 20, 21, 22, 23] [24, 25, 26, 27, 28, 29, 30, 31, 32, 33, 34, 35, 36, 37] rfl rfl (by decide) (by decide) hk1 hFc hP1 hD1
  generalize H1 = H at hP hS ⊢
  have hP := hP.sub (ws' := (w3 a cI cZ nk pa fa nc fo th tg nt tb9_6 te9_7 tk tt nu ub ue uk ut re9_1 ro9_2 fu9_4 bl9_5 go ra rc9_3 ex tc es wy) ++ ((w4 b cI cZ tw nk pa nc fo th tg nt tb4 te4 tk4 tt4 ex tc es wy ab re4 go4 be) ++ ([(ou, .inl (cJ, 1, .inr (.inl fz)))]))) [14, 15, 16, 17, 18, 19, 20, 21, 22, 23, 24, 25, 26, 27, 28, 29, 30, 31, 32, 33, 34, 35, 36, 37, 0, 1, 2, 3, 4, 5, 6, 7, 8, 9, 10, 11, 12, 13] rfl
  have hD := hD.sub (ws' := (w3 a cI cZ nk pa fa nc fo th tg nt tb9_6 te9_7 tk tt nu ub ue uk ut re9_1 ro9_2 fu9_4 bl9_5 go ra rc9_3 ex tc es wy) ++ ((w4 b cI cZ tw nk pa nc fo th tg nt tb4 te4 tk4 tt4 ex tc es wy ab re4 go4 be) ++ ([(ou, .inl (cJ, 1, .inr (.inl fz)))]))) [14, 15, 16, 17, 18, 19, 20, 21, 22, 23, 24, 25, 26, 27, 28, 29, 30, 31, 32, 33, 34, 35, 36, 37, 0, 1, 2, 3, 4, 5, 6, 7, 8, 9, 10, 11, 12, 13] (by decide) rfl
  have hP : va_P (dC, dI) vwCl ((w3 a cI cZ nk pa fa nc fo th tg nt tb9_6 te9_7 tk tt nu ub ue uk ut re9_1 ro9_2 fu9_4 bl9_5 go ra rc9_3 ex tc es wy) ++ ((w4 b cI cZ tw nk pa nc fo th tg nt tb4 te4 tk4 tt4 ex tc es wy ab re4 go4 be) ++ ([(ou, .inl (cJ, 1, .inr (.inl fz)))]))) H := hP
  have hD : va_D A ((w3 a cI cZ nk pa fa nc fo th tg nt tb9_6 te9_7 tk tt nu ub ue uk ut re9_1 ro9_2 fu9_4 bl9_5 go ra rc9_3 ex tc es wy) ++ ((w4 b cI cZ tw nk pa nc fo th tg nt tb4 te4 tk4 tt4 ex tc es wy ab re4 go4 be) ++ ([(ou, .inl (cJ, 1, .inr (.inl fz)))]))) := hD
  obtain ⟨hw0, hw⟩ := hw
  subst hw0
  have h_9 := hw
  have hP : va_P (dC, dI) vwCl ((w3 a cI cZ nk pa fa nc fo th tg nt tb9_6 te9_7 tk tt nu ub ue uk ut re9_1 ro9_2 fu9_4 bl9_5 go ra rc9_3 ex tc es wy) ++ ((w4 b cI cZ tw nk pa nc fo th tg nt tb4 te4 tk4 tt4 ex tc es wy ab re4 go4 be) ++ ([(ou, .inl (cJ, 1, .inr (.inl fz)))]))) H := hP
  have hD : va_D A ((w3 a cI cZ nk pa fa nc fo th tg nt tb9_6 te9_7 tk tt nu ub ue uk ut re9_1 ro9_2 fu9_4 bl9_5 go ra rc9_3 ex tc es wy) ++ ((w4 b cI cZ tw nk pa nc fo th tg nt tb4 te4 tk4 tt4 ex tc es wy ab re4 go4 be) ++ ([(ou, .inl (cJ, 1, .inr (.inl fz)))]))) := hD
  refine lv_aload_n hx hb dL_law_1260 rfl (lv_at hl 2 rfl) ?_
  have hPc := hP.sub (ws' := w4 b cI cZ tw nk pa nc fo th tg nt tb4 te4 tk4 tt4 ex tc es wy ab re4 go4 be) [24, 25, 26, 27, 28, 29, 30, 31, 32, 33, 34, 35, 36] rfl
  have hDc := hD.sub (ws' := w4 b cI cZ tw nk pa nc fo th tg nt tb4 te4 tk4 tt4 ex tc es wy ab re4 go4 be) [24, 25, 26, 27, 28, 29, 30, 31, 32, 33, 34, 35, 36] (by decide) rfl
  have hFc := va_free (wc := w4 b cI cZ tw nk pa nc fo th tg nt tb4 te4 tk4 tt4 ex tc es wy ab re4 go4 be) hD hS hA [24, 25, 26, 27, 28, 29, 30, 31, 32, 33, 34, 35, 36] rfl
  refine va_calli (va_runV (As := []) (rest := [.int (nI (sRc nk nc fo th tg up (T, nt)))]) ⟨hx, hb, hml, hown, hts⟩ (c_X4_shrink l dC dI cI cZ cJ b tw nk pa nc fo th tg nt tb4 te4 tk4 tt4 ex tc es wy ab re4 go4 be T up H.size (by first | assumption | omega) (by first | assumption | omega)) (cwV 0 hts gL_law_X4_shrink rfl rfl rfl (by decide +kernel) ⟨Nat.le_of_ble_eq_true rfl, Nat.le_of_ble_eq_true rfl⟩) ⟨zWr_blind, va_recv hK hPc (ci := 4) (q0 := 0) rfl rfl, zWr_at hPc hK hn (hDc.weaken (fun _ _ _ _ => trivial))⟩ rfl rfl hl.1 rfl (lv_room (Nat.le_of_ble_eq_true rfl)) dL_law_1261 ⟨by show _ ≤ 601024; omega, by show _ ≤ 7293034; omega⟩) hS (fun q _ h => hFc q h) hFc (fun r_10 u_9 t H1 locs ht hvm hw hB hz1 hk1 hS => ?_)
  obtain ⟨re9_10, tb9_11, te9_12⟩ := u_9
  dsimp only at hw hB
  obtain ⟨hP1, -, hD1⟩ := hB
  rw [ht] at hP1
  obtain ⟨hP, hD⟩ := va_join (wr := (w3 a cI cZ nk pa fa nc fo th tg nt tb9_6 te9_7 tk tt nu ub ue uk ut re9_1 ro9_2 fu9_4 bl9_5 go ra rc9_3 ex tc es wy) ++ ([(ou, .inl (cJ, 1, .inr (.inl fz)))])) (w1 := w4 b cI cZ 0 nk pa nc fo th tg nt tb9_11 te9_12 tk4 tt4 ex tc es wy ab re9_10 go4 be) hP hD [24, 25, 26, 27, 28, 29, 30, 31, 32, 33, 34, 35, 36] [0, 1, 2, 3, 4, 5, 6, 7, 8, 9, 10, 11, 12, 13, 14, 15, 16, 17, 18, 19, 20, 21, 22, 23, 37] rfl rfl (by decide) (by decide) hk1 hFc hP1 hD1
  generalize H1 = H at hP hS ⊢
  have hP := hP.sub (ws' := (w3 a cI cZ nk pa fa nc fo th tg nt tb9_6 te9_7 tk tt nu ub ue uk ut re9_1 ro9_2 fu9_4 bl9_5 go ra rc9_3 ex tc es wy) ++ ((w4 b cI cZ 0 nk pa nc fo th tg nt tb9_11 te9_12 tk4 tt4 ex tc es wy ab re9_10 go4 be) ++ ([(ou, .inl (cJ, 1, .inr (.inl fz)))]))) [0, 1, 2, 3, 4, 5, 6, 7, 8, 9, 10, 11, 12, 13, 14, 15, 16, 17, 18, 19, 20, 21, 22, 23, 25, 26, 27, 28, 29, 30, 31, 32, 33, 34, 35, 36, 37, 24] rfl
  have hD := hD.sub (ws' := (w3 a cI cZ nk pa fa nc fo th tg nt tb9_6 te9_7 tk tt nu ub ue uk ut re9_1 ro9_2 fu9_4 bl9_5 go ra rc9_3 ex tc es wy) ++ ((w4 b cI cZ 0 nk pa nc fo th tg nt tb9_11 te9_12 tk4 tt4 ex tc es wy ab re9_10 go4 be) ++ ([(ou, .inl (cJ, 1, .inr (.inl fz)))]))) [0, 1, 2, 3, 4, 5, 6, 7, 8, 9, 10, 11, 12, 13, 14, 15, 16, 17, 18, 19, 20, 21, 22, 23, 25, 26, 27, 28, 29, 30, 31, 32, 33, 34, 35, 36, 37, 24] (by decide) rfl
  have hP : va_P (dC, dI) vwCl ((w3 a cI cZ nk pa fa nc fo th tg nt tb9_6 te9_7 tk tt nu ub ue uk ut re9_1 ro9_2 fu9_4 bl9_5 go ra rc9_3 ex tc es wy) ++ ((w4 b cI cZ 0 nk pa nc fo th tg nt tb9_11 te9_12 tk4 tt4 ex tc es wy ab re9_10 go4 be) ++ ([(ou, .inl (cJ, 1, .inr (.inl fz)))]))) H := hP
  have hD : va_D A ((w3 a cI cZ nk pa fa nc fo th tg nt tb9_6 te9_7 tk tt nu ub ue uk ut re9_1 ro9_2 fu9_4 bl9_5 go ra rc9_3 ex tc es wy) ++ ((w4 b cI cZ 0 nk pa nc fo th tg nt tb9_11 te9_12 tk4 tt4 ex tc es wy ab re9_10 go4 be) ++ ([(ou, .inl (cJ, 1, .inr (.inl fz)))]))) := hD
  refine W.widen (k := k0 + 2) (n := n0 + 48) (by omega) (by omega) ?_
  obtain ⟨hw0, hw⟩ := hw
  subst hw0
  have h_14 := hw
  have hP : va_P (dC, dI) vwCl ((w3 a cI cZ nk pa fa nc fo th tg nt tb9_6 te9_7 tk tt nu ub ue uk ut re9_1 ro9_2 fu9_4 bl9_5 go ra rc9_3 ex tc es wy) ++ ((w4 b cI cZ 0 nk pa nc fo th tg nt tb9_11 te9_12 tk4 tt4 ex tc es wy ab re9_10 go4 be) ++ ([(ou, .inl (cJ, 1, .inr (.inl fz)))]))) H := hP
  have hD : va_D A ((w3 a cI cZ nk pa fa nc fo th tg nt tb9_6 te9_7 tk tt nu ub ue uk ut re9_1 ro9_2 fu9_4 bl9_5 go ra rc9_3 ex tc es wy) ++ ((w4 b cI cZ 0 nk pa nc fo th tg nt tb9_11 te9_12 tk4 tt4 ex tc es wy ab re9_10 go4 be) ++ ([(ou, .inl (cJ, 1, .inr (.inl fz)))]))) := hD
  refine lv_icmp_eq (tgt := 1475) hx hb dL_law_1264 (by decide) (fun c_15 => ?_) (fun c_15 => ?_)
  · skip
    skip
    refine W.widen (k := k0 + 100) (n := n0 + 3000) (by omega) (by omega) ?_
    exact K nk pa fa nc fo th tg nt tb9_6 te9_7 tk tt nu ub ue uk ut re9_1 ro9_2 fu9_4 bl9_5 go ra rc9_3 ex tc es wy 0 tb9_11 te9_12 tk4 tt4 ab re9_10 go4 be fz ((sR nk nc fo th tg up (T, nt)).1) up _ _ _ (by first | assumption | omega) (by first | assumption | omega) (by first | assumption | omega) hP hD hS (lv_sub hl [0, 1, 2, 3, 4] rfl)
  · exact absurd rfl c_15

set_option maxHeartbeats 4000000 in
set_option maxRecDepth 100000 in
theorem lk_23 {p : Program} {e : Env} {s : State} {m : MethodId} {below : List Frame} {meth : Method} {c : Code} {Q : State → Prop} (l : Launch) {sb L : Nat} {xs : Nat → Int32} (dC : Nat → ClassId) (dI : Nat → Nat → Nat) (cI cZ cJ : ClassId) (a b : Nat → Nat) (ou i k0 n0 : Nat) (hF0 : lwF p l s m c sb L xs dC dI cI cZ cJ) (hi : i + 5 ≤ L) (hk0 : k0 + 100 ≤ 601024) (hn0 : n0 + 3000 ≤ 7293034) (nk : Nat) (pa : Nat → Int32) (fa : Nat → Int32) (nc : Nat) (fo : Nat → Int32) (th : Nat → Int32) (tg : Nat → Int32) (nt : Nat) (tb : Nat → Int32) (te : Nat → Int32) (tk : Nat → Int32) (tt : Nat → Int32) (nu : Nat) (ub : Nat → Int32) (ue : Nat → Int32) (uk : Nat → Int32) (ut : Nat → Int32) (re : Nat → Int32) (ro : Nat → Int32) (fu : Nat → Int32) (bl : Nat → Int32) (go : Nat → Int32) (ra : Nat → Int32) (rc : Nat) (ex : Int32) (tc : Int32) (es : Int32) (wy : Int64) (tw : Int32) (tb4 : Nat → Int32) (te4 : Nat → Int32) (tk4 : Nat → Int32) (tt4 : Nat → Int32) (ab : Nat → Int32) (re4 : Nat → Int32) (go4 : Nat → Int32) (be : Nat → Int32) (fz : Nat → Int64) (T : Nat → Nat → Nat) (up : Nat → Nat → Bool) (hg : g3 nk fa up nt tb te tk tt T) (hg4 : g4 nk ab up nt tb4 te4 tk4 tt4 T) (hc : okC nk nc fo th tg) (H : Heap) (locs : List Loc) (ls : Array Slot) (hP : va_P (dC, dI) vwCl ((w3 a cI cZ nk pa fa nc fo th tg nt tb te tk tt nu ub ue uk ut re ro fu bl go ra rc ex tc es wy) ++ ((w4 b cI cZ tw nk pa nc fo th tg nt tb4 te4 tk4 tt4 ex tc es wy ab re4 go4 be) ++ ([(ou, .inl (cJ, 1, .inr (.inl fz)))]))) H) (hD : va_D (fun q => s.heap.size ≤ q) ((w3 a cI cZ nk pa fa nc fo th tg nt tb te tk tt nu ub ue uk ut re ro fu bl go ra rc ex tc es wy) ++ ((w4 b cI cZ tw nk pa nc fo th tg nt tb4 te4 tk4 tt4 ex tc es wy ab re4 go4 be) ++ ([(ou, .inl (cJ, 1, .inr (.inl fz)))])))) (hS : va_S (fun q => s.heap.size ≤ q) s.heap H locs) (hl : lv_has ls 9 [(0, .ref sb), (1, .ref (a 0)), (2, .ref (b 0)), (3, .ref ou), (4, .int (nI i))]) (K : ∀ (nk : Nat) (pa : Nat → Int32) (fa : Nat → Int32) (nc : Nat) (fo : Nat → Int32) (th : Nat → Int32) (tg : Nat → Int32) (nt : Nat) (tb : Nat → Int32) (te : Nat → Int32) (tk : Nat → Int32) (tt : Nat → Int32) (nu : Nat) (ub : Nat → Int32) (ue : Nat → Int32) (uk : Nat → Int32) (ut : Nat → Int32) (re : Nat → Int32) (ro : Nat → Int32) (fu : Nat → Int32) (bl : Nat → Int32) (go : Nat → Int32) (ra : Nat → Int32) (rc : Nat) (ex : Int32) (tc : Int32) (es : Int32) (wy : Int64) (tw : Int32) (tb4 : Nat → Int32) (te4 : Nat → Int32) (tk4 : Nat → Int32) (tt4 : Nat → Int32) (ab : Nat → Int32) (re4 : Nat → Int32) (go4 : Nat → Int32) (be : Nat → Int32) (fz : Nat → Int64) (T : Nat → Nat → Nat) (up : Nat → Nat → Bool) (H : Heap) (locs : List Loc) (ls : Array Slot), g3 nk fa up nt tb te tk tt T → g4 nk ab up nt tb4 te4 tk4 tt4 T → okC nk nc fo th tg → va_P (dC, dI) vwCl ((w3 a cI cZ nk pa fa nc fo th tg nt tb te tk tt nu ub ue uk ut re ro fu bl go ra rc ex tc es wy) ++ ((w4 b cI cZ tw nk pa nc fo th tg nt tb4 te4 tk4 tt4 ex tc es wy ab re4 go4 be) ++ ([(ou, .inl (cJ, 1, .inr (.inl fz)))]))) H → va_D (fun q => s.heap.size ≤ q) ((w3 a cI cZ nk pa fa nc fo th tg nt tb te tk tt nu ub ue uk ut re ro fu bl go ra rc ex tc es wy) ++ ((w4 b cI cZ tw nk pa nc fo th tg nt tb4 te4 tk4 tt4 ex tc es wy ab re4 go4 be) ++ ([(ou, .inl (cJ, 1, .inr (.inl fz)))]))) → va_S (fun q => s.heap.size ≤ q) s.heap H locs → lv_has ls 9 [(0, .ref sb), (1, .ref (a 0)), (2, .ref (b 0)), (3, .ref ou), (4, .int (nI i))] → W p l e room_1 s m #[Value.ref sb] below meth c H locs (k0 + 100) (n0 + 3000) Q (F0 m 1475 ls [])) : W p l e room_1 s m #[Value.ref sb] below meth c H locs k0 n0 Q (F0 m 1269 ls []) := by
  obtain ⟨hx, hb, hml, hown, hts, hX, hbl, hL, hK, hn, hzt, hzu, hzc, hlt⟩ := id hF0
  obtain ⟨A, hAe⟩ : ∃ A : Nat → Prop, A = fun q => s.heap.size ≤ q := ⟨_, rfl⟩
  have hbA : ¬ A sb := by rw [hAe]; exact Nat.not_le.mpr hbl
  have hA : ∀ q : Nat, s.heap.size ≤ q → A q := fun q h => by rw [hAe]; exact h
  rw [← hAe] at hD hS hzu K
  refine lv_aload_n hx hb dL_law_1269 rfl (lv_at hl 1 rfl) ?_
  have hPc := hP.sub (ws' := w3 a cI cZ nk pa fa nc fo th tg nt tb te tk tt nu ub ue uk ut re ro fu bl go ra rc ex tc es wy) [0, 1, 2, 3, 4, 5, 6, 7, 8, 9, 10, 11, 12, 13, 14, 15, 16, 17, 18, 19, 20, 21, 22, 23] rfl
  have hDc := hD.sub (ws' := w3 a cI cZ nk pa fa nc fo th tg nt tb te tk tt nu ub ue uk ut re ro fu bl go ra rc ex tc es wy) [0, 1, 2, 3, 4, 5, 6, 7, 8, 9, 10, 11, 12, 13, 14, 15, 16, 17, 18, 19, 20, 21, 22, 23] (by decide) rfl
  have hFc := va_free (wc := w3 a cI cZ nk pa fa nc fo th tg nt tb te tk tt nu ub ue uk ut re ro fu bl go ra rc ex tc es wy) hD hS hA [0, 1, 2, 3, 4, 5, 6, 7, 8, 9, 10, 11, 12, 13, 14, 15, 16, 17, 18, 19, 20, 21, 22, 23] rfl
  refine va_calli (va_runV (As := []) (rest := []) ⟨hx, hb, hml, hown, hts⟩ (c_X3_join l dC dI cI cZ cJ a nk pa fa nc fo th tg nt tb te tk tt nu ub ue uk ut re ro fu bl go ra rc ex tc es wy T up H.size (by first | assumption | omega) (by first | assumption | omega)) (cwV 0 hts gL_law_X3_join rfl rfl rfl (by decide +kernel) ⟨Nat.le_of_ble_eq_true rfl, Nat.le_of_ble_eq_true rfl⟩) ⟨zWr_blind, va_recv hK hPc (ci := 3) (q0 := 0) rfl rfl, zWr_at hPc hK hn (hDc.weaken (fun _ _ _ _ => trivial))⟩ rfl rfl hl.1 rfl (lv_room (Nat.le_of_ble_eq_true rfl)) dL_law_1270 ⟨by show _ ≤ 601024; omega, by show _ ≤ 7293034; omega⟩) hS (fun q _ h => hFc q h) hFc (fun r_1 u_9 t H1 locs ht hvm hw hB hz1 hk1 hS => ?_)
  obtain ⟨re9_1, ro9_2, rc9_3, go9_4, nt9_5, tb9_6, te9_7, tk9_8, tt9_9, nu9_10, ub9_11, ue9_12, uk9_13, ut9_14⟩ := u_9
  dsimp only at hw hB
  obtain ⟨hP1, -, hD1⟩ := hB
  rw [ht] at hP1
  obtain ⟨hP, hD⟩ := va_join (wr := (w4 b cI cZ tw nk pa nc fo th tg nt tb4 te4 tk4 tt4 ex tc es wy ab re4 go4 be) ++ ([(ou, .inl (cJ, 1, .inr (.inl fz)))])) (w1 := w3 a cI cZ nk pa fa nc fo th tg nt9_5 tb9_6 te9_7 tk9_8 tt9_9 nu9_10 ub9_11 ue9_12 uk9_13 ut9_14 re9_1 ro9_2 fu bl go9_4 ra rc9_3 ex tc es wy) hP hD [0, 1, 2, 3, 4, 5, 6, 7, 8, 9, 10, 11, 12, 13, 14, 15, 16, 17, 18, 19, 20, 21, 22, 23] [24, 25, 26, 27, 28, 29, 30, 31, 32, 33, 34, 35, 36, 37] rfl rfl (by decide) (by decide) hk1 hFc hP1 hD1
  generalize H1 = H at hP hS ⊢
  have hP := hP.sub (ws' := (w3 a cI cZ nk pa fa nc fo th tg nt9_5 tb9_6 te9_7 tk9_8 tt9_9 nu9_10 ub9_11 ue9_12 uk9_13 ut9_14 re9_1 ro9_2 fu bl go9_4 ra rc9_3 ex tc es wy) ++ ((w4 b cI cZ tw nk pa nc fo th tg nt tb4 te4 tk4 tt4 ex tc es wy ab re4 go4 be) ++ ([(ou, .inl (cJ, 1, .inr (.inl fz)))]))) [14, 15, 16, 17, 18, 19, 20, 21, 22, 23, 24, 25, 26, 27, 28, 29, 30, 31, 32, 33, 34, 35, 36, 37, 0, 1, 2, 3, 4, 5, 6, 7, 8, 9, 10, 11, 12, 13] rfl
  have hD := hD.sub (ws' := (w3 a cI cZ nk pa fa nc fo th tg nt9_5 tb9_6 te9_7 tk9_8 tt9_9 nu9_10 ub9_11 ue9_12 uk9_13 ut9_14 re9_1 ro9_2 fu bl go9_4 ra rc9_3 ex tc es wy) ++ ((w4 b cI cZ tw nk pa nc fo th tg nt tb4 te4 tk4 tt4 ex tc es wy ab re4 go4 be) ++ ([(ou, .inl (cJ, 1, .inr (.inl fz)))]))) [14, 15, 16, 17, 18, 19, 20, 21, 22, 23, 24, 25, 26, 27, 28, 29, 30, 31, 32, 33, 34, 35, 36, 37, 0, 1, 2, 3, 4, 5, 6, 7, 8, 9, 10, 11, 12, 13] (by decide) rfl
  have hP : va_P (dC, dI) vwCl ((w3 a cI cZ nk pa fa nc fo th tg nt9_5 tb9_6 te9_7 tk9_8 tt9_9 nu9_10 ub9_11 ue9_12 uk9_13 ut9_14 re9_1 ro9_2 fu bl go9_4 ra rc9_3 ex tc es wy) ++ ((w4 b cI cZ tw nk pa nc fo th tg nt tb4 te4 tk4 tt4 ex tc es wy ab re4 go4 be) ++ ([(ou, .inl (cJ, 1, .inr (.inl fz)))]))) H := hP
  have hD : va_D A ((w3 a cI cZ nk pa fa nc fo th tg nt9_5 tb9_6 te9_7 tk9_8 tt9_9 nu9_10 ub9_11 ue9_12 uk9_13 ut9_14 re9_1 ro9_2 fu bl go9_4 ra rc9_3 ex tc es wy) ++ ((w4 b cI cZ tw nk pa nc fo th tg nt tb4 te4 tk4 tt4 ex tc es wy ab re4 go4 be) ++ ([(ou, .inl (cJ, 1, .inr (.inl fz)))]))) := hD
  obtain ⟨hw0, hw⟩ := hw
  subst hw0
  rcases hw with ⟨h_16, h_17⟩
  replace h_16 := h_16.symm
  subst h_16
  have hP : va_P (dC, dI) vwCl ((w3 a cI cZ nk pa fa nc fo th tg ((jR nk nc fo th tg up (T, nt)).1.2) tb9_6 te9_7 tk9_8 tt9_9 nu9_10 ub9_11 ue9_12 uk9_13 ut9_14 re9_1 ro9_2 fu bl go9_4 ra rc9_3 ex tc es wy) ++ ((w4 b cI cZ tw nk pa nc fo th tg nt tb4 te4 tk4 tt4 ex tc es wy ab re4 go4 be) ++ ([(ou, .inl (cJ, 1, .inr (.inl fz)))]))) H := hP
  have hD : va_D A ((w3 a cI cZ nk pa fa nc fo th tg ((jR nk nc fo th tg up (T, nt)).1.2) tb9_6 te9_7 tk9_8 tt9_9 nu9_10 ub9_11 ue9_12 uk9_13 ut9_14 re9_1 ro9_2 fu bl go9_4 ra rc9_3 ex tc es wy) ++ ((w4 b cI cZ tw nk pa nc fo th tg nt tb4 te4 tk4 tt4 ex tc es wy ab re4 go4 be) ++ ([(ou, .inl (cJ, 1, .inr (.inl fz)))]))) := hD
  refine lv_aload_n hx hb dL_law_1273 rfl (lv_at hl 2 rfl) ?_
  have hPc := hP.sub (ws' := w4 b cI cZ tw nk pa nc fo th tg nt tb4 te4 tk4 tt4 ex tc es wy ab re4 go4 be) [24, 25, 26, 27, 28, 29, 30, 31, 32, 33, 34, 35, 36] rfl
  have hDc := hD.sub (ws' := w4 b cI cZ tw nk pa nc fo th tg nt tb4 te4 tk4 tt4 ex tc es wy ab re4 go4 be) [24, 25, 26, 27, 28, 29, 30, 31, 32, 33, 34, 35, 36] (by decide) rfl
  have hFc := va_free (wc := w4 b cI cZ tw nk pa nc fo th tg nt tb4 te4 tk4 tt4 ex tc es wy ab re4 go4 be) hD hS hA [24, 25, 26, 27, 28, 29, 30, 31, 32, 33, 34, 35, 36] rfl
  refine va_calli (va_runV (As := []) (rest := [.int (nI ((jR nk nc fo th tg up (T, nt)).2))]) ⟨hx, hb, hml, hown, hts⟩ (c_X4_join l dC dI cI cZ cJ b tw nk pa nc fo th tg nt tb4 te4 tk4 tt4 ex tc es wy ab re4 go4 be T up H.size (by first | assumption | omega) (by first | assumption | omega)) (cwV 0 hts gL_law_X4_join rfl rfl rfl (by decide +kernel) ⟨Nat.le_of_ble_eq_true rfl, Nat.le_of_ble_eq_true rfl⟩) ⟨zWr_blind, va_recv hK hPc (ci := 4) (q0 := 0) rfl rfl, zWr_at hPc hK hn (hDc.weaken (fun _ _ _ _ => trivial))⟩ rfl rfl hl.1 rfl (lv_room (Nat.le_of_ble_eq_true rfl)) dL_law_1274 ⟨by show _ ≤ 601024; omega, by show _ ≤ 7293034; omega⟩) hS (fun q _ h => hFc q h) hFc (fun r_18 u_9 t H1 locs ht hvm hw hB hz1 hk1 hS => ?_)
  obtain ⟨re9_18, go9_19, nt9_20, tb9_21, te9_22, tk9_23, tt9_24, be9_25⟩ := u_9
  dsimp only at hw hB
  obtain ⟨hP1, -, hD1⟩ := hB
  rw [ht] at hP1
  obtain ⟨hP, hD⟩ := va_join (wr := (w3 a cI cZ nk pa fa nc fo th tg ((jR nk nc fo th tg up (T, nt)).1.2) tb9_6 te9_7 tk9_8 tt9_9 nu9_10 ub9_11 ue9_12 uk9_13 ut9_14 re9_1 ro9_2 fu bl go9_4 ra rc9_3 ex tc es wy) ++ ([(ou, .inl (cJ, 1, .inr (.inl fz)))])) (w1 := w4 b cI cZ 0 nk pa nc fo th tg nt9_20 tb9_21 te9_22 tk9_23 tt9_24 ex tc es wy ab re9_18 go9_19 be9_25) hP hD [24, 25, 26, 27, 28, 29, 30, 31, 32, 33, 34, 35, 36] [0, 1, 2, 3, 4, 5, 6, 7, 8, 9, 10, 11, 12, 13, 14, 15, 16, 17, 18, 19, 20, 21, 22, 23, 37] rfl rfl (by decide) (by decide) hk1 hFc hP1 hD1
  generalize H1 = H at hP hS ⊢
  have hP := hP.sub (ws' := (w3 a cI cZ nk pa fa nc fo th tg ((jR nk nc fo th tg up (T, nt)).1.2) tb9_6 te9_7 tk9_8 tt9_9 nu9_10 ub9_11 ue9_12 uk9_13 ut9_14 re9_1 ro9_2 fu bl go9_4 ra rc9_3 ex tc es wy) ++ ((w4 b cI cZ 0 nk pa nc fo th tg nt9_20 tb9_21 te9_22 tk9_23 tt9_24 ex tc es wy ab re9_18 go9_19 be9_25) ++ ([(ou, .inl (cJ, 1, .inr (.inl fz)))]))) [0, 1, 2, 3, 4, 5, 6, 7, 8, 9, 10, 11, 12, 13, 14, 15, 16, 17, 18, 19, 20, 21, 22, 23, 25, 26, 27, 28, 29, 30, 31, 32, 33, 34, 35, 36, 37, 24] rfl
  have hD := hD.sub (ws' := (w3 a cI cZ nk pa fa nc fo th tg ((jR nk nc fo th tg up (T, nt)).1.2) tb9_6 te9_7 tk9_8 tt9_9 nu9_10 ub9_11 ue9_12 uk9_13 ut9_14 re9_1 ro9_2 fu bl go9_4 ra rc9_3 ex tc es wy) ++ ((w4 b cI cZ 0 nk pa nc fo th tg nt9_20 tb9_21 te9_22 tk9_23 tt9_24 ex tc es wy ab re9_18 go9_19 be9_25) ++ ([(ou, .inl (cJ, 1, .inr (.inl fz)))]))) [0, 1, 2, 3, 4, 5, 6, 7, 8, 9, 10, 11, 12, 13, 14, 15, 16, 17, 18, 19, 20, 21, 22, 23, 25, 26, 27, 28, 29, 30, 31, 32, 33, 34, 35, 36, 37, 24] (by decide) rfl
  have hP : va_P (dC, dI) vwCl ((w3 a cI cZ nk pa fa nc fo th tg ((jR nk nc fo th tg up (T, nt)).1.2) tb9_6 te9_7 tk9_8 tt9_9 nu9_10 ub9_11 ue9_12 uk9_13 ut9_14 re9_1 ro9_2 fu bl go9_4 ra rc9_3 ex tc es wy) ++ ((w4 b cI cZ 0 nk pa nc fo th tg nt9_20 tb9_21 te9_22 tk9_23 tt9_24 ex tc es wy ab re9_18 go9_19 be9_25) ++ ([(ou, .inl (cJ, 1, .inr (.inl fz)))]))) H := hP
  have hD : va_D A ((w3 a cI cZ nk pa fa nc fo th tg ((jR nk nc fo th tg up (T, nt)).1.2) tb9_6 te9_7 tk9_8 tt9_9 nu9_10 ub9_11 ue9_12 uk9_13 ut9_14 re9_1 ro9_2 fu bl go9_4 ra rc9_3 ex tc es wy) ++ ((w4 b cI cZ 0 nk pa nc fo th tg nt9_20 tb9_21 te9_22 tk9_23 tt9_24 ex tc es wy ab re9_18 go9_19 be9_25) ++ ([(ou, .inl (cJ, 1, .inr (.inl fz)))]))) := hD
  obtain ⟨hw0, hw⟩ := hw
  subst hw0
  rcases hw with ⟨h_27, h_28⟩
  replace h_27 := h_27.symm
  subst h_27
  have hP : va_P (dC, dI) vwCl ((w3 a cI cZ nk pa fa nc fo th tg ((jR nk nc fo th tg up (T, nt)).1.2) tb9_6 te9_7 tk9_8 tt9_9 nu9_10 ub9_11 ue9_12 uk9_13 ut9_14 re9_1 ro9_2 fu bl go9_4 ra rc9_3 ex tc es wy) ++ ((w4 b cI cZ 0 nk pa nc fo th tg ((jR nk nc fo th tg up (T, nt)).1.2) tb9_21 te9_22 tk9_23 tt9_24 ex tc es wy ab re9_18 go9_19 be9_25) ++ ([(ou, .inl (cJ, 1, .inr (.inl fz)))]))) H := hP
  have hD : va_D A ((w3 a cI cZ nk pa fa nc fo th tg ((jR nk nc fo th tg up (T, nt)).1.2) tb9_6 te9_7 tk9_8 tt9_9 nu9_10 ub9_11 ue9_12 uk9_13 ut9_14 re9_1 ro9_2 fu bl go9_4 ra rc9_3 ex tc es wy) ++ ((w4 b cI cZ 0 nk pa nc fo th tg ((jR nk nc fo th tg up (T, nt)).1.2) tb9_21 te9_22 tk9_23 tt9_24 ex tc es wy ab re9_18 go9_19 be9_25) ++ ([(ou, .inl (cJ, 1, .inr (.inl fz)))]))) := hD
  refine lv_icmp_eq (tgt := 1475) hx hb dL_law_1277 (by decide) (fun c_29 => ?_) (fun c_29 => ?_)
  · skip
    skip
    refine W.widen (k := k0 + 100) (n := n0 + 3000) (by omega) (by omega) ?_
    exact K nk pa fa nc fo th tg ((jR nk nc fo th tg up (T, nt)).1.2) tb9_6 te9_7 tk9_8 tt9_9 nu9_10 ub9_11 ue9_12 uk9_13 ut9_14 re9_1 ro9_2 fu bl go9_4 ra rc9_3 ex tc es wy 0 tb9_21 te9_22 tk9_23 tt9_24 ab re9_18 go9_19 be9_25 fz ((jR nk nc fo th tg up (T, nt)).1.1) up _ _ _ (by first | assumption | omega) (by first | assumption | omega) (by first | assumption | omega) hP hD hS (lv_sub hl [0, 1, 2, 3, 4] rfl)
  · exact absurd rfl c_29

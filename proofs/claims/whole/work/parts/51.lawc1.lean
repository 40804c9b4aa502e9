set_option maxHeartbeats 4000000 in
set_option maxRecDepth 100000 in
theorem lk_0 {p : Program} {e : Env} {s : State} {m : MethodId} {below : List Frame} {meth : Method} {c : Code} {Q : State → Prop} (l : Launch) {sb L : Nat} {xs : Nat → Int32} (dC : Nat → ClassId) (dI : Nat → Nat → Nat) (cI cZ cJ : ClassId) (a b : Nat → Nat) (ou i k0 n0 : Nat) (hF0 : lwF p l s m c sb L xs dC dI cI cZ cJ) (hi : i + 5 ≤ L) (hk0 : k0 + 100 ≤ 601024) (hn0 : n0 + 3000 ≤ 7293034) (nk : Nat) (pa : Nat → Int32) (fa : Nat → Int32) (nc : Nat) (fo : Nat → Int32) (th : Nat → Int32) (tg : Nat → Int32) (nt : Nat) (tb : Nat → Int32) (te : Nat → Int32) (tk : Nat → Int32) (tt : Nat → Int32) (nu : Nat) (ub : Nat → Int32) (ue : Nat → Int32) (uk : Nat → Int32) (ut : Nat → Int32) (re : Nat → Int32) (ro : Nat → Int32) (fu : Nat → Int32) (bl : Nat → Int32) (go : Nat → Int32) (ra : Nat → Int32) (rc : Nat) (ex : Int32) (tc : Int32) (es : Int32) (wy : Int64) (tw : Int32) (tb4 : Nat → Int32) (te4 : Nat → Int32) (tk4 : Nat → Int32) (tt4 : Nat → Int32) (ab : Nat → Int32) (re4 : Nat → Int32) (go4 : Nat → Int32) (be : Nat → Int32) (fz : Nat → Int64) (T : Nat → Nat → Nat) (up : Nat → Nat → Bool) (hg : g3 nk fa up nt tb te tk tt T) (hg4 : g4 nk ab up nt tb4 te4 tk4 tt4 T) (hc : okC nk nc fo th tg) (H : Heap) (locs : List Loc) (ls : Array Slot) (hP : va_P (dC, dI) vwCl ((w3 a cI cZ nk pa fa nc fo th tg nt tb te tk tt nu ub ue uk ut re ro fu bl go ra rc ex tc es wy) ++ ((w4 b cI cZ tw nk pa nc fo th tg nt tb4 te4 tk4 tt4 ex tc es wy ab re4 go4 be) ++ ([(ou, .inl (cJ, 1, .inr (.inl fz)))]))) H) (hD : va_D (fun q => s.heap.size ≤ q) ((w3 a cI cZ nk pa fa nc fo th tg nt tb te tk tt nu ub ue uk ut re ro fu bl go ra rc ex tc es wy) ++ ((w4 b cI cZ tw nk pa nc fo th tg nt tb4 te4 tk4 tt4 ex tc es wy ab re4 go4 be) ++ ([(ou, .inl (cJ, 1, .inr (.inl fz)))])))) (hS : va_S (fun q => s.heap.size ≤ q) s.heap H locs) (hl : lv_has ls 9 [(0, .ref sb), (1, .ref (a 0)), (2, .ref (b 0)), (3, .ref ou), (4, .int (nI i))]) (K : ∀ (nk : Nat) (pa : Nat → Int32) (fa : Nat → Int32) (nc : Nat) (fo : Nat → Int32) (th : Nat → Int32) (tg : Nat → Int32) (nt : Nat) (tb : Nat → Int32) (te : Nat → Int32) (tk : Nat → Int32) (tt : Nat → Int32) (nu : Nat) (ub : Nat → Int32) (ue : Nat → Int32) (uk : Nat → Int32) (ut : Nat → Int32) (re : Nat → Int32) (ro : Nat → Int32) (fu : Nat → Int32) (bl : Nat → Int32) (go : Nat → Int32) (ra : Nat → Int32) (rc : Nat) (ex : Int32) (tc : Int32) (es : Int32) (wy : Int64) (tw : Int32) (tb4 : Nat → Int32) (te4 : Nat → Int32) (tk4 : Nat → Int32) (tt4 : Nat → Int32) (ab : Nat → Int32) (re4 : Nat → Int32) (go4 : Nat → Int32) (be : Nat → Int32) (fz : Nat → Int64) (T : Nat → Nat → Nat) (up : Nat → Nat → Bool) (H : Heap) (locs : List Loc) (ls : Array Slot), g3 nk fa up nt tb te tk tt T → g4 nk ab up nt tb4 te4 tk4 tt4 T → okC nk nc fo th tg → va_P (dC, dI) vwCl ((w3 a cI cZ nk pa fa nc fo th tg nt tb te tk tt nu ub ue uk ut re ro fu bl go ra rc ex tc es wy) ++ ((w4 b cI cZ tw nk pa nc fo th tg nt tb4 te4 tk4 tt4 ex tc es wy ab re4 go4 be) ++ ([(ou, .inl (cJ, 1, .inr (.inl fz)))]))) H → va_D (fun q => s.heap.size ≤ q) ((w3 a cI cZ nk pa fa nc fo th tg nt tb te tk tt nu ub ue uk ut re ro fu bl go ra rc ex tc es wy) ++ ((w4 b cI cZ tw nk pa nc fo th tg nt tb4 te4 tk4 tt4 ex tc es wy ab re4 go4 be) ++ ([(ou, .inl (cJ, 1, .inr (.inl fz)))]))) → va_S (fun q => s.heap.size ≤ q) s.heap H locs → lv_has ls 9 [(0, .ref sb), (1, .ref (a 0)), (2, .ref (b 0)), (3, .ref ou), (4, .int (nI i))] → W p l e room_1 s m #[Value.ref sb] below meth c H locs (k0 + 100) (n0 + 3000) Q (F0 m 1475 ls [])) : W p l e room_1 s m #[Value.ref sb] below meth c H locs k0 n0 Q (F0 m 180 ls []) := by
  obtain ⟨hx, hb, hml, hown, hts, hX, hbl, hL, hK, hn, hzt, hzu, hzc, hlt⟩ := id hF0
  obtain ⟨A, hAe⟩ : ∃ A : Nat → Prop, A = fun q => s.heap.size ≤ q := ⟨_, rfl⟩
  have hbA : ¬ A sb := by rw [hAe]; exact Nat.not_le.mpr hbl
  have hA : ∀ q : Nat, s.heap.size ≤ q → A q := fun q h => by rw [hAe]; exact h
  rw [← hAe] at hD hS hzu K
  refine lv_aload_n hx hb dL_law_180 rfl (lv_at hl 1 rfl) ?_
  refine lv_aload_n hx hb dL_law_181 rfl (lv_at hl 0 rfl) ?_
  refine lv_iload hx hb dL_law_182 (lv_at hl 4 rfl) ?_
  refine lv_iconst (v := 1) hx hb dL_law_184 (by decide) ?_
  refine lv_iadd hx hb dL_law_185 ?_
  refine zz_top (y := nI (i + 1)) (nI_add _ _) ?_
  refine va_sld hx hb hX hbl hbA hS (vp_in_nI (n := i + 1) (by omega) (by omega)) dL_law_186 ?_
  refine zz_top (y := xs (i + 1)) (congrArg _ (nI_clamp (by omega))) ?_
  refine lv_aload_n hx hb dL_law_187 rfl (lv_at hl 3 rfl) ?_
  have hPc := hP.sub (ws' := (w3 a cI cZ nk pa fa nc fo th tg nt tb te tk tt nu ub ue uk ut re ro fu bl go ra rc ex tc es wy) ++ ([(ou, .inl (cJ, 1, .inr (.inl fz)))])) [0, 1, 2, 3, 4, 5, 6, 7, 8, 9, 10, 11, 12, 13, 14, 15, 16, 17, 18, 19, 20, 21, 22, 23, 37] rfl
  have hDc := hD.sub (ws' := (w3 a cI cZ nk pa fa nc fo th tg nt tb te tk tt nu ub ue uk ut re ro fu bl go ra rc ex tc es wy) ++ ([(ou, .inl (cJ, 1, .inr (.inl fz)))])) [0, 1, 2, 3, 4, 5, 6, 7, 8, 9, 10, 11, 12, 13, 14, 15, 16, 17, 18, 19, 20, 21, 22, 23, 37] (by decide) rfl
  have hFc := va_free (wc := (w3 a cI cZ nk pa fa nc fo th tg nt tb te tk tt nu ub ue uk ut re ro fu bl go ra rc ex tc es wy) ++ ([(ou, .inl (cJ, 1, .inr (.inl fz)))])) hD hS hA [0, 1, 2, 3, 4, 5, 6, 7, 8, 9, 10, 11, 12, 13, 14, 15, 16, 17, 18, 19, 20, 21, 22, 23, 37] rfl
  refine va_calli (vx_runSW (As := [.ref (a 0), .int (xs (i + 1)), .ref ou]) (rest := []) ⟨hx, hb, hml, hown, hts⟩ (c_L_addKind l dC dI cI cZ cJ a nk pa fa nc fo th tg nt tb te tk tt nu ub ue uk ut re ro fu bl go ra rc ex tc es wy (xs (i + 1)) T up ou fz H.size hlt (by first | assumption | omega) (by first | assumption | omega)) (vx_cwSW 3 hts gL_law_L_addKind rfl rfl rfl (by decide +kernel) ⟨Nat.le_of_ble_eq_true rfl, Nat.le_of_ble_eq_true rfl⟩) ⟨zTl_blind, zTl_at hPc hK hn (hDc.weaken (fun _ _ _ _ => trivial)) hzt hzu hS hFc hzc⟩ rfl rfl hl.1 rfl (lv_room (Nat.le_of_ble_eq_true rfl)) dL_law_188 ⟨by show _ ≤ 601024; omega, by show _ ≤ 7293034; omega⟩) hS (fun q _ h => hFc q h) hFc (fun r_1 u_9 t H1 locs ht hvm hw hB hz1 hk1 hS => ?_)
  obtain ⟨v_k_1, v_kp_2, v_kf_3, fz9_4⟩ := u_9
  dsimp only at hw hB
  obtain ⟨hP1, -, hD1⟩ := hB
  rw [ht] at hP1
  obtain ⟨hP, hD⟩ := va_join (wr := w4 b cI cZ tw nk pa nc fo th tg nt tb4 te4 tk4 tt4 ex tc es wy ab re4 go4 be) (w1 := (w3 a cI cZ v_k_1 v_kp_2 v_kf_3 nc fo th tg nt tb te tk tt nu ub ue uk ut re ro fu bl go ra rc ex tc es wy) ++ ([(ou, .inl (cJ, 1, .inr (.inl fz9_4)))])) hP hD [0, 1, 2, 3, 4, 5, 6, 7, 8, 9, 10, 11, 12, 13, 14, 15, 16, 17, 18, 19, 20, 21, 22, 23, 37] [24, 25, 26, 27, 28, 29, 30, 31, 32, 33, 34, 35, 36] rfl rfl (by decide) (by decide) hk1 hFc hP1 hD1
  generalize H1 = H at hP hS ⊢
  have hP := hP.sub (ws' := (w3 a cI cZ v_k_1 v_kp_2 v_kf_3 nc fo th tg nt tb te tk tt nu ub ue uk ut re ro fu bl go ra rc ex tc es wy) ++ ((w4 b cI cZ tw nk pa nc fo th tg nt tb4 te4 tk4 tt4 ex tc es wy ab re4 go4 be) ++ ([(ou, .inl (cJ, 1, .inr (.inl fz9_4)))]))) [13, 14, 15, 16, 17, 18, 19, 20, 21, 22, 23, 24, 25, 26, 27, 28, 29, 30, 31, 32, 33, 34, 35, 36, 0, 1, 2, 3, 4, 5, 6, 7, 8, 9, 10, 11, 12, 37] rfl
  have hD := hD.sub (ws' := (w3 a cI cZ v_k_1 v_kp_2 v_kf_3 nc fo th tg nt tb te tk tt nu ub ue uk ut re ro fu bl go ra rc ex tc es wy) ++ ((w4 b cI cZ tw nk pa nc fo th tg nt tb4 te4 tk4 tt4 ex tc es wy ab re4 go4 be) ++ ([(ou, .inl (cJ, 1, .inr (.inl fz9_4)))]))) [13, 14, 15, 16, 17, 18, 19, 20, 21, 22, 23, 24, 25, 26, 27, 28, 29, 30, 31, 32, 33, 34, 35, 36, 0, 1, 2, 3, 4, 5, 6, 7, 8, 9, 10, 11, 12, 37] (by decide) rfl
  have hP : va_P (dC, dI) vwCl ((w3 a cI cZ v_k_1 v_kp_2 v_kf_3 nc fo th tg nt tb te tk tt nu ub ue uk ut re ro fu bl go ra rc ex tc es wy) ++ ((w4 b cI cZ tw nk pa nc fo th tg nt tb4 te4 tk4 tt4 ex tc es wy ab re4 go4 be) ++ ([(ou, .inl (cJ, 1, .inr (.inl fz9_4)))]))) H := hP
  have hD : va_D A ((w3 a cI cZ v_k_1 v_kp_2 v_kf_3 nc fo th tg nt tb te tk tt nu ub ue uk ut re ro fu bl go ra rc ex tc es wy) ++ ((w4 b cI cZ tw nk pa nc fo th tg nt tb4 te4 tk4 tt4 ex tc es wy ab re4 go4 be) ++ ([(ou, .inl (cJ, 1, .inr (.inl fz9_4)))]))) := hD
  refine W.widen (k := k0 + 2) (n := n0 + 12) (by omega) (by omega) ?_
  rcases hw with ⟨x_6, ⟨h_7, h_8, h_9, h_10, h_11, ⟨⟨h_12, h_13⟩, h_14, h_15⟩⟩⟩ | ⟨h_16, h_17, h_18, h_19, h_20, h_21⟩ | ⟨h_22, ⟨h_23, h_24⟩, h_25, h_26, h_27, h_28⟩
  · skip
    replace h_7 := h_7.symm
    subst h_7
    replace h_8 := h_8.symm
    subst h_8
    replace h_9 := h_9.symm
    subst h_9
    replace h_10 := h_10.symm
    subst h_10
    replace h_11 := h_11.symm
    subst h_11
    have hP : va_P (dC, dI) vwCl ((w3 a cI cZ (nk + 1) (upd pa nk (xs (i + 1))) x_6 nc fo th tg nt tb te tk tt nu ub ue uk ut re ro fu bl go ra rc ex tc es wy) ++ ((w4 b cI cZ tw nk pa nc fo th tg nt tb4 te4 tk4 tt4 ex tc es wy ab re4 go4 be) ++ ([(ou, .inl (cJ, 1, .inr (.inl (vp_updL fz 0 ((nI nk).toInt64)))))]))) H := hP
    have hD : va_D A ((w3 a cI cZ (nk + 1) (upd pa nk (xs (i + 1))) x_6 nc fo th tg nt tb te tk tt nu ub ue uk ut re ro fu bl go ra rc ex tc es wy) ++ ((w4 b cI cZ tw nk pa nc fo th tg nt tb4 te4 tk4 tt4 ex tc es wy ab re4 go4 be) ++ ([(ou, .inl (cJ, 1, .inr (.inl (vp_updL fz 0 ((nI nk).toInt64)))))]))) := hD
    refine lv_istore (lv' := [(5, .int 0), (0, .ref sb), (1, .ref (a 0)), (2, .ref (b 0)), (3, .ref ou), (4, .int (nI i))]) hx hb dL_law_191 hl (by decide) rfl (fun ls hl => ?_)
    refine lv_aload_n hx hb dL_law_193 rfl (lv_at hl 3 rfl) ?_
    refine lv_aload_n hx hb dL_law_194 rfl (lv_at hl 1 rfl) ?_
    refine lv_iload hx hb dL_law_195 (lv_at hl 5 rfl) ?_
    refine lv_iconst (v := 1) hx hb dL_law_197 (by decide) ?_
    refine lv_iadd hx hb dL_law_198 ?_
    refine zz_top (y := nI (i + 1)) (nI_add _ _) ?_
    refine va_sld hx hb hX hbl hbA hS (vp_in_nI (n := i + 1) (by omega) (by omega)) dL_law_199 ?_
    refine zz_top (y := xs (i + 1)) (congrArg _ (nI_clamp (by omega))) ?_
    have hPc := hP.sub (ws' := w4 b cI cZ tw nk pa nc fo th tg nt tb4 te4 tk4 tt4 ex tc es wy ab re4 go4 be) [24, 25, 26, 27, 28, 29, 30, 31, 32, 33, 34, 35, 36] rfl
    have hDc := hD.sub (ws' := w4 b cI cZ tw nk pa nc fo th tg nt tb4 te4 tk4 tt4 ex tc es wy ab re4 go4 be) [24, 25, 26, 27, 28, 29, 30, 31, 32, 33, 34, 35, 36] (by decide) rfl
    have hFc := va_free (wc := w4 b cI cZ tw nk pa nc fo th tg nt tb4 te4 tk4 tt4 ex tc es wy ab re4 go4 be) hD hS hA [24, 25, 26, 27, 28, 29, 30, 31, 32, 33, 34, 35, 36] rfl
    refine va_calli (va_runV (As := [.int (xs (i + 1))]) (rest := []) ⟨hx, hb, hml, hown, hts⟩ (c_X4_addKind l dC dI cI cZ cJ b tw nk pa nc fo th tg nt tb4 te4 tk4 tt4 ex tc es wy ab re4 go4 be (xs (i + 1)) T up H.size (by first | assumption | omega) (by first | assumption | omega)) (cwV 1 hts gL_law_X4_addKind rfl rfl rfl (by decide +kernel) ⟨Nat.le_of_ble_eq_true rfl, Nat.le_of_ble_eq_true rfl⟩) ⟨zWr_blind, va_recv hK hPc (ci := 4) (q0 := 0) rfl rfl, zWr_at hPc hK hn (hDc.weaken (fun _ _ _ _ => trivial))⟩ rfl rfl hl.1 rfl (lv_room (Nat.le_of_ble_eq_true rfl)) dL_law_200 ⟨by show _ ≤ 601024; omega, by show _ ≤ 7293034; omega⟩) hS (fun q _ h => hFc q h) hFc (fun r_29 u_9 t H1 locs ht hvm hw hB hz1 hk1 hS => ?_)
    obtain ⟨tw9_29, nk9_30, pa9_31, ab9_32⟩ := u_9
    dsimp only at hw hB
    obtain ⟨hP1, -, hD1⟩ := hB
    rw [ht] at hP1
    obtain ⟨hP, hD⟩ := va_join (wr := (w3 a cI cZ (nk + 1) (upd pa nk (xs (i + 1))) x_6 nc fo th tg nt tb te tk tt nu ub ue uk ut re ro fu bl go ra rc ex tc es wy) ++ ([(ou, .inl (cJ, 1, .inr (.inl (vp_updL fz 0 ((nI nk).toInt64)))))])) (w1 := w4 b cI cZ tw9_29 nk9_30 pa9_31 nc fo th tg nt tb4 te4 tk4 tt4 ex tc es wy ab9_32 re4 go4 be) hP hD [24, 25, 26, 27, 28, 29, 30, 31, 32, 33, 34, 35, 36] [0, 1, 2, 3, 4, 5, 6, 7, 8, 9, 10, 11, 12, 13, 14, 15, 16, 17, 18, 19, 20, 21, 22, 23, 37] rfl rfl (by decide) (by decide) hk1 hFc hP1 hD1
    generalize H1 = H at hP hS ⊢
    have hP := hP.sub (ws' := (w3 a cI cZ (nk + 1) (upd pa nk (xs (i + 1))) x_6 nc fo th tg nt tb te tk tt nu ub ue uk ut re ro fu bl go ra rc ex tc es wy) ++ ((w4 b cI cZ tw9_29 nk9_30 pa9_31 nc fo th tg nt tb4 te4 tk4 tt4 ex tc es wy ab9_32 re4 go4 be) ++ ([(ou, .inl (cJ, 1, .inr (.inl (vp_updL fz 0 ((nI nk).toInt64)))))]))) [0, 1, 2, 3, 4, 5, 6, 7, 8, 9, 10, 11, 12, 13, 14, 15, 16, 17, 18, 19, 20, 21, 22, 23, 25, 26, 27, 28, 29, 30, 31, 32, 33, 34, 35, 36, 37, 24] rfl
    have hD := hD.sub (ws' := (w3 a cI cZ (nk + 1) (upd pa nk (xs (i + 1))) x_6 nc fo th tg nt tb te tk tt nu ub ue uk ut re ro fu bl go ra rc ex tc es wy) ++ ((w4 b cI cZ tw9_29 nk9_30 pa9_31 nc fo th tg nt tb4 te4 tk4 tt4 ex tc es wy ab9_32 re4 go4 be) ++ ([(ou, .inl (cJ, 1, .inr (.inl (vp_updL fz 0 ((nI nk).toInt64)))))]))) [0, 1, 2, 3, 4, 5, 6, 7, 8, 9, 10, 11, 12, 13, 14, 15, 16, 17, 18, 19, 20, 21, 22, 23, 25, 26, 27, 28, 29, 30, 31, 32, 33, 34, 35, 36, 37, 24] (by decide) rfl
    have hP : va_P (dC, dI) vwCl ((w3 a cI cZ (nk + 1) (upd pa nk (xs (i + 1))) x_6 nc fo th tg nt tb te tk tt nu ub ue uk ut re ro fu bl go ra rc ex tc es wy) ++ ((w4 b cI cZ tw9_29 nk9_30 pa9_31 nc fo th tg nt tb4 te4 tk4 tt4 ex tc es wy ab9_32 re4 go4 be) ++ ([(ou, .inl (cJ, 1, .inr (.inl (vp_updL fz 0 ((nI nk).toInt64)))))]))) H := hP
    have hD : va_D A ((w3 a cI cZ (nk + 1) (upd pa nk (xs (i + 1))) x_6 nc fo th tg nt tb te tk tt nu ub ue uk ut re ro fu bl go ra rc ex tc es wy) ++ ((w4 b cI cZ tw9_29 nk9_30 pa9_31 nc fo th tg nt tb4 te4 tk4 tt4 ex tc es wy ab9_32 re4 go4 be) ++ ([(ou, .inl (cJ, 1, .inr (.inl (vp_updL fz 0 ((nI nk).toInt64)))))]))) := hD
    rcases hw with ⟨h_34, h_35, h_36, h_37, h_38⟩ | ⟨h_39, h_40, h_41, h_42, h_43, h_44⟩ | ⟨h_45, h_46, h_47, h_48, h_49, h_50, h_51, h_52⟩
    · skip
      exact absurd (h_12.symm.trans h_34) (by decide)
    · skip
      omega
    · skip
      replace h_47 := h_47.symm
      subst h_47
      replace h_48 := h_48.symm
      subst h_48
      replace h_49 := h_49.symm
      subst h_49
      replace h_50 := h_50.symm
      subst h_50
      have hP : va_P (dC, dI) vwCl ((w3 a cI cZ (nk + 1) (upd pa nk (xs (i + 1))) x_6 nc fo th tg nt tb te tk tt nu ub ue uk ut re ro fu bl go ra rc ex tc es wy) ++ ((w4 b cI cZ 0 (nk + 1) (upd pa nk (xs (i + 1))) nc fo th tg nt tb4 te4 tk4 tt4 ex tc es wy ab9_32 re4 go4 be) ++ ([(ou, .inl (cJ, 1, .inr (.inl (vp_updL fz 0 ((nI nk).toInt64)))))]))) H := hP
      have hD : va_D A ((w3 a cI cZ (nk + 1) (upd pa nk (xs (i + 1))) x_6 nc fo th tg nt tb te tk tt nu ub ue uk ut re ro fu bl go ra rc ex tc es wy) ++ ((w4 b cI cZ 0 (nk + 1) (upd pa nk (xs (i + 1))) nc fo th tg nt tb4 te4 tk4 tt4 ex tc es wy ab9_32 re4 go4 be) ++ ([(ou, .inl (cJ, 1, .inr (.inl (vp_updL fz 0 ((nI nk).toInt64)))))]))) := hD
      refine lv_istore (lv' := [(6, .int (nI nk)), (5, .int 0), (0, .ref sb), (1, .ref (a 0)), (2, .ref (b 0)), (3, .ref ou), (4, .int (nI i))]) hx hb dL_law_203 hl (by decide) rfl (fun ls hl => ?_)
      refine lv_aload_n hx hb dL_law_205 rfl (lv_at hl 4 rfl) ?_
      have hPc := hP.sub (ws' := w4 b cI cZ 0 (nk + 1) (upd pa nk (xs (i + 1))) nc fo th tg nt tb4 te4 tk4 tt4 ex tc es wy ab9_32 re4 go4 be) [24, 25, 26, 27, 28, 29, 30, 31, 32, 33, 34, 35, 36] rfl
      refine va_calli (va_runV (As := []) (rest := []) ⟨hx, hb, hml, hown, hts⟩ (c_X4_thrown l dC dI cI cZ cJ b 0 (nk + 1) (upd pa nk (xs (i + 1))) nc fo th tg nt tb4 te4 tk4 tt4 ex tc es wy ab9_32 re4 go4 be ) (cwV 0 hts gL_law_X4_thrown rfl rfl rfl (by decide +kernel) ⟨Nat.le_of_ble_eq_true rfl, Nat.le_of_ble_eq_true rfl⟩) ⟨zPre_blind, va_recv hK hPc (ci := 4) (q0 := 0) rfl rfl, zPre_at hPc hK hn⟩ rfl rfl hl.1 rfl (lv_room (Nat.le_of_ble_eq_true rfl)) dL_law_206 ⟨by show _ ≤ 601024; omega, by show _ ≤ 7293034; omega⟩) hS (fun _ _ h => h.elim) (fun _ h => h.elim) (fun r_53 u_9 t H locs ht hvm hw hB hz1 hk1 hS => ?_)
      have hP := zkeep hP hk1
      subst hw
      refine lv_iload hx hb dL_law_209 (lv_at hl 1 rfl) ?_
      refine lv_icmp_eq (tgt := 216) hx hb dL_law_211 (by decide) (fun c_54 => ?_) (fun c_54 => ?_)
      · skip
        refine lv_iload hx hb dL_law_216 (lv_at hl 1 rfl) ?_
        refine lv_if_ne (tgt := 233) hx hb dL_law_218 (by decide) (fun c_55 => ?_) (fun c_55 => ?_)
        · exact absurd c_55 (by decide)
        · skip
          refine lv_aload_n hx hb dL_law_221 rfl (lv_at hl 5 rfl) ?_
          refine lv_iconst (v := 0) hx hb dL_law_222 (by decide) ?_
          refine va_lald hx hb hK hP 37 2 rfl rfl (vp_in_nI (n := 0) (by omega) (by decide)) dL_law_223 ?_
          refine zz_topl (y := (vp_updL fz 0 ((nI nk).toInt64)) 0) (rfl) ?_
          refine lv_iload hx hb dL_law_224 (lv_at hl 0 rfl) ?_
          refine lv_i2l (v := (nI nk).toInt64) hx hb dL_law_226 rfl ?_
          refine W.lcmp hx hb dL_law_227 ?_
          refine lv_if_eq (tgt := 233) hx hb dL_law_228 (by decide) (fun c_56 => ?_) (fun c_56 => ?_)
          · skip
            skip
            refine lv_goto (tgt := 1475) hx hb dL_law_233 (by decide) ?_
            refine W.widen (k := k0 + 100) (n := n0 + 3000) (by omega) (by omega) ?_
            exact K (nk + 1) (upd pa nk (xs (i + 1))) x_6 nc fo th tg nt tb te tk tt nu ub ue uk ut re ro fu bl go ra rc ex tc es wy 0 tb4 te4 tk4 tt4 ab9_32 re4 go4 be (vp_updL fz 0 ((nI nk).toInt64)) T (upN up nk (xs (i + 1)).toNatClampNeg) _ _ _ (by first | assumption | omega) (by first | assumption | omega) (by first | assumption | omega) hP hD hS (lv_sub hl [2, 3, 4, 5, 6] rfl)
          · exact absurd ((lg_cmp_eq _ _).mpr (by first | rfl | exact (bL_t hz9).symm | exact (bL_f hz9).symm)) c_56
      · exact absurd c_54 (by decide)
  · skip
    replace h_16 := h_16.symm
    subst h_16
    replace h_18 := h_18.symm
    subst h_18
    replace h_19 := h_19.symm
    subst h_19
    replace h_20 := h_20.symm
    subst h_20
    replace h_21 := h_21.symm
    subst h_21
    have hP : va_P (dC, dI) vwCl ((w3 a cI cZ nk pa fa nc fo th tg nt tb te tk tt nu ub ue uk ut re ro fu bl go ra rc ex tc es wy) ++ ((w4 b cI cZ tw nk pa nc fo th tg nt tb4 te4 tk4 tt4 ex tc es wy ab re4 go4 be) ++ ([(ou, .inl (cJ, 1, .inr (.inl fz)))]))) H := hP
    have hD : va_D A ((w3 a cI cZ nk pa fa nc fo th tg nt tb te tk tt nu ub ue uk ut re ro fu bl go ra rc ex tc es wy) ++ ((w4 b cI cZ tw nk pa nc fo th tg nt tb4 te4 tk4 tt4 ex tc es wy ab re4 go4 be) ++ ([(ou, .inl (cJ, 1, .inr (.inl fz)))]))) := hD
    refine lv_istore (lv' := [(5, .int 1), (0, .ref sb), (1, .ref (a 0)), (2, .ref (b 0)), (3, .ref ou), (4, .int (nI i))]) hx hb dL_law_191 hl (by decide) rfl (fun ls hl => ?_)
    refine lv_aload_n hx hb dL_law_193 rfl (lv_at hl 3 rfl) ?_
    refine lv_aload_n hx hb dL_law_194 rfl (lv_at hl 1 rfl) ?_
    refine lv_iload hx hb dL_law_195 (lv_at hl 5 rfl) ?_
    refine lv_iconst (v := 1) hx hb dL_law_197 (by decide) ?_
    refine lv_iadd hx hb dL_law_198 ?_
    refine zz_top (y := nI (i + 1)) (nI_add _ _) ?_
    refine va_sld hx hb hX hbl hbA hS (vp_in_nI (n := i + 1) (by omega) (by omega)) dL_law_199 ?_
    refine zz_top (y := xs (i + 1)) (congrArg _ (nI_clamp (by omega))) ?_
    have hPc := hP.sub (ws' := w4 b cI cZ tw nk pa nc fo th tg nt tb4 te4 tk4 tt4 ex tc es wy ab re4 go4 be) [24, 25, 26, 27, 28, 29, 30, 31, 32, 33, 34, 35, 36] rfl
    have hDc := hD.sub (ws' := w4 b cI cZ tw nk pa nc fo th tg nt tb4 te4 tk4 tt4 ex tc es wy ab re4 go4 be) [24, 25, 26, 27, 28, 29, 30, 31, 32, 33, 34, 35, 36] (by decide) rfl
    have hFc := va_free (wc := w4 b cI cZ tw nk pa nc fo th tg nt tb4 te4 tk4 tt4 ex tc es wy ab re4 go4 be) hD hS hA [24, 25, 26, 27, 28, 29, 30, 31, 32, 33, 34, 35, 36] rfl
    refine va_calli (va_runV (As := [.int (xs (i + 1))]) (rest := []) ⟨hx, hb, hml, hown, hts⟩ (c_X4_addKind l dC dI cI cZ cJ b tw nk pa nc fo th tg nt tb4 te4 tk4 tt4 ex tc es wy ab re4 go4 be (xs (i + 1)) T up H.size (by first | assumption | omega) (by first | assumption | omega)) (cwV 1 hts gL_law_X4_addKind rfl rfl rfl (by decide +kernel) ⟨Nat.le_of_ble_eq_true rfl, Nat.le_of_ble_eq_true rfl⟩) ⟨zWr_blind, va_recv hK hPc (ci := 4) (q0 := 0) rfl rfl, zWr_at hPc hK hn (hDc.weaken (fun _ _ _ _ => trivial))⟩ rfl rfl hl.1 rfl (lv_room (Nat.le_of_ble_eq_true rfl)) dL_law_200 ⟨by show _ ≤ 601024; omega, by show _ ≤ 7293034; omega⟩) hS (fun q _ h => hFc q h) hFc (fun r_57 u_9 t H1 locs ht hvm hw hB hz1 hk1 hS => ?_)
    obtain ⟨tw9_57, nk9_58, pa9_59, ab9_60⟩ := u_9
    dsimp only at hw hB
    obtain ⟨hP1, -, hD1⟩ := hB
    rw [ht] at hP1
    obtain ⟨hP, hD⟩ := va_join (wr := (w3 a cI cZ nk pa fa nc fo th tg nt tb te tk tt nu ub ue uk ut re ro fu bl go ra rc ex tc es wy) ++ ([(ou, .inl (cJ, 1, .inr (.inl fz)))])) (w1 := w4 b cI cZ tw9_57 nk9_58 pa9_59 nc fo th tg nt tb4 te4 tk4 tt4 ex tc es wy ab9_60 re4 go4 be) hP hD [24, 25, 26, 27, 28, 29, 30, 31, 32, 33, 34, 35, 36] [0, 1, 2, 3, 4, 5, 6, 7, 8, 9, 10, 11, 12, 13, 14, 15, 16, 17, 18, 19, 20, 21, 22, 23, 37] rfl rfl (by decide) (by decide) hk1 hFc hP1 hD1
    generalize H1 = H at hP hS ⊢
    have hP := hP.sub (ws' := (w3 a cI cZ nk pa fa nc fo th tg nt tb te tk tt nu ub ue uk ut re ro fu bl go ra rc ex tc es wy) ++ ((w4 b cI cZ tw9_57 nk9_58 pa9_59 nc fo th tg nt tb4 te4 tk4 tt4 ex tc es wy ab9_60 re4 go4 be) ++ ([(ou, .inl (cJ, 1, .inr (.inl fz)))]))) [0, 1, 2, 3, 4, 5, 6, 7, 8, 9, 10, 11, 12, 13, 14, 15, 16, 17, 18, 19, 20, 21, 22, 23, 25, 26, 27, 28, 29, 30, 31, 32, 33, 34, 35, 36, 37, 24] rfl
    have hD := hD.sub (ws' := (w3 a cI cZ nk pa fa nc fo th tg nt tb te tk tt nu ub ue uk ut re ro fu bl go ra rc ex tc es wy) ++ ((w4 b cI cZ tw9_57 nk9_58 pa9_59 nc fo th tg nt tb4 te4 tk4 tt4 ex tc es wy ab9_60 re4 go4 be) ++ ([(ou, .inl (cJ, 1, .inr (.inl fz)))]))) [0, 1, 2, 3, 4, 5, 6, 7, 8, 9, 10, 11, 12, 13, 14, 15, 16, 17, 18, 19, 20, 21, 22, 23, 25, 26, 27, 28, 29, 30, 31, 32, 33, 34, 35, 36, 37, 24] (by decide) rfl
    have hP : va_P (dC, dI) vwCl ((w3 a cI cZ nk pa fa nc fo th tg nt tb te tk tt nu ub ue uk ut re ro fu bl go ra rc ex tc es wy) ++ ((w4 b cI cZ tw9_57 nk9_58 pa9_59 nc fo th tg nt tb4 te4 tk4 tt4 ex tc es wy ab9_60 re4 go4 be) ++ ([(ou, .inl (cJ, 1, .inr (.inl fz)))]))) H := hP
    have hD : va_D A ((w3 a cI cZ nk pa fa nc fo th tg nt tb te tk tt nu ub ue uk ut re ro fu bl go ra rc ex tc es wy) ++ ((w4 b cI cZ tw9_57 nk9_58 pa9_59 nc fo th tg nt tb4 te4 tk4 tt4 ex tc es wy ab9_60 re4 go4 be) ++ ([(ou, .inl (cJ, 1, .inr (.inl fz)))]))) := hD
    rcases hw with ⟨h_62, h_63, h_64, h_65, h_66⟩ | ⟨h_67, h_68, h_69, h_70, h_71, h_72⟩ | ⟨h_73, h_74, h_75, h_76, h_77, h_78, h_79, h_80⟩
    · skip
      replace h_63 := h_63.symm
      subst h_63
      replace h_64 := h_64.symm
      subst h_64
      replace h_65 := h_65.symm
      subst h_65
      replace h_66 := h_66.symm
      subst h_66
      have hP : va_P (dC, dI) vwCl ((w3 a cI cZ nk pa fa nc fo th tg nt tb te tk tt nu ub ue uk ut re ro fu bl go ra rc ex tc es wy) ++ ((w4 b cI cZ 1 nk pa nc fo th tg nt tb4 te4 tk4 tt4 ex tc es wy ab re4 go4 be) ++ ([(ou, .inl (cJ, 1, .inr (.inl fz)))]))) H := hP
      have hD : va_D A ((w3 a cI cZ nk pa fa nc fo th tg nt tb te tk tt nu ub ue uk ut re ro fu bl go ra rc ex tc es wy) ++ ((w4 b cI cZ 1 nk pa nc fo th tg nt tb4 te4 tk4 tt4 ex tc es wy ab re4 go4 be) ++ ([(ou, .inl (cJ, 1, .inr (.inl fz)))]))) := hD
      refine lv_istore (lv' := [(6, .int r_57), (5, .int 1), (0, .ref sb), (1, .ref (a 0)), (2, .ref (b 0)), (3, .ref ou), (4, .int (nI i))]) hx hb dL_law_203 hl (by decide) rfl (fun ls hl => ?_)
      refine lv_aload_n hx hb dL_law_205 rfl (lv_at hl 4 rfl) ?_
      have hPc := hP.sub (ws' := w4 b cI cZ 1 nk pa nc fo th tg nt tb4 te4 tk4 tt4 ex tc es wy ab re4 go4 be) [24, 25, 26, 27, 28, 29, 30, 31, 32, 33, 34, 35, 36] rfl
      refine va_calli (va_runV (As := []) (rest := []) ⟨hx, hb, hml, hown, hts⟩ (c_X4_thrown l dC dI cI cZ cJ b 1 nk pa nc fo th tg nt tb4 te4 tk4 tt4 ex tc es wy ab re4 go4 be ) (cwV 0 hts gL_law_X4_thrown rfl rfl rfl (by decide +kernel) ⟨Nat.le_of_ble_eq_true rfl, Nat.le_of_ble_eq_true rfl⟩) ⟨zPre_blind, va_recv hK hPc (ci := 4) (q0 := 0) rfl rfl, zPre_at hPc hK hn⟩ rfl rfl hl.1 rfl (lv_room (Nat.le_of_ble_eq_true rfl)) dL_law_206 ⟨by show _ ≤ 601024; omega, by show _ ≤ 7293034; omega⟩) hS (fun _ _ h => h.elim) (fun _ h => h.elim) (fun r_81 u_9 t H locs ht hvm hw hB hz1 hk1 hS => ?_)
      have hP := zkeep hP hk1
      subst hw
      refine lv_iload hx hb dL_law_209 (lv_at hl 1 rfl) ?_
      refine lv_icmp_eq (tgt := 216) hx hb dL_law_211 (by decide) (fun c_82 => ?_) (fun c_82 => ?_)
      · skip
        refine lv_iload hx hb dL_law_216 (lv_at hl 1 rfl) ?_
        refine lv_if_ne (tgt := 233) hx hb dL_law_218 (by decide) (fun c_83 => ?_) (fun c_83 => ?_)
        · skip
          refine lv_goto (tgt := 1475) hx hb dL_law_233 (by decide) ?_
          refine W.widen (k := k0 + 100) (n := n0 + 3000) (by omega) (by omega) ?_
          exact K nk pa fa nc fo th tg nt tb te tk tt nu ub ue uk ut re ro fu bl go ra rc ex tc es wy 1 tb4 te4 tk4 tt4 ab re4 go4 be fz T up _ _ _ (by first | assumption | omega) (by first | assumption | omega) (by first | assumption | omega) hP hD hS (lv_sub hl [2, 3, 4, 5, 6] rfl)
        · exact absurd c_83 (by decide)
      · exact absurd c_82 (by decide)
    · skip
      exact absurd (h_17.symm.trans h_67) (by decide)
    · skip
      exact absurd (h_17.symm.trans h_73) (by decide)
  · skip
    replace h_22 := h_22.symm
    subst h_22
    replace h_25 := h_25.symm
    subst h_25
    replace h_26 := h_26.symm
    subst h_26
    replace h_27 := h_27.symm
    subst h_27
    replace h_28 := h_28.symm
    subst h_28
    have hP : va_P (dC, dI) vwCl ((w3 a cI cZ nk pa fa nc fo th tg nt tb te tk tt nu ub ue uk ut re ro fu bl go ra rc ex tc es wy) ++ ((w4 b cI cZ tw nk pa nc fo th tg nt tb4 te4 tk4 tt4 ex tc es wy ab re4 go4 be) ++ ([(ou, .inl (cJ, 1, .inr (.inl fz)))]))) H := hP
    have hD : va_D A ((w3 a cI cZ nk pa fa nc fo th tg nt tb te tk tt nu ub ue uk ut re ro fu bl go ra rc ex tc es wy) ++ ((w4 b cI cZ tw nk pa nc fo th tg nt tb4 te4 tk4 tt4 ex tc es wy ab re4 go4 be) ++ ([(ou, .inl (cJ, 1, .inr (.inl fz)))]))) := hD
    refine lv_istore (lv' := [(5, .int 2), (0, .ref sb), (1, .ref (a 0)), (2, .ref (b 0)), (3, .ref ou), (4, .int (nI i))]) hx hb dL_law_191 hl (by decide) rfl (fun ls hl => ?_)
    refine lv_aload_n hx hb dL_law_193 rfl (lv_at hl 3 rfl) ?_
    refine lv_aload_n hx hb dL_law_194 rfl (lv_at hl 1 rfl) ?_
    refine lv_iload hx hb dL_law_195 (lv_at hl 5 rfl) ?_
    refine lv_iconst (v := 1) hx hb dL_law_197 (by decide) ?_
    refine lv_iadd hx hb dL_law_198 ?_
    refine zz_top (y := nI (i + 1)) (nI_add _ _) ?_
    refine va_sld hx hb hX hbl hbA hS (vp_in_nI (n := i + 1) (by omega) (by omega)) dL_law_199 ?_
    refine zz_top (y := xs (i + 1)) (congrArg _ (nI_clamp (by omega))) ?_
    have hPc := hP.sub (ws' := w4 b cI cZ tw nk pa nc fo th tg nt tb4 te4 tk4 tt4 ex tc es wy ab re4 go4 be) [24, 25, 26, 27, 28, 29, 30, 31, 32, 33, 34, 35, 36] rfl
    have hDc := hD.sub (ws' := w4 b cI cZ tw nk pa nc fo th tg nt tb4 te4 tk4 tt4 ex tc es wy ab re4 go4 be) [24, 25, 26, 27, 28, 29, 30, 31, 32, 33, 34, 35, 36] (by decide) rfl
    have hFc := va_free (wc := w4 b cI cZ tw nk pa nc fo th tg nt tb4 te4 tk4 tt4 ex tc es wy ab re4 go4 be) hD hS hA [24, 25, 26, 27, 28, 29, 30, 31, 32, 33, 34, 35, 36] rfl
    refine va_calli (va_runV (As := [.int (xs (i + 1))]) (rest := []) ⟨hx, hb, hml, hown, hts⟩ (c_X4_addKind l dC dI cI cZ cJ b tw nk pa nc fo th tg nt tb4 te4 tk4 tt4 ex tc es wy ab re4 go4 be (xs (i + 1)) T up H.size (by first | assumption | omega) (by first | assumption | omega)) (cwV 1 hts gL_law_X4_addKind rfl rfl rfl (by decide +kernel) ⟨Nat.le_of_ble_eq_true rfl, Nat.le_of_ble_eq_true rfl⟩) ⟨zWr_blind, va_recv hK hPc (ci := 4) (q0 := 0) rfl rfl, zWr_at hPc hK hn (hDc.weaken (fun _ _ _ _ => trivial))⟩ rfl rfl hl.1 rfl (lv_room (Nat.le_of_ble_eq_true rfl)) dL_law_200 ⟨by show _ ≤ 601024; omega, by show _ ≤ 7293034; omega⟩) hS (fun q _ h => hFc q h) hFc (fun r_84 u_9 t H1 locs ht hvm hw hB hz1 hk1 hS => ?_)
    obtain ⟨tw9_84, nk9_85, pa9_86, ab9_87⟩ := u_9
    dsimp only at hw hB
    obtain ⟨hP1, -, hD1⟩ := hB
    rw [ht] at hP1
    obtain ⟨hP, hD⟩ := va_join (wr := (w3 a cI cZ nk pa fa nc fo th tg nt tb te tk tt nu ub ue uk ut re ro fu bl go ra rc ex tc es wy) ++ ([(ou, .inl (cJ, 1, .inr (.inl fz)))])) (w1 := w4 b cI cZ tw9_84 nk9_85 pa9_86 nc fo th tg nt tb4 te4 tk4 tt4 ex tc es wy ab9_87 re4 go4 be) hP hD [24, 25, 26, 27, 28, 29, 30, 31, 32, 33, 34, 35, 36] [0, 1, 2, 3, 4, 5, 6, 7, 8, 9, 10, 11, 12, 13, 14, 15, 16, 17, 18, 19, 20, 21, 22, 23, 37] rfl rfl (by decide) (by decide) hk1 hFc hP1 hD1
    generalize H1 = H at hP hS ⊢
    have hP := hP.sub (ws' := (w3 a cI cZ nk pa fa nc fo th tg nt tb te tk tt nu ub ue uk ut re ro fu bl go ra rc ex tc es wy) ++ ((w4 b cI cZ tw9_84 nk9_85 pa9_86 nc fo th tg nt tb4 te4 tk4 tt4 ex tc es wy ab9_87 re4 go4 be) ++ ([(ou, .inl (cJ, 1, .inr (.inl fz)))]))) [0, 1, 2, 3, 4, 5, 6, 7, 8, 9, 10, 11, 12, 13, 14, 15, 16, 17, 18, 19, 20, 21, 22, 23, 25, 26, 27, 28, 29, 30, 31, 32, 33, 34, 35, 36, 37, 24] rfl
    have hD := hD.sub (ws' := (w3 a cI cZ nk pa fa nc fo th tg nt tb te tk tt nu ub ue uk ut re ro fu bl go ra rc ex tc es wy) ++ ((w4 b cI cZ tw9_84 nk9_85 pa9_86 nc fo th tg nt tb4 te4 tk4 tt4 ex tc es wy ab9_87 re4 go4 be) ++ ([(ou, .inl (cJ, 1, .inr (.inl fz)))]))) [0, 1, 2, 3, 4, 5, 6, 7, 8, 9, 10, 11, 12, 13, 14, 15, 16, 17, 18, 19, 20, 21, 22, 23, 25, 26, 27, 28, 29, 30, 31, 32, 33, 34, 35, 36, 37, 24] (by decide) rfl
    have hP : va_P (dC, dI) vwCl ((w3 a cI cZ nk pa fa nc fo th tg nt tb te tk tt nu ub ue uk ut re ro fu bl go ra rc ex tc es wy) ++ ((w4 b cI cZ tw9_84 nk9_85 pa9_86 nc fo th tg nt tb4 te4 tk4 tt4 ex tc es wy ab9_87 re4 go4 be) ++ ([(ou, .inl (cJ, 1, .inr (.inl fz)))]))) H := hP
    have hD : va_D A ((w3 a cI cZ nk pa fa nc fo th tg nt tb te tk tt nu ub ue uk ut re ro fu bl go ra rc ex tc es wy) ++ ((w4 b cI cZ tw9_84 nk9_85 pa9_86 nc fo th tg nt tb4 te4 tk4 tt4 ex tc es wy ab9_87 re4 go4 be) ++ ([(ou, .inl (cJ, 1, .inr (.inl fz)))]))) := hD
    rcases hw with ⟨h_89, h_90, h_91, h_92, h_93⟩ | ⟨h_94, h_95, h_96, h_97, h_98, h_99⟩ | ⟨h_100, h_101, h_102, h_103, h_104, h_105, h_106, h_107⟩
    · skip
      exact absurd (h_23.symm.trans h_89) (by decide)
    · skip
      replace h_96 := h_96.symm
      subst h_96
      replace h_97 := h_97.symm
      subst h_97
      replace h_98 := h_98.symm
      subst h_98
      replace h_99 := h_99.symm
      subst h_99
      have hP : va_P (dC, dI) vwCl ((w3 a cI cZ nk pa fa nc fo th tg nt tb te tk tt nu ub ue uk ut re ro fu bl go ra rc ex tc es wy) ++ ((w4 b cI cZ 2 nk pa nc fo th tg nt tb4 te4 tk4 tt4 ex tc es wy ab re4 go4 be) ++ ([(ou, .inl (cJ, 1, .inr (.inl fz)))]))) H := hP
      have hD : va_D A ((w3 a cI cZ nk pa fa nc fo th tg nt tb te tk tt nu ub ue uk ut re ro fu bl go ra rc ex tc es wy) ++ ((w4 b cI cZ 2 nk pa nc fo th tg nt tb4 te4 tk4 tt4 ex tc es wy ab re4 go4 be) ++ ([(ou, .inl (cJ, 1, .inr (.inl fz)))]))) := hD
      refine lv_istore (lv' := [(6, .int r_84), (5, .int 2), (0, .ref sb), (1, .ref (a 0)), (2, .ref (b 0)), (3, .ref ou), (4, .int (nI i))]) hx hb dL_law_203 hl (by decide) rfl (fun ls hl => ?_)
      refine lv_aload_n hx hb dL_law_205 rfl (lv_at hl 4 rfl) ?_
      have hPc := hP.sub (ws' := w4 b cI cZ 2 nk pa nc fo th tg nt tb4 te4 tk4 tt4 ex tc es wy ab re4 go4 be) [24, 25, 26, 27, 28, 29, 30, 31, 32, 33, 34, 35, 36] rfl
      refine va_calli (va_runV (As := []) (rest := []) ⟨hx, hb, hml, hown, hts⟩ (c_X4_thrown l dC dI cI cZ cJ b 2 nk pa nc fo th tg nt tb4 te4 tk4 tt4 ex tc es wy ab re4 go4 be ) (cwV 0 hts gL_law_X4_thrown rfl rfl rfl (by decide +kernel) ⟨Nat.le_of_ble_eq_true rfl, Nat.le_of_ble_eq_true rfl⟩) ⟨zPre_blind, va_recv hK hPc (ci := 4) (q0 := 0) rfl rfl, zPre_at hPc hK hn⟩ rfl rfl hl.1 rfl (lv_room (Nat.le_of_ble_eq_true rfl)) dL_law_206 ⟨by show _ ≤ 601024; omega, by show _ ≤ 7293034; omega⟩) hS (fun _ _ h => h.elim) (fun _ h => h.elim) (fun r_108 u_9 t H locs ht hvm hw hB hz1 hk1 hS => ?_)
      have hP := zkeep hP hk1
      subst hw
      refine lv_iload hx hb dL_law_209 (lv_at hl 1 rfl) ?_
      refine lv_icmp_eq (tgt := 216) hx hb dL_law_211 (by decide) (fun c_109 => ?_) (fun c_109 => ?_)
      · skip
        refine lv_iload hx hb dL_law_216 (lv_at hl 1 rfl) ?_
        refine lv_if_ne (tgt := 233) hx hb dL_law_218 (by decide) (fun c_110 => ?_) (fun c_110 => ?_)
        · skip
          refine lv_goto (tgt := 1475) hx hb dL_law_233 (by decide) ?_
          refine W.widen (k := k0 + 100) (n := n0 + 3000) (by omega) (by omega) ?_
          exact K nk pa fa nc fo th tg nt tb te tk tt nu ub ue uk ut re ro fu bl go ra rc ex tc es wy 2 tb4 te4 tk4 tt4 ab re4 go4 be fz T up _ _ _ (by first | assumption | omega) (by first | assumption | omega) (by first | assumption | omega) hP hD hS (lv_sub hl [2, 3, 4, 5, 6] rfl)
        · exact absurd c_110 (by decide)
      · exact absurd c_109 (by decide)
    · skip
      omega

set_option maxHeartbeats 4000000 in
set_option maxRecDepth 100000 in
theorem lk_1 {p : Program} {e : Env} {s : State} {m : MethodId} {below : List Frame} {meth : Method} {c : Code} {Q : State → Prop} (l : Launch) {sb L : Nat} {xs : Nat → Int32} (dC : Nat → ClassId) (dI : Nat → Nat → Nat) (cI cZ cJ : ClassId) (a b : Nat → Nat) (ou i k0 n0 : Nat) (hF0 : lwF p l s m c sb L xs dC dI cI cZ cJ) (hi : i + 5 ≤ L) (hk0 : k0 + 100 ≤ 601024) (hn0 : n0 + 3000 ≤ 7293034) (nk : Nat) (pa : Nat → Int32) (fa : Nat → Int32) (nc : Nat) (fo : Nat → Int32) (th : Nat → Int32) (tg : Nat → Int32) (nt : Nat) (tb : Nat → Int32) (te : Nat → Int32) (tk : Nat → Int32) (tt : Nat → Int32) (nu : Nat) (ub : Nat → Int32) (ue : Nat → Int32) (uk : Nat → Int32) (ut : Nat → Int32) (re : Nat → Int32) (ro : Nat → Int32) (fu : Nat → Int32) (bl : Nat → Int32) (go : Nat → Int32) (ra : Nat → Int32) (rc : Nat) (ex : Int32) (tc : Int32) (es : Int32) (wy : Int64) (tw : Int32) (tb4 : Nat → Int32) (te4 : Nat → Int32) (tk4 : Nat → Int32) (tt4 : Nat → Int32) (ab : Nat → Int32) (re4 : Nat → Int32) (go4 : Nat → Int32) (be : Nat → Int32) (fz : Nat → Int64) (T : Nat → Nat → Nat) (up : Nat → Nat → Bool) (hg : g3 nk fa up nt tb te tk tt T) (hg4 : g4 nk ab up nt tb4 te4 tk4 tt4 T) (hc : okC nk nc fo th tg) (H : Heap) (locs : List Loc) (ls : Array Slot) (hP : va_P (dC, dI) vwCl ((w3 a cI cZ nk pa fa nc fo th tg nt tb te tk tt nu ub ue uk ut re ro fu bl go ra rc ex tc es wy) ++ ((w4 b cI cZ tw nk pa nc fo th tg nt tb4 te4 tk4 tt4 ex tc es wy ab re4 go4 be) ++ ([(ou, .inl (cJ, 1, .inr (.inl fz)))]))) H) (hD : va_D (fun q => s.heap.size ≤ q) ((w3 a cI cZ nk pa fa nc fo th tg nt tb te tk tt nu ub ue uk ut re ro fu bl go ra rc ex tc es wy) ++ ((w4 b cI cZ tw nk pa nc fo th tg nt tb4 te4 tk4 tt4 ex tc es wy ab re4 go4 be) ++ ([(ou, .inl (cJ, 1, .inr (.inl fz)))])))) (hS : va_S (fun q => s.heap.size ≤ q) s.heap H locs) (hl : lv_has ls 9 [(0, .ref sb), (1, .ref (a 0)), (2, .ref (b 0)), (3, .ref ou), (4, .int (nI i))]) (K : ∀ (nk : Nat) (pa : Nat → Int32) (fa : Nat → Int32) (nc : Nat) (fo : Nat → Int32) (th : Nat → Int32) (tg : Nat → Int32) (nt : Nat) (tb : Nat → Int32) (te : Nat → Int32) (tk : Nat → Int32) (tt : Nat → Int32) (nu : Nat) (ub : Nat → Int32) (ue : Nat → Int32) (uk : Nat → Int32) (ut : Nat → Int32) (re : Nat → Int32) (ro : Nat → Int32) (fu : Nat → Int32) (bl : Nat → Int32) (go : Nat → Int32) (ra : Nat → Int32) (rc : Nat) (ex : Int32) (tc : Int32) (es : Int32) (wy : Int64) (tw : Int32) (tb4 : Nat → Int32) (te4 : Nat → Int32) (tk4 : Nat → Int32) (tt4 : Nat → Int32) (ab : Nat → Int32) (re4 : Nat → Int32) (go4 : Nat → Int32) (be : Nat → Int32) (fz : Nat → Int64) (T : Nat → Nat → Nat) (up : Nat → Nat → Bool) (H : Heap) (locs : List Loc) (ls : Array Slot), g3 nk fa up nt tb te tk tt T → g4 nk ab up nt tb4 te4 tk4 tt4 T → okC nk nc fo th tg → va_P (dC, dI) vwCl ((w3 a cI cZ nk pa fa nc fo th tg nt tb te tk tt nu ub ue uk ut re ro fu bl go ra rc ex tc es wy) ++ ((w4 b cI cZ tw nk pa nc fo th tg nt tb4 te4 tk4 tt4 ex tc es wy ab re4 go4 be) ++ ([(ou, .inl (cJ, 1, .inr (.inl fz)))]))) H → va_D (fun q => s.heap.size ≤ q) ((w3 a cI cZ nk pa fa nc fo th tg nt tb te tk tt nu ub ue uk ut re ro fu bl go ra rc ex tc es wy) ++ ((w4 b cI cZ tw nk pa nc fo th tg nt tb4 te4 tk4 tt4 ex tc es wy ab re4 go4 be) ++ ([(ou, .inl (cJ, 1, .inr (.inl fz)))]))) → va_S (fun q => s.heap.size ≤ q) s.heap H locs → lv_has ls 9 [(0, .ref sb), (1, .ref (a 0)), (2, .ref (b 0)), (3, .ref ou), (4, .int (nI i))] → W p l e room_1 s m #[Value.ref sb] below meth c H locs (k0 + 100) (n0 + 3000) Q (F0 m 1475 ls [])) : W p l e room_1 s m #[Value.ref sb] below meth c H locs k0 n0 Q (F0 m 236 ls []) := by
  obtain ⟨hx, hb, hml, hown, hts, hX, hbl, hL, hK, hn, hzt, hzu, hzc, hlt⟩ := id hF0
  obtain ⟨A, hAe⟩ : ∃ A : Nat → Prop, A = fun q => s.heap.size ≤ q := ⟨_, rfl⟩
  have hbA : ¬ A sb := by rw [hAe]; exact Nat.not_le.mpr hbl
  have hA : ∀ q : Nat, s.heap.size ≤ q → A q := fun q h => by rw [hAe]; exact h
  rw [← hAe] at hD hS hzu K
  refine lv_aload_n hx hb dL_law_236 rfl (lv_at hl 1 rfl) ?_
  have hPc := hP.sub (ws' := w3 a cI cZ nk pa fa nc fo th tg nt tb te tk tt nu ub ue uk ut re ro fu bl go ra rc ex tc es wy) [0, 1, 2, 3, 4, 5, 6, 7, 8, 9, 10, 11, 12, 13, 14, 15, 16, 17, 18, 19, 20, 21, 22, 23] rfl
  refine va_calli (va_runV (As := []) (rest := []) ⟨hx, hb, hml, hown, hts⟩ (c_X3_kindCount l dC dI cI cZ cJ a nk pa fa nc fo th tg nt tb te tk tt nu ub ue uk ut re ro fu bl go ra rc ex tc es wy ) (cwV 0 hts gL_law_X3_kindCount rfl rfl rfl (by decide +kernel) ⟨Nat.le_of_ble_eq_true rfl, Nat.le_of_ble_eq_true rfl⟩) ⟨zPre_blind, va_recv hK hPc (ci := 3) (q0 := 0) rfl rfl, zPre_at hPc hK hn⟩ rfl rfl hl.1 rfl (lv_room (Nat.le_of_ble_eq_true rfl)) dL_law_237 ⟨by show _ ≤ 601024; omega, by show _ ≤ 7293034; omega⟩) hS (fun _ _ h => h.elim) (fun _ h => h.elim) (fun r_1 u_9 t H locs ht hvm hw hB hz1 hk1 hS => ?_)
  have hP := zkeep hP hk1
  subst hw
  refine lv_aload_n hx hb dL_law_240 rfl (lv_at hl 2 rfl) ?_
  have hPc := hP.sub (ws' := w4 b cI cZ tw nk pa nc fo th tg nt tb4 te4 tk4 tt4 ex tc es wy ab re4 go4 be) [24, 25, 26, 27, 28, 29, 30, 31, 32, 33, 34, 35, 36] rfl
  have hDc := hD.sub (ws' := w4 b cI cZ tw nk pa nc fo th tg nt tb4 te4 tk4 tt4 ex tc es wy ab re4 go4 be) [24, 25, 26, 27, 28, 29, 30, 31, 32, 33, 34, 35, 36] (by decide) rfl
  have hFc := va_free (wc := w4 b cI cZ tw nk pa nc fo th tg nt tb4 te4 tk4 tt4 ex tc es wy ab re4 go4 be) hD hS hA [24, 25, 26, 27, 28, 29, 30, 31, 32, 33, 34, 35, 36] rfl
  refine va_calli (va_runV (As := []) (rest := [.int (nI nk)]) ⟨hx, hb, hml, hown, hts⟩ (c_X4_kindCount l dC dI cI cZ cJ b tw nk pa nc fo th tg nt tb4 te4 tk4 tt4 ex tc es wy ab re4 go4 be H.size ) (cwV 0 hts gL_law_X4_kindCount rfl rfl rfl (by decide +kernel) ⟨Nat.le_of_ble_eq_true rfl, Nat.le_of_ble_eq_true rfl⟩) ⟨zWr_blind, va_recv hK hPc (ci := 4) (q0 := 0) rfl rfl, zWr_at hPc hK hn (hDc.weaken (fun _ _ _ _ => trivial))⟩ rfl rfl hl.1 rfl (lv_room (Nat.le_of_ble_eq_true rfl)) dL_law_241 ⟨by show _ ≤ 601024; omega, by show _ ≤ 7293034; omega⟩) hS (fun q _ h => hFc q h) hFc (fun r_2 u_9 t H1 locs ht hvm hw hB hz1 hk1 hS => ?_)
  obtain ⟨hP1, -, hD1⟩ := hB
  rw [ht] at hP1
  obtain ⟨hP, hD⟩ := va_join (wr := (w3 a cI cZ nk pa fa nc fo th tg nt tb te tk tt nu ub ue uk ut re ro fu bl go ra rc ex tc es wy) ++ ([(ou, .inl (cJ, 1, .inr (.inl fz)))])) (w1 := w4 b cI cZ 0 nk pa nc fo th tg nt tb4 te4 tk4 tt4 ex tc es wy ab re4 go4 be) hP hD [24, 25, 26, 27, 28, 29, 30, 31, 32, 33, 34, 35, 36] [0, 1, 2, 3, 4, 5, 6, 7, 8, 9, 10, 11, 12, 13, 14, 15, 16, 17, 18, 19, 20, 21, 22, 23, 37] rfl rfl (by decide) (by decide) hk1 hFc hP1 hD1
  generalize H1 = H at hP hS ⊢
  have hP := hP.sub (ws' := (w3 a cI cZ nk pa fa nc fo th tg nt tb te tk tt nu ub ue uk ut re ro fu bl go ra rc ex tc es wy) ++ ((w4 b cI cZ 0 nk pa nc fo th tg nt tb4 te4 tk4 tt4 ex tc es wy ab re4 go4 be) ++ ([(ou, .inl (cJ, 1, .inr (.inl fz)))]))) [0, 1, 2, 3, 4, 5, 6, 7, 8, 9, 10, 11, 12, 13, 14, 15, 16, 17, 18, 19, 20, 21, 22, 23, 25, 26, 27, 28, 29, 30, 31, 32, 33, 34, 35, 36, 37, 24] rfl
  have hD := hD.sub (ws' := (w3 a cI cZ nk pa fa nc fo th tg nt tb te tk tt nu ub ue uk ut re ro fu bl go ra rc ex tc es wy) ++ ((w4 b cI cZ 0 nk pa nc fo th tg nt tb4 te4 tk4 tt4 ex tc es wy ab re4 go4 be) ++ ([(ou, .inl (cJ, 1, .inr (.inl fz)))]))) [0, 1, 2, 3, 4, 5, 6, 7, 8, 9, 10, 11, 12, 13, 14, 15, 16, 17, 18, 19, 20, 21, 22, 23, 25, 26, 27, 28, 29, 30, 31, 32, 33, 34, 35, 36, 37, 24] (by decide) rfl
  have hP : va_P (dC, dI) vwCl ((w3 a cI cZ nk pa fa nc fo th tg nt tb te tk tt nu ub ue uk ut re ro fu bl go ra rc ex tc es wy) ++ ((w4 b cI cZ 0 nk pa nc fo th tg nt tb4 te4 tk4 tt4 ex tc es wy ab re4 go4 be) ++ ([(ou, .inl (cJ, 1, .inr (.inl fz)))]))) H := hP
  have hD : va_D A ((w3 a cI cZ nk pa fa nc fo th tg nt tb te tk tt nu ub ue uk ut re ro fu bl go ra rc ex tc es wy) ++ ((w4 b cI cZ 0 nk pa nc fo th tg nt tb4 te4 tk4 tt4 ex tc es wy ab re4 go4 be) ++ ([(ou, .inl (cJ, 1, .inr (.inl fz)))]))) := hD
  subst hw
  refine lv_icmp_eq (tgt := 1475) hx hb dL_law_244 (by decide) (fun c_3 => ?_) (fun c_3 => ?_)
  · skip
    skip
    refine W.widen (k := k0 + 100) (n := n0 + 3000) (by omega) (by omega) ?_
    exact K nk pa fa nc fo th tg nt tb te tk tt nu ub ue uk ut re ro fu bl go ra rc ex tc es wy 0 tb4 te4 tk4 tt4 ab re4 go4 be fz T up _ _ _ (by first | assumption | omega) (by first | assumption | omega) (by first | assumption | omega) hP hD hS (lv_sub hl [0, 1, 2, 3, 4] rfl)
  · exact absurd rfl c_3

set_option maxHeartbeats 4000000 in
set_option maxRecDepth 100000 in
theorem lk_2 {p : Program} {e : Env} {s : State} {m : MethodId} {below : List Frame} {meth : Method} {c : Code} {Q : State → Prop} (l : Launch) {sb L : Nat} {xs : Nat → Int32} (dC : Nat → ClassId) (dI : Nat → Nat → Nat) (cI cZ cJ : ClassId) (a b : Nat → Nat) (ou i k0 n0 : Nat) (hF0 : lwF p l s m c sb L xs dC dI cI cZ cJ) (hi : i + 5 ≤ L) (hk0 : k0 + 100 ≤ 601024) (hn0 : n0 + 3000 ≤ 7293034) (nk : Nat) (pa : Nat → Int32) (fa : Nat → Int32) (nc : Nat) (fo : Nat → Int32) (th : Nat → Int32) (tg : Nat → Int32) (nt : Nat) (tb : Nat → Int32) (te : Nat → Int32) (tk : Nat → Int32) (tt : Nat → Int32) (nu : Nat) (ub : Nat → Int32) (ue : Nat → Int32) (uk : Nat → Int32) (ut : Nat → Int32) (re : Nat → Int32) (ro : Nat → Int32) (fu : Nat → Int32) (bl : Nat → Int32) (go : Nat → Int32) (ra : Nat → Int32) (rc : Nat) (ex : Int32) (tc : Int32) (es : Int32) (wy : Int64) (tw : Int32) (tb4 : Nat → Int32) (te4 : Nat → Int32) (tk4 : Nat → Int32) (tt4 : Nat → Int32) (ab : Nat → Int32) (re4 : Nat → Int32) (go4 : Nat → Int32) (be : Nat → Int32) (fz : Nat → Int64) (T : Nat → Nat → Nat) (up : Nat → Nat → Bool) (hg : g3 nk fa up nt tb te tk tt T) (hg4 : g4 nk ab up nt tb4 te4 tk4 tt4 T) (hc : okC nk nc fo th tg) (H : Heap) (locs : List Loc) (ls : Array Slot) (hP : va_P (dC, dI) vwCl ((w3 a cI cZ nk pa fa nc fo th tg nt tb te tk tt nu ub ue uk ut re ro fu bl go ra rc ex tc es wy) ++ ((w4 b cI cZ tw nk pa nc fo th tg nt tb4 te4 tk4 tt4 ex tc es wy ab re4 go4 be) ++ ([(ou, .inl (cJ, 1, .inr (.inl fz)))]))) H) (hD : va_D (fun q => s.heap.size ≤ q) ((w3 a cI cZ nk pa fa nc fo th tg nt tb te tk tt nu ub ue uk ut re ro fu bl go ra rc ex tc es wy) ++ ((w4 b cI cZ tw nk pa nc fo th tg nt tb4 te4 tk4 tt4 ex tc es wy ab re4 go4 be) ++ ([(ou, .inl (cJ, 1, .inr (.inl fz)))])))) (hS : va_S (fun q => s.heap.size ≤ q) s.heap H locs) (hl : lv_has ls 9 [(0, .ref sb), (1, .ref (a 0)), (2, .ref (b 0)), (3, .ref ou), (4, .int (nI i))]) (K : ∀ (nk : Nat) (pa : Nat → Int32) (fa : Nat → Int32) (nc : Nat) (fo : Nat → Int32) (th : Nat → Int32) (tg : Nat → Int32) (nt : Nat) (tb : Nat → Int32) (te : Nat → Int32) (tk : Nat → Int32) (tt : Nat → Int32) (nu : Nat) (ub : Nat → Int32) (ue : Nat → Int32) (uk : Nat → Int32) (ut : Nat → Int32) (re : Nat → Int32) (ro : Nat → Int32) (fu : Nat → Int32) (bl : Nat → Int32) (go : Nat → Int32) (ra : Nat → Int32) (rc : Nat) (ex : Int32) (tc : Int32) (es : Int32) (wy : Int64) (tw : Int32) (tb4 : Nat → Int32) (te4 : Nat → Int32) (tk4 : Nat → Int32) (tt4 : Nat → Int32) (ab : Nat → Int32) (re4 : Nat → Int32) (go4 : Nat → Int32) (be : Nat → Int32) (fz : Nat → Int64) (T : Nat → Nat → Nat) (up : Nat → Nat → Bool) (H : Heap) (locs : List Loc) (ls : Array Slot), g3 nk fa up nt tb te tk tt T → g4 nk ab up nt tb4 te4 tk4 tt4 T → okC nk nc fo th tg → va_P (dC, dI) vwCl ((w3 a cI cZ nk pa fa nc fo th tg nt tb te tk tt nu ub ue uk ut re ro fu bl go ra rc ex tc es wy) ++ ((w4 b cI cZ tw nk pa nc fo th tg nt tb4 te4 tk4 tt4 ex tc es wy ab re4 go4 be) ++ ([(ou, .inl (cJ, 1, .inr (.inl fz)))]))) H → va_D (fun q => s.heap.size ≤ q) ((w3 a cI cZ nk pa fa nc fo th tg nt tb te tk tt nu ub ue uk ut re ro fu bl go ra rc ex tc es wy) ++ ((w4 b cI cZ tw nk pa nc fo th tg nt tb4 te4 tk4 tt4 ex tc es wy ab re4 go4 be) ++ ([(ou, .inl (cJ, 1, .inr (.inl fz)))]))) → va_S (fun q => s.heap.size ≤ q) s.heap H locs → lv_has ls 9 [(0, .ref sb), (1, .ref (a 0)), (2, .ref (b 0)), (3, .ref ou), (4, .int (nI i))] → W p l e room_1 s m #[Value.ref sb] below meth c H locs (k0 + 100) (n0 + 3000) Q (F0 m 1475 ls [])) : W p l e room_1 s m #[Value.ref sb] below meth c H locs k0 n0 Q (F0 m 249 ls []) := by
  obtain ⟨hx, hb, hml, hown, hts, hX, hbl, hL, hK, hn, hzt, hzu, hzc, hlt⟩ := id hF0
  obtain ⟨A, hAe⟩ : ∃ A : Nat → Prop, A = fun q => s.heap.size ≤ q := ⟨_, rfl⟩
  have hbA : ¬ A sb := by rw [hAe]; exact Nat.not_le.mpr hbl
  have hA : ∀ q : Nat, s.heap.size ≤ q → A q := fun q h => by rw [hAe]; exact h
  rw [← hAe] at hD hS hzu K
  refine lv_aload_n hx hb dL_law_249 rfl (lv_at hl 1 rfl) ?_
  refine lv_aload_n hx hb dL_law_250 rfl (lv_at hl 0 rfl) ?_
  refine lv_iload hx hb dL_law_251 (lv_at hl 4 rfl) ?_
  refine lv_iconst (v := 1) hx hb dL_law_253 (by decide) ?_
  refine lv_iadd hx hb dL_law_254 ?_
  refine zz_top (y := nI (i + 1)) (nI_add _ _) ?_
  refine va_sld hx hb hX hbl hbA hS (vp_in_nI (n := i + 1) (by omega) (by omega)) dL_law_255 ?_
  refine zz_top (y := xs (i + 1)) (congrArg _ (nI_clamp (by omega))) ?_
  refine lv_aload_n hx hb dL_law_256 rfl (lv_at hl 0 rfl) ?_
  refine lv_iload hx hb dL_law_257 (lv_at hl 4 rfl) ?_
  refine lv_iconst (v := 2) hx hb dL_law_259 (by decide) ?_
  refine lv_iadd hx hb dL_law_260 ?_
  refine zz_top (y := nI (i + 2)) (nI_add _ _) ?_
  refine va_sld hx hb hX hbl hbA hS (vp_in_nI (n := i + 2) (by omega) (by omega)) dL_law_261 ?_
  refine zz_top (y := xs (i + 2)) (congrArg _ (nI_clamp (by omega))) ?_
  refine lv_aload_n hx hb dL_law_262 rfl (lv_at hl 3 rfl) ?_
  have hPc := hP.sub (ws' := (w3 a cI cZ nk pa fa nc fo th tg nt tb te tk tt nu ub ue uk ut re ro fu bl go ra rc ex tc es wy) ++ ([(ou, .inl (cJ, 1, .inr (.inl fz)))])) [0, 1, 2, 3, 4, 5, 6, 7, 8, 9, 10, 11, 12, 13, 14, 15, 16, 17, 18, 19, 20, 21, 22, 23, 37] rfl
  have hDc := hD.sub (ws' := (w3 a cI cZ nk pa fa nc fo th tg nt tb te tk tt nu ub ue uk ut re ro fu bl go ra rc ex tc es wy) ++ ([(ou, .inl (cJ, 1, .inr (.inl fz)))])) [0, 1, 2, 3, 4, 5, 6, 7, 8, 9, 10, 11, 12, 13, 14, 15, 16, 17, 18, 19, 20, 21, 22, 23, 37] (by decide) rfl
  have hFc := va_free (wc := (w3 a cI cZ nk pa fa nc fo th tg nt tb te tk tt nu ub ue uk ut re ro fu bl go ra rc ex tc es wy) ++ ([(ou, .inl (cJ, 1, .inr (.inl fz)))])) hD hS hA [0, 1, 2, 3, 4, 5, 6, 7, 8, 9, 10, 11, 12, 13, 14, 15, 16, 17, 18, 19, 20, 21, 22, 23, 37] rfl
  refine va_calli (vx_runSW (As := [.ref (a 0), .int (xs (i + 1)), .int (xs (i + 2)), .ref ou]) (rest := []) ⟨hx, hb, hml, hown, hts⟩ (c_L_isBelow l dC dI cI cZ cJ a nk pa fa nc fo th tg nt tb te tk tt nu ub ue uk ut re ro fu bl go ra rc ex tc es wy (xs (i + 1)) (xs (i + 2)) T up ou fz H.size hlt (by first | assumption | omega) (by first | assumption | omega)) (vx_cwSW 4 hts gL_law_L_isBelow rfl rfl rfl (by decide +kernel) ⟨Nat.le_of_ble_eq_true rfl, Nat.le_of_ble_eq_true rfl⟩) ⟨zTl_blind, zTl_at hPc hK hn (hDc.weaken (fun _ _ _ _ => trivial)) hzt hzu hS hFc hzc⟩ rfl rfl hl.1 rfl (lv_room (Nat.le_of_ble_eq_true rfl)) dL_law_263 ⟨by show _ ≤ 601024; omega, by show _ ≤ 7293034; omega⟩) hS (fun q _ h => hFc q h) hFc (fun r_1 u_9 t H1 locs ht hvm hw hB hz1 hk1 hS => ?_)
  obtain ⟨fz9_1, rfl⟩ : ∃ z, z = u_9 := ⟨_, rfl⟩
  obtain ⟨hP1, -, hD1⟩ := hB
  rw [ht] at hP1
  obtain ⟨hP, hD⟩ := va_join (wr := w4 b cI cZ tw nk pa nc fo th tg nt tb4 te4 tk4 tt4 ex tc es wy ab re4 go4 be) (w1 := (w3 a cI cZ nk pa fa nc fo th tg nt tb te tk tt nu ub ue uk ut re ro fu bl go ra rc ex tc es wy) ++ ([(ou, .inl (cJ, 1, .inr (.inl fz9_1)))])) hP hD [0, 1, 2, 3, 4, 5, 6, 7, 8, 9, 10, 11, 12, 13, 14, 15, 16, 17, 18, 19, 20, 21, 22, 23, 37] [24, 25, 26, 27, 28, 29, 30, 31, 32, 33, 34, 35, 36] rfl rfl (by decide) (by decide) hk1 hFc hP1 hD1
  generalize H1 = H at hP hS ⊢
  have hP := hP.sub (ws' := (w3 a cI cZ nk pa fa nc fo th tg nt tb te tk tt nu ub ue uk ut re ro fu bl go ra rc ex tc es wy) ++ ((w4 b cI cZ tw nk pa nc fo th tg nt tb4 te4 tk4 tt4 ex tc es wy ab re4 go4 be) ++ ([(ou, .inl (cJ, 1, .inr (.inl fz9_1)))]))) [13, 14, 15, 16, 17, 18, 19, 20, 21, 22, 23, 24, 25, 26, 27, 28, 29, 30, 31, 32, 33, 34, 35, 36, 0, 1, 2, 3, 4, 5, 6, 7, 8, 9, 10, 11, 12, 37] rfl
  have hD := hD.sub (ws' := (w3 a cI cZ nk pa fa nc fo th tg nt tb te tk tt nu ub ue uk ut re ro fu bl go ra rc ex tc es wy) ++ ((w4 b cI cZ tw nk pa nc fo th tg nt tb4 te4 tk4 tt4 ex tc es wy ab re4 go4 be) ++ ([(ou, .inl (cJ, 1, .inr (.inl fz9_1)))]))) [13, 14, 15, 16, 17, 18, 19, 20, 21, 22, 23, 24, 25, 26, 27, 28, 29, 30, 31, 32, 33, 34, 35, 36, 0, 1, 2, 3, 4, 5, 6, 7, 8, 9, 10, 11, 12, 37] (by decide) rfl
  have hP : va_P (dC, dI) vwCl ((w3 a cI cZ nk pa fa nc fo th tg nt tb te tk tt nu ub ue uk ut re ro fu bl go ra rc ex tc es wy) ++ ((w4 b cI cZ tw nk pa nc fo th tg nt tb4 te4 tk4 tt4 ex tc es wy ab re4 go4 be) ++ ([(ou, .inl (cJ, 1, .inr (.inl fz9_1)))]))) H := hP
  have hD : va_D A ((w3 a cI cZ nk pa fa nc fo th tg nt tb te tk tt nu ub ue uk ut re ro fu bl go ra rc ex tc es wy) ++ ((w4 b cI cZ tw nk pa nc fo th tg nt tb4 te4 tk4 tt4 ex tc es wy ab re4 go4 be) ++ ([(ou, .inl (cJ, 1, .inr (.inl fz9_1)))]))) := hD
  refine W.widen (k := k0 + 2) (n := n0 + 12) (by omega) (by omega) ?_
  rcases hw with ⟨h_3, h_4, h_5⟩ | ⟨h_6, h_7, h_8⟩
  · skip
    replace h_3 := h_3.symm
    subst h_3
    replace h_4 := h_4.symm
    subst h_4
    have hP : va_P (dC, dI) vwCl ((w3 a cI cZ nk pa fa nc fo th tg nt tb te tk tt nu ub ue uk ut re ro fu bl go ra rc ex tc es wy) ++ ((w4 b cI cZ tw nk pa nc fo th tg nt tb4 te4 tk4 tt4 ex tc es wy ab re4 go4 be) ++ ([(ou, .inl (cJ, 1, .inr (.inl (vp_updL fz 0 (bL ((!decide ((xs (i + 1)) = (xs (i + 2))) && up (xs (i + 1)).toNatClampNeg (xs (i + 2)).toNatClampNeg)))))))]))) H := hP
    have hD : va_D A ((w3 a cI cZ nk pa fa nc fo th tg nt tb te tk tt nu ub ue uk ut re ro fu bl go ra rc ex tc es wy) ++ ((w4 b cI cZ tw nk pa nc fo th tg nt tb4 te4 tk4 tt4 ex tc es wy ab re4 go4 be) ++ ([(ou, .inl (cJ, 1, .inr (.inl (vp_updL fz 0 (bL ((!decide ((xs (i + 1)) = (xs (i + 2))) && up (xs (i + 1)).toNatClampNeg (xs (i + 2)).toNatClampNeg)))))))]))) := hD
    refine lv_istore (lv' := [(5, .int 0), (0, .ref sb), (1, .ref (a 0)), (2, .ref (b 0)), (3, .ref ou), (4, .int (nI i))]) hx hb dL_law_266 hl (by decide) rfl (fun ls hl => ?_)
    refine lv_aload_n hx hb dL_law_268 rfl (lv_at hl 3 rfl) ?_
    refine lv_aload_n hx hb dL_law_269 rfl (lv_at hl 1 rfl) ?_
    refine lv_iload hx hb dL_law_270 (lv_at hl 5 rfl) ?_
    refine lv_iconst (v := 1) hx hb dL_law_272 (by decide) ?_
    refine lv_iadd hx hb dL_law_273 ?_
    refine zz_top (y := nI (i + 1)) (nI_add _ _) ?_
    refine va_sld hx hb hX hbl hbA hS (vp_in_nI (n := i + 1) (by omega) (by omega)) dL_law_274 ?_
    refine zz_top (y := xs (i + 1)) (congrArg _ (nI_clamp (by omega))) ?_
    refine lv_aload_n hx hb dL_law_275 rfl (lv_at hl 1 rfl) ?_
    refine lv_iload hx hb dL_law_276 (lv_at hl 5 rfl) ?_
    refine lv_iconst (v := 2) hx hb dL_law_278 (by decide) ?_
    refine lv_iadd hx hb dL_law_279 ?_
    refine zz_top (y := nI (i + 2)) (nI_add _ _) ?_
    refine va_sld hx hb hX hbl hbA hS (vp_in_nI (n := i + 2) (by omega) (by omega)) dL_law_280 ?_
    refine zz_top (y := xs (i + 2)) (congrArg _ (nI_clamp (by omega))) ?_
    have hPc := hP.sub (ws' := w4 b cI cZ tw nk pa nc fo th tg nt tb4 te4 tk4 tt4 ex tc es wy ab re4 go4 be) [24, 25, 26, 27, 28, 29, 30, 31, 32, 33, 34, 35, 36] rfl
    have hDc := hD.sub (ws' := w4 b cI cZ tw nk pa nc fo th tg nt tb4 te4 tk4 tt4 ex tc es wy ab re4 go4 be) [24, 25, 26, 27, 28, 29, 30, 31, 32, 33, 34, 35, 36] (by decide) rfl
    have hFc := va_free (wc := w4 b cI cZ tw nk pa nc fo th tg nt tb4 te4 tk4 tt4 ex tc es wy ab re4 go4 be) hD hS hA [24, 25, 26, 27, 28, 29, 30, 31, 32, 33, 34, 35, 36] rfl
    refine va_calli (va_runV (As := [.int (xs (i + 1)), .int (xs (i + 2))]) (rest := []) ⟨hx, hb, hml, hown, hts⟩ (c_X4_isBelow l dC dI cI cZ cJ b tw nk pa nc fo th tg nt tb4 te4 tk4 tt4 ex tc es wy ab re4 go4 be (xs (i + 1)) (xs (i + 2)) T up H.size (by first | assumption | omega) (by first | assumption | omega)) (cwV 2 hts gL_law_X4_isBelow rfl rfl rfl (by decide +kernel) ⟨Nat.le_of_ble_eq_true rfl, Nat.le_of_ble_eq_true rfl⟩) ⟨zWr_blind, va_recv hK hPc (ci := 4) (q0 := 0) rfl rfl, zWr_at hPc hK hn (hDc.weaken (fun _ _ _ _ => trivial))⟩ rfl rfl hl.1 rfl (lv_room (Nat.le_of_ble_eq_true rfl)) dL_law_281 ⟨by show _ ≤ 601024; omega, by show _ ≤ 7293034; omega⟩) hS (fun q _ h => hFc q h) hFc (fun r_9 u_9 t H1 locs ht hvm hw hB hz1 hk1 hS => ?_)
    obtain ⟨tw9_9, rfl⟩ : ∃ z, z = u_9 := ⟨_, rfl⟩
    obtain ⟨hP1, -, hD1⟩ := hB
    rw [ht] at hP1
    obtain ⟨hP, hD⟩ := va_join (wr := (w3 a cI cZ nk pa fa nc fo th tg nt tb te tk tt nu ub ue uk ut re ro fu bl go ra rc ex tc es wy) ++ ([(ou, .inl (cJ, 1, .inr (.inl (vp_updL fz 0 (bL ((!decide ((xs (i + 1)) = (xs (i + 2))) && up (xs (i + 1)).toNatClampNeg (xs (i + 2)).toNatClampNeg)))))))])) (w1 := w4 b cI cZ tw9_9 nk pa nc fo th tg nt tb4 te4 tk4 tt4 ex tc es wy ab re4 go4 be) hP hD [24, 25, 26, 27, 28, 29, 30, 31, 32, 33, 34, 35, 36] [0, 1, 2, 3, 4, 5, 6, 7, 8, 9, 10, 11, 12, 13, 14, 15, 16, 17, 18, 19, 20, 21, 22, 23, 37] rfl rfl (by decide) (by decide) hk1 hFc hP1 hD1
    generalize H1 = H at hP hS ⊢
    have hP := hP.sub (ws' := (w3 a cI cZ nk pa fa nc fo th tg nt tb te tk tt nu ub ue uk ut re ro fu bl go ra rc ex tc es wy) ++ ((w4 b cI cZ tw9_9 nk pa nc fo th tg nt tb4 te4 tk4 tt4 ex tc es wy ab re4 go4 be) ++ ([(ou, .inl (cJ, 1, .inr (.inl (vp_updL fz 0 (bL ((!decide ((xs (i + 1)) = (xs (i + 2))) && up (xs (i + 1)).toNatClampNeg (xs (i + 2)).toNatClampNeg)))))))]))) [0, 1, 2, 3, 4, 5, 6, 7, 8, 9, 10, 11, 12, 13, 14, 15, 16, 17, 18, 19, 20, 21, 22, 23, 25, 26, 27, 28, 29, 30, 31, 32, 33, 34, 35, 36, 37, 24] rfl
    have hD := hD.sub (ws' := (w3 a cI cZ nk pa fa nc fo th tg nt tb te tk tt nu ub ue uk ut re ro fu bl go ra rc ex tc es wy) ++ ((w4 b cI cZ tw9_9 nk pa nc fo th tg nt tb4 te4 tk4 tt4 ex tc es wy ab re4 go4 be) ++ ([(ou, .inl (cJ, 1, .inr (.inl (vp_updL fz 0 (bL ((!decide ((xs (i + 1)) = (xs (i + 2))) && up (xs (i + 1)).toNatClampNeg (xs (i + 2)).toNatClampNeg)))))))]))) [0, 1, 2, 3, 4, 5, 6, 7, 8, 9, 10, 11, 12, 13, 14, 15, 16, 17, 18, 19, 20, 21, 22, 23, 25, 26, 27, 28, 29, 30, 31, 32, 33, 34, 35, 36, 37, 24] (by decide) rfl
    have hP : va_P (dC, dI) vwCl ((w3 a cI cZ nk pa fa nc fo th tg nt tb te tk tt nu ub ue uk ut re ro fu bl go ra rc ex tc es wy) ++ ((w4 b cI cZ tw9_9 nk pa nc fo th tg nt tb4 te4 tk4 tt4 ex tc es wy ab re4 go4 be) ++ ([(ou, .inl (cJ, 1, .inr (.inl (vp_updL fz 0 (bL ((!decide ((xs (i + 1)) = (xs (i + 2))) && up (xs (i + 1)).toNatClampNeg (xs (i + 2)).toNatClampNeg)))))))]))) H := hP
    have hD : va_D A ((w3 a cI cZ nk pa fa nc fo th tg nt tb te tk tt nu ub ue uk ut re ro fu bl go ra rc ex tc es wy) ++ ((w4 b cI cZ tw9_9 nk pa nc fo th tg nt tb4 te4 tk4 tt4 ex tc es wy ab re4 go4 be) ++ ([(ou, .inl (cJ, 1, .inr (.inl (vp_updL fz 0 (bL ((!decide ((xs (i + 1)) = (xs (i + 2))) && up (xs (i + 1)).toNatClampNeg (xs (i + 2)).toNatClampNeg)))))))]))) := hD
    rcases hw with ⟨h_11, h_12, h_13⟩ | ⟨h_14, h_15⟩
    · skip
      replace h_12 := h_12.symm
      subst h_12
      replace h_13 := h_13.symm
      subst h_13
      have hP : va_P (dC, dI) vwCl ((w3 a cI cZ nk pa fa nc fo th tg nt tb te tk tt nu ub ue uk ut re ro fu bl go ra rc ex tc es wy) ++ ((w4 b cI cZ 0 nk pa nc fo th tg nt tb4 te4 tk4 tt4 ex tc es wy ab re4 go4 be) ++ ([(ou, .inl (cJ, 1, .inr (.inl (vp_updL fz 0 (bL ((!decide ((xs (i + 1)) = (xs (i + 2))) && up (xs (i + 1)).toNatClampNeg (xs (i + 2)).toNatClampNeg)))))))]))) H := hP
      have hD : va_D A ((w3 a cI cZ nk pa fa nc fo th tg nt tb te tk tt nu ub ue uk ut re ro fu bl go ra rc ex tc es wy) ++ ((w4 b cI cZ 0 nk pa nc fo th tg nt tb4 te4 tk4 tt4 ex tc es wy ab re4 go4 be) ++ ([(ou, .inl (cJ, 1, .inr (.inl (vp_updL fz 0 (bL ((!decide ((xs (i + 1)) = (xs (i + 2))) && up (xs (i + 1)).toNatClampNeg (xs (i + 2)).toNatClampNeg)))))))]))) := hD
      refine lv_istore (lv' := [(6, .int (bI (!decide ((xs (i + 1)) = (xs (i + 2))) && up (xs (i + 1)).toNatClampNeg (xs (i + 2)).toNatClampNeg))), (5, .int 0), (0, .ref sb), (1, .ref (a 0)), (2, .ref (b 0)), (3, .ref ou), (4, .int (nI i))]) hx hb dL_law_284 hl (by decide) rfl (fun ls hl => ?_)
      refine lv_aload_n hx hb dL_law_286 rfl (lv_at hl 4 rfl) ?_
      have hPc := hP.sub (ws' := w4 b cI cZ 0 nk pa nc fo th tg nt tb4 te4 tk4 tt4 ex tc es wy ab re4 go4 be) [24, 25, 26, 27, 28, 29, 30, 31, 32, 33, 34, 35, 36] rfl
      refine va_calli (va_runV (As := []) (rest := []) ⟨hx, hb, hml, hown, hts⟩ (c_X4_thrown l dC dI cI cZ cJ b 0 nk pa nc fo th tg nt tb4 te4 tk4 tt4 ex tc es wy ab re4 go4 be ) (cwV 0 hts gL_law_X4_thrown rfl rfl rfl (by decide +kernel) ⟨Nat.le_of_ble_eq_true rfl, Nat.le_of_ble_eq_true rfl⟩) ⟨zPre_blind, va_recv hK hPc (ci := 4) (q0 := 0) rfl rfl, zPre_at hPc hK hn⟩ rfl rfl hl.1 rfl (lv_room (Nat.le_of_ble_eq_true rfl)) dL_law_287 ⟨by show _ ≤ 601024; omega, by show _ ≤ 7293034; omega⟩) hS (fun _ _ h => h.elim) (fun _ h => h.elim) (fun r_16 u_9 t H locs ht hvm hw hB hz1 hk1 hS => ?_)
      have hP := zkeep hP hk1
      subst hw
      refine lv_iload hx hb dL_law_290 (lv_at hl 1 rfl) ?_
      refine lv_icmp_eq (tgt := 297) hx hb dL_law_292 (by decide) (fun c_17 => ?_) (fun c_17 => ?_)
      · skip
        refine lv_iload hx hb dL_law_297 (lv_at hl 1 rfl) ?_
        refine lv_if_ne (tgt := 321) hx hb dL_law_299 (by decide) (fun c_18 => ?_) (fun c_18 => ?_)
        · exact absurd c_18 (by decide)
        · skip
          refine lv_aload_n hx hb dL_law_302 rfl (lv_at hl 5 rfl) ?_
          refine lv_iconst (v := 0) hx hb dL_law_303 (by decide) ?_
          refine va_lald hx hb hK hP 37 2 rfl rfl (vp_in_nI (n := 0) (by omega) (by decide)) dL_law_304 ?_
          refine zz_topl (y := (vp_updL fz 0 (bL ((!decide ((xs (i + 1)) = (xs (i + 2))) && up (xs (i + 1)).toNatClampNeg (xs (i + 2)).toNatClampNeg)))) 0) (rfl) ?_
          refine lv_iload hx hb dL_law_305 (lv_at hl 0 rfl) ?_
          refine lv_if_eq (tgt := 314) hx hb dL_law_307 (by decide) (fun c_19 => ?_) (fun c_19 => ?_)
          · skip
            have hz9 := zb_0.mp c_19
            refine lv_lconst (v := 0) hx hb dL_law_314 (by decide) ?_
            refine W.lcmp hx hb dL_law_315 ?_
            refine lv_if_eq (tgt := 321) hx hb dL_law_316 (by decide) (fun c_20 => ?_) (fun c_20 => ?_)
            · skip
              skip
              refine lv_goto (tgt := 1475) hx hb dL_law_321 (by decide) ?_
              refine W.widen (k := k0 + 100) (n := n0 + 3000) (by omega) (by omega) ?_
              exact K nk pa fa nc fo th tg nt tb te tk tt nu ub ue uk ut re ro fu bl go ra rc ex tc es wy 0 tb4 te4 tk4 tt4 ab re4 go4 be (vp_updL fz 0 (bL ((!decide ((xs (i + 1)) = (xs (i + 2))) && up (xs (i + 1)).toNatClampNeg (xs (i + 2)).toNatClampNeg)))) T up _ _ _ (by first | assumption | omega) (by first | assumption | omega) (by first | assumption | omega) hP hD hS (lv_sub hl [2, 3, 4, 5, 6] rfl)
            · exact absurd ((lg_cmp_eq _ _).mpr (by first | rfl | exact (bL_t hz9).symm | exact (bL_f hz9).symm)) c_20
          · skip
            have hz9 := zb_1.mp c_19
            refine lv_lconst (v := 1) hx hb dL_law_310 (by decide) ?_
            refine lv_goto (tgt := 315) hx hb dL_law_311 (by decide) ?_
            refine W.lcmp hx hb dL_law_315 ?_
            refine lv_if_eq (tgt := 321) hx hb dL_law_316 (by decide) (fun c_21 => ?_) (fun c_21 => ?_)
            · skip
              skip
              refine lv_goto (tgt := 1475) hx hb dL_law_321 (by decide) ?_
              refine W.widen (k := k0 + 100) (n := n0 + 3000) (by omega) (by omega) ?_
              exact K nk pa fa nc fo th tg nt tb te tk tt nu ub ue uk ut re ro fu bl go ra rc ex tc es wy 0 tb4 te4 tk4 tt4 ab re4 go4 be (vp_updL fz 0 (bL ((!decide ((xs (i + 1)) = (xs (i + 2))) && up (xs (i + 1)).toNatClampNeg (xs (i + 2)).toNatClampNeg)))) T up _ _ _ (by first | assumption | omega) (by first | assumption | omega) (by first | assumption | omega) hP hD hS (lv_sub hl [2, 3, 4, 5, 6] rfl)
            · exact absurd ((lg_cmp_eq _ _).mpr (by first | rfl | exact (bL_t hz9).symm | exact (bL_f hz9).symm)) c_21
      · exact absurd c_17 (by decide)
    · skip
      exact absurd (h_5.symm.trans h_14) (by decide)
  · skip
    replace h_6 := h_6.symm
    subst h_6
    replace h_8 := h_8.symm
    subst h_8
    have hP : va_P (dC, dI) vwCl ((w3 a cI cZ nk pa fa nc fo th tg nt tb te tk tt nu ub ue uk ut re ro fu bl go ra rc ex tc es wy) ++ ((w4 b cI cZ tw nk pa nc fo th tg nt tb4 te4 tk4 tt4 ex tc es wy ab re4 go4 be) ++ ([(ou, .inl (cJ, 1, .inr (.inl fz)))]))) H := hP
    have hD : va_D A ((w3 a cI cZ nk pa fa nc fo th tg nt tb te tk tt nu ub ue uk ut re ro fu bl go ra rc ex tc es wy) ++ ((w4 b cI cZ tw nk pa nc fo th tg nt tb4 te4 tk4 tt4 ex tc es wy ab re4 go4 be) ++ ([(ou, .inl (cJ, 1, .inr (.inl fz)))]))) := hD
    refine lv_istore (lv' := [(5, .int 1), (0, .ref sb), (1, .ref (a 0)), (2, .ref (b 0)), (3, .ref ou), (4, .int (nI i))]) hx hb dL_law_266 hl (by decide) rfl (fun ls hl => ?_)
    refine lv_aload_n hx hb dL_law_268 rfl (lv_at hl 3 rfl) ?_
    refine lv_aload_n hx hb dL_law_269 rfl (lv_at hl 1 rfl) ?_
    refine lv_iload hx hb dL_law_270 (lv_at hl 5 rfl) ?_
    refine lv_iconst (v := 1) hx hb dL_law_272 (by decide) ?_
    refine lv_iadd hx hb dL_law_273 ?_
    refine zz_top (y := nI (i + 1)) (nI_add _ _) ?_
    refine va_sld hx hb hX hbl hbA hS (vp_in_nI (n := i + 1) (by omega) (by omega)) dL_law_274 ?_
    refine zz_top (y := xs (i + 1)) (congrArg _ (nI_clamp (by omega))) ?_
    refine lv_aload_n hx hb dL_law_275 rfl (lv_at hl 1 rfl) ?_
    refine lv_iload hx hb dL_law_276 (lv_at hl 5 rfl) ?_
    refine lv_iconst (v := 2) hx hb dL_law_278 (by decide) ?_
    refine lv_iadd hx hb dL_law_279 ?_
    refine zz_top (y := nI (i + 2)) (nI_add _ _) ?_
    refine va_sld hx hb hX hbl hbA hS (vp_in_nI (n := i + 2) (by omega) (by omega)) dL_law_280 ?_
    refine zz_top (y := xs (i + 2)) (congrArg _ (nI_clamp (by omega))) ?_
    have hPc := hP.sub (ws' := w4 b cI cZ tw nk pa nc fo th tg nt tb4 te4 tk4 tt4 ex tc es wy ab re4 go4 be) [24, 25, 26, 27, 28, 29, 30, 31, 32, 33, 34, 35, 36] rfl
    have hDc := hD.sub (ws' := w4 b cI cZ tw nk pa nc fo th tg nt tb4 te4 tk4 tt4 ex tc es wy ab re4 go4 be) [24, 25, 26, 27, 28, 29, 30, 31, 32, 33, 34, 35, 36] (by decide) rfl
    have hFc := va_free (wc := w4 b cI cZ tw nk pa nc fo th tg nt tb4 te4 tk4 tt4 ex tc es wy ab re4 go4 be) hD hS hA [24, 25, 26, 27, 28, 29, 30, 31, 32, 33, 34, 35, 36] rfl
    refine va_calli (va_runV (As := [.int (xs (i + 1)), .int (xs (i + 2))]) (rest := []) ⟨hx, hb, hml, hown, hts⟩ (c_X4_isBelow l dC dI cI cZ cJ b tw nk pa nc fo th tg nt tb4 te4 tk4 tt4 ex tc es wy ab re4 go4 be (xs (i + 1)) (xs (i + 2)) T up H.size (by first | assumption | omega) (by first | assumption | omega)) (cwV 2 hts gL_law_X4_isBelow rfl rfl rfl (by decide +kernel) ⟨Nat.le_of_ble_eq_true rfl, Nat.le_of_ble_eq_true rfl⟩) ⟨zWr_blind, va_recv hK hPc (ci := 4) (q0 := 0) rfl rfl, zWr_at hPc hK hn (hDc.weaken (fun _ _ _ _ => trivial))⟩ rfl rfl hl.1 rfl (lv_room (Nat.le_of_ble_eq_true rfl)) dL_law_281 ⟨by show _ ≤ 601024; omega, by show _ ≤ 7293034; omega⟩) hS (fun q _ h => hFc q h) hFc (fun r_22 u_9 t H1 locs ht hvm hw hB hz1 hk1 hS => ?_)
    obtain ⟨tw9_22, rfl⟩ : ∃ z, z = u_9 := ⟨_, rfl⟩
    obtain ⟨hP1, -, hD1⟩ := hB
    rw [ht] at hP1
    obtain ⟨hP, hD⟩ := va_join (wr := (w3 a cI cZ nk pa fa nc fo th tg nt tb te tk tt nu ub ue uk ut re ro fu bl go ra rc ex tc es wy) ++ ([(ou, .inl (cJ, 1, .inr (.inl fz)))])) (w1 := w4 b cI cZ tw9_22 nk pa nc fo th tg nt tb4 te4 tk4 tt4 ex tc es wy ab re4 go4 be) hP hD [24, 25, 26, 27, 28, 29, 30, 31, 32, 33, 34, 35, 36] [0, 1, 2, 3, 4, 5, 6, 7, 8, 9, 10, 11, 12, 13, 14, 15, 16, 17, 18, 19, 20, 21, 22, 23, 37] rfl rfl (by decide) (by decide) hk1 hFc hP1 hD1
    generalize H1 = H at hP hS ⊢
    have hP := hP.sub (ws' := (w3 a cI cZ nk pa fa nc fo th tg nt tb te tk tt nu ub ue uk ut re ro fu bl go ra rc ex tc es wy) ++ ((w4 b cI cZ tw9_22 nk pa nc fo th tg nt tb4 te4 tk4 tt4 ex tc es wy ab re4 go4 be) ++ ([(ou, .inl (cJ, 1, .inr (.inl fz)))]))) [0, 1, 2, 3, 4, 5, 6, 7, 8, 9, 10, 11, 12, 13, 14, 15, 16, 17, 18, 19, 20, 21, 22, 23, 25, 26, 27, 28, 29, 30, 31, 32, 33, 34, 35, 36, 37, 24] rfl
    have hD := hD.sub (ws' := (w3 a cI cZ nk pa fa nc fo th tg nt tb te tk tt nu ub ue uk ut re ro fu bl go ra rc ex tc es wy) ++ ((w4 b cI cZ tw9_22 nk pa nc fo th tg nt tb4 te4 tk4 tt4 ex tc es wy ab re4 go4 be) ++ ([(ou, .inl (cJ, 1, .inr (.inl fz)))]))) [0, 1, 2, 3, 4, 5, 6, 7, 8, 9, 10, 11, 12, 13, 14, 15, 16, 17, 18, 19, 20, 21, 22, 23, 25, 26, 27, 28, 29, 30, 31, 32, 33, 34, 35, 36, 37, 24] (by decide) rfl
    have hP : va_P (dC, dI) vwCl ((w3 a cI cZ nk pa fa nc fo th tg nt tb te tk tt nu ub ue uk ut re ro fu bl go ra rc ex tc es wy) ++ ((w4 b cI cZ tw9_22 nk pa nc fo th tg nt tb4 te4 tk4 tt4 ex tc es wy ab re4 go4 be) ++ ([(ou, .inl (cJ, 1, .inr (.inl fz)))]))) H := hP
    have hD : va_D A ((w3 a cI cZ nk pa fa nc fo th tg nt tb te tk tt nu ub ue uk ut re ro fu bl go ra rc ex tc es wy) ++ ((w4 b cI cZ tw9_22 nk pa nc fo th tg nt tb4 te4 tk4 tt4 ex tc es wy ab re4 go4 be) ++ ([(ou, .inl (cJ, 1, .inr (.inl fz)))]))) := hD
    rcases hw with ⟨h_24, h_25, h_26⟩ | ⟨h_27, h_28⟩
    · skip
      exact absurd (h_7.symm.trans h_24) (by decide)
    · skip
      replace h_28 := h_28.symm
      subst h_28
      have hP : va_P (dC, dI) vwCl ((w3 a cI cZ nk pa fa nc fo th tg nt tb te tk tt nu ub ue uk ut re ro fu bl go ra rc ex tc es wy) ++ ((w4 b cI cZ 1 nk pa nc fo th tg nt tb4 te4 tk4 tt4 ex tc es wy ab re4 go4 be) ++ ([(ou, .inl (cJ, 1, .inr (.inl fz)))]))) H := hP
      have hD : va_D A ((w3 a cI cZ nk pa fa nc fo th tg nt tb te tk tt nu ub ue uk ut re ro fu bl go ra rc ex tc es wy) ++ ((w4 b cI cZ 1 nk pa nc fo th tg nt tb4 te4 tk4 tt4 ex tc es wy ab re4 go4 be) ++ ([(ou, .inl (cJ, 1, .inr (.inl fz)))]))) := hD
      refine lv_istore (lv' := [(6, .int r_22), (5, .int 1), (0, .ref sb), (1, .ref (a 0)), (2, .ref (b 0)), (3, .ref ou), (4, .int (nI i))]) hx hb dL_law_284 hl (by decide) rfl (fun ls hl => ?_)
      refine lv_aload_n hx hb dL_law_286 rfl (lv_at hl 4 rfl) ?_
      have hPc := hP.sub (ws' := w4 b cI cZ 1 nk pa nc fo th tg nt tb4 te4 tk4 tt4 ex tc es wy ab re4 go4 be) [24, 25, 26, 27, 28, 29, 30, 31, 32, 33, 34, 35, 36] rfl
      refine va_calli (va_runV (As := []) (rest := []) ⟨hx, hb, hml, hown, hts⟩ (c_X4_thrown l dC dI cI cZ cJ b 1 nk pa nc fo th tg nt tb4 te4 tk4 tt4 ex tc es wy ab re4 go4 be ) (cwV 0 hts gL_law_X4_thrown rfl rfl rfl (by decide +kernel) ⟨Nat.le_of_ble_eq_true rfl, Nat.le_of_ble_eq_true rfl⟩) ⟨zPre_blind, va_recv hK hPc (ci := 4) (q0 := 0) rfl rfl, zPre_at hPc hK hn⟩ rfl rfl hl.1 rfl (lv_room (Nat.le_of_ble_eq_true rfl)) dL_law_287 ⟨by show _ ≤ 601024; omega, by show _ ≤ 7293034; omega⟩) hS (fun _ _ h => h.elim) (fun _ h => h.elim) (fun r_29 u_9 t H locs ht hvm hw hB hz1 hk1 hS => ?_)
      have hP := zkeep hP hk1
      subst hw
      refine lv_iload hx hb dL_law_290 (lv_at hl 1 rfl) ?_
      refine lv_icmp_eq (tgt := 297) hx hb dL_law_292 (by decide) (fun c_30 => ?_) (fun c_30 => ?_)
      · skip
        refine lv_iload hx hb dL_law_297 (lv_at hl 1 rfl) ?_
        refine lv_if_ne (tgt := 321) hx hb dL_law_299 (by decide) (fun c_31 => ?_) (fun c_31 => ?_)
        · skip
          refine lv_goto (tgt := 1475) hx hb dL_law_321 (by decide) ?_
          refine W.widen (k := k0 + 100) (n := n0 + 3000) (by omega) (by omega) ?_
          exact K nk pa fa nc fo th tg nt tb te tk tt nu ub ue uk ut re ro fu bl go ra rc ex tc es wy 1 tb4 te4 tk4 tt4 ab re4 go4 be fz T up _ _ _ (by first | assumption | omega) (by first | assumption | omega) (by first | assumption | omega) hP hD hS (lv_sub hl [2, 3, 4, 5, 6] rfl)
        · exact absurd c_31 (by decide)
      · exact absurd c_30 (by decide)

set_option maxHeartbeats 4000000 in
set_option maxRecDepth 100000 in
theorem lk_3 {p : Program} {e : Env} {s : State} {m : MethodId} {below : List Frame} {meth : Method} {c : Code} {Q : State → Prop} (l : Launch) {sb L : Nat} {xs : Nat → Int32} (dC : Nat → ClassId) (dI : Nat → Nat → Nat) (cI cZ cJ : ClassId) (a b : Nat → Nat) (ou i k0 n0 : Nat) (hF0 : lwF p l s m c sb L xs dC dI cI cZ cJ) (hi : i + 5 ≤ L) (hk0 : k0 + 100 ≤ 601024) (hn0 : n0 + 3000 ≤ 7293034) (nk : Nat) (pa : Nat → Int32) (fa : Nat → Int32) (nc : Nat) (fo : Nat → Int32) (th : Nat → Int32) (tg : Nat → Int32) (nt : Nat) (tb : Nat → Int32) (te : Nat → Int32) (tk : Nat → Int32) (tt : Nat → Int32) (nu : Nat) (ub : Nat → Int32) (ue : Nat → Int32) (uk : Nat → Int32) (ut : Nat → Int32) (re : Nat → Int32) (ro : Nat → Int32) (fu : Nat → Int32) (bl : Nat → Int32) (go : Nat → Int32) (ra : Nat → Int32) (rc : Nat) (ex : Int32) (tc : Int32) (es : Int32) (wy : Int64) (tw : Int32) (tb4 : Nat → Int32) (te4 : Nat → Int32) (tk4 : Nat → Int32) (tt4 : Nat → Int32) (ab : Nat → Int32) (re4 : Nat → Int32) (go4 : Nat → Int32) (be : Nat → Int32) (fz : Nat → Int64) (T : Nat → Nat → Nat) (up : Nat → Nat → Bool) (hg : g3 nk fa up nt tb te tk tt T) (hg4 : g4 nk ab up nt tb4 te4 tk4 tt4 T) (hc : okC nk nc fo th tg) (H : Heap) (locs : List Loc) (ls : Array Slot) (hP : va_P (dC, dI) vwCl ((w3 a cI cZ nk pa fa nc fo th tg nt tb te tk tt nu ub ue uk ut re ro fu bl go ra rc ex tc es wy) ++ ((w4 b cI cZ tw nk pa nc fo th tg nt tb4 te4 tk4 tt4 ex tc es wy ab re4 go4 be) ++ ([(ou, .inl (cJ, 1, .inr (.inl fz)))]))) H) (hD : va_D (fun q => s.heap.size ≤ q) ((w3 a cI cZ nk pa fa nc fo th tg nt tb te tk tt nu ub ue uk ut re ro fu bl go ra rc ex tc es wy) ++ ((w4 b cI cZ tw nk pa nc fo th tg nt tb4 te4 tk4 tt4 ex tc es wy ab re4 go4 be) ++ ([(ou, .inl (cJ, 1, .inr (.inl fz)))])))) (hS : va_S (fun q => s.heap.size ≤ q) s.heap H locs) (hl : lv_has ls 9 [(0, .ref sb), (1, .ref (a 0)), (2, .ref (b 0)), (3, .ref ou), (4, .int (nI i))]) (K : ∀ (nk : Nat) (pa : Nat → Int32) (fa : Nat → Int32) (nc : Nat) (fo : Nat → Int32) (th : Nat → Int32) (tg : Nat → Int32) (nt : Nat) (tb : Nat → Int32) (te : Nat → Int32) (tk : Nat → Int32) (tt : Nat → Int32) (nu : Nat) (ub : Nat → Int32) (ue : Nat → Int32) (uk : Nat → Int32) (ut : Nat → Int32) (re : Nat → Int32) (ro : Nat → Int32) (fu : Nat → Int32) (bl : Nat → Int32) (go : Nat → Int32) (ra : Nat → Int32) (rc : Nat) (ex : Int32) (tc : Int32) (es : Int32) (wy : Int64) (tw : Int32) (tb4 : Nat → Int32) (te4 : Nat → Int32) (tk4 : Nat → Int32) (tt4 : Nat → Int32) (ab : Nat → Int32) (re4 : Nat → Int32) (go4 : Nat → Int32) (be : Nat → Int32) (fz : Nat → Int64) (T : Nat → Nat → Nat) (up : Nat → Nat → Bool) (H : Heap) (locs : List Loc) (ls : Array Slot), g3 nk fa up nt tb te tk tt T → g4 nk ab up nt tb4 te4 tk4 tt4 T → okC nk nc fo th tg → va_P (dC, dI) vwCl ((w3 a cI cZ nk pa fa nc fo th tg nt tb te tk tt nu ub ue uk ut re ro fu bl go ra rc ex tc es wy) ++ ((w4 b cI cZ tw nk pa nc fo th tg nt tb4 te4 tk4 tt4 ex tc es wy ab re4 go4 be) ++ ([(ou, .inl (cJ, 1, .inr (.inl fz)))]))) H → va_D (fun q => s.heap.size ≤ q) ((w3 a cI cZ nk pa fa nc fo th tg nt tb te tk tt nu ub ue uk ut re ro fu bl go ra rc ex tc es wy) ++ ((w4 b cI cZ tw nk pa nc fo th tg nt tb4 te4 tk4 tt4 ex tc es wy ab re4 go4 be) ++ ([(ou, .inl (cJ, 1, .inr (.inl fz)))]))) → va_S (fun q => s.heap.size ≤ q) s.heap H locs → lv_has ls 9 [(0, .ref sb), (1, .ref (a 0)), (2, .ref (b 0)), (3, .ref ou), (4, .int (nI i))] → W p l e room_1 s m #[Value.ref sb] below meth c H locs (k0 + 100) (n0 + 3000) Q (F0 m 1475 ls [])) : W p l e room_1 s m #[Value.ref sb] below meth c H locs k0 n0 Q (F0 m 324 ls []) := by
  obtain ⟨hx, hb, hml, hown, hts, hX, hbl, hL, hK, hn, hzt, hzu, hzc, hlt⟩ := id hF0
  obtain ⟨A, hAe⟩ : ∃ A : Nat → Prop, A = fun q => s.heap.size ≤ q := ⟨_, rfl⟩
  have hbA : ¬ A sb := by rw [hAe]; exact Nat.not_le.mpr hbl
  have hA : ∀ q : Nat, s.heap.size ≤ q → A q := fun q h => by rw [hAe]; exact h
  rw [← hAe] at hD hS hzu K
  refine lv_aload_n hx hb dL_law_324 rfl (lv_at hl 1 rfl) ?_
  refine lv_aload_n hx hb dL_law_325 rfl (lv_at hl 0 rfl) ?_
  refine lv_iload hx hb dL_law_326 (lv_at hl 4 rfl) ?_
  refine lv_iconst (v := 1) hx hb dL_law_328 (by decide) ?_
  refine lv_iadd hx hb dL_law_329 ?_
  refine zz_top (y := nI (i + 1)) (nI_add _ _) ?_
  refine va_sld hx hb hX hbl hbA hS (vp_in_nI (n := i + 1) (by omega) (by omega)) dL_law_330 ?_
  refine zz_top (y := xs (i + 1)) (congrArg _ (nI_clamp (by omega))) ?_
  refine lv_aload_n hx hb dL_law_331 rfl (lv_at hl 0 rfl) ?_
  refine lv_iload hx hb dL_law_332 (lv_at hl 4 rfl) ?_
  refine lv_iconst (v := 2) hx hb dL_law_334 (by decide) ?_
  refine lv_iadd hx hb dL_law_335 ?_
  refine zz_top (y := nI (i + 2)) (nI_add _ _) ?_
  refine va_sld hx hb hX hbl hbA hS (vp_in_nI (n := i + 2) (by omega) (by omega)) dL_law_336 ?_
  refine zz_top (y := xs (i + 2)) (congrArg _ (nI_clamp (by omega))) ?_
  refine lv_aload_n hx hb dL_law_337 rfl (lv_at hl 3 rfl) ?_
  have hPc := hP.sub (ws' := (w3 a cI cZ nk pa fa nc fo th tg nt tb te tk tt nu ub ue uk ut re ro fu bl go ra rc ex tc es wy) ++ ([(ou, .inl (cJ, 1, .inr (.inl fz)))])) [0, 1, 2, 3, 4, 5, 6, 7, 8, 9, 10, 11, 12, 13, 14, 15, 16, 17, 18, 19, 20, 21, 22, 23, 37] rfl
  have hDc := hD.sub (ws' := (w3 a cI cZ nk pa fa nc fo th tg nt tb te tk tt nu ub ue uk ut re ro fu bl go ra rc ex tc es wy) ++ ([(ou, .inl (cJ, 1, .inr (.inl fz)))])) [0, 1, 2, 3, 4, 5, 6, 7, 8, 9, 10, 11, 12, 13, 14, 15, 16, 17, 18, 19, 20, 21, 22, 23, 37] (by decide) rfl
  have hFc := va_free (wc := (w3 a cI cZ nk pa fa nc fo th tg nt tb te tk tt nu ub ue uk ut re ro fu bl go ra rc ex tc es wy) ++ ([(ou, .inl (cJ, 1, .inr (.inl fz)))])) hD hS hA [0, 1, 2, 3, 4, 5, 6, 7, 8, 9, 10, 11, 12, 13, 14, 15, 16, 17, 18, 19, 20, 21, 22, 23, 37] rfl
  refine va_calli (vx_runSW (As := [.ref (a 0), .int (xs (i + 1)), .int (xs (i + 2)), .ref ou]) (rest := []) ⟨hx, hb, hml, hown, hts⟩ (c_L_common l dC dI cI cZ cJ a nk pa fa nc fo th tg nt tb te tk tt nu ub ue uk ut re ro fu bl go ra rc ex tc es wy (xs (i + 1)) (xs (i + 2)) T up ou fz H.size hlt (by first | assumption | omega) (by first | assumption | omega)) (vx_cwSW 4 hts gL_law_L_common rfl rfl rfl (by decide +kernel) ⟨Nat.le_of_ble_eq_true rfl, Nat.le_of_ble_eq_true rfl⟩) ⟨zTl_blind, zTl_at hPc hK hn (hDc.weaken (fun _ _ _ _ => trivial)) hzt hzu hS hFc hzc⟩ rfl rfl hl.1 rfl (lv_room (Nat.le_of_ble_eq_true rfl)) dL_law_338 ⟨by show _ ≤ 601024; omega, by show _ ≤ 7293034; omega⟩) hS (fun q _ h => hFc q h) hFc (fun r_1 u_9 t H1 locs ht hvm hw hB hz1 hk1 hS => ?_)
  obtain ⟨fz9_1, rfl⟩ : ∃ z, z = u_9 := ⟨_, rfl⟩
  obtain ⟨hP1, -, hD1⟩ := hB
  rw [ht] at hP1
  obtain ⟨hP, hD⟩ := va_join (wr := w4 b cI cZ tw nk pa nc fo th tg nt tb4 te4 tk4 tt4 ex tc es wy ab re4 go4 be) (w1 := (w3 a cI cZ nk pa fa nc fo th tg nt tb te tk tt nu ub ue uk ut re ro fu bl go ra rc ex tc es wy) ++ ([(ou, .inl (cJ, 1, .inr (.inl fz9_1)))])) hP hD [0, 1, 2, 3, 4, 5, 6, 7, 8, 9, 10, 11, 12, 13, 14, 15, 16, 17, 18, 19, 20, 21, 22, 23, 37] [24, 25, 26, 27, 28, 29, 30, 31, 32, 33, 34, 35, 36] rfl rfl (by decide) (by decide) hk1 hFc hP1 hD1
  generalize H1 = H at hP hS ⊢
  have hP := hP.sub (ws' := (w3 a cI cZ nk pa fa nc fo th tg nt tb te tk tt nu ub ue uk ut re ro fu bl go ra rc ex tc es wy) ++ ((w4 b cI cZ tw nk pa nc fo th tg nt tb4 te4 tk4 tt4 ex tc es wy ab re4 go4 be) ++ ([(ou, .inl (cJ, 1, .inr (.inl fz9_1)))]))) [13, 14, 15, 16, 17, 18, 19, 20, 21, 22, 23, 24, 25, 26, 27, 28, 29, 30, 31, 32, 33, 34, 35, 36, 0, 1, 2, 3, 4, 5, 6, 7, 8, 9, 10, 11, 12, 37] rfl
  have hD := hD.sub (ws' := (w3 a cI cZ nk pa fa nc fo th tg nt tb te tk tt nu ub ue uk ut re ro fu bl go ra rc ex tc es wy) ++ ((w4 b cI cZ tw nk pa nc fo th tg nt tb4 te4 tk4 tt4 ex tc es wy ab re4 go4 be) ++ ([(ou, .inl (cJ, 1, .inr (.inl fz9_1)))]))) [13, 14, 15, 16, 17, 18, 19, 20, 21, 22, 23, 24, 25, 26, 27, 28, 29, 30, 31, 32, 33, 34, 35, 36, 0, 1, 2, 3, 4, 5, 6, 7, 8, 9, 10, 11, 12, 37] (by decide) rfl
  have hP : va_P (dC, dI) vwCl ((w3 a cI cZ nk pa fa nc fo th tg nt tb te tk tt nu ub ue uk ut re ro fu bl go ra rc ex tc es wy) ++ ((w4 b cI cZ tw nk pa nc fo th tg nt tb4 te4 tk4 tt4 ex tc es wy ab re4 go4 be) ++ ([(ou, .inl (cJ, 1, .inr (.inl fz9_1)))]))) H := hP
  have hD : va_D A ((w3 a cI cZ nk pa fa nc fo th tg nt tb te tk tt nu ub ue uk ut re ro fu bl go ra rc ex tc es wy) ++ ((w4 b cI cZ tw nk pa nc fo th tg nt tb4 te4 tk4 tt4 ex tc es wy ab re4 go4 be) ++ ([(ou, .inl (cJ, 1, .inr (.inl fz9_1)))]))) := hD
  refine W.widen (k := k0 + 2) (n := n0 + 12) (by omega) (by omega) ?_
  rcases hw with ⟨h_3, h_4, h_5⟩ | ⟨h_6, h_7, h_8⟩
  · skip
    replace h_3 := h_3.symm
    subst h_3
    replace h_4 := h_4.symm
    subst h_4
    have hP : va_P (dC, dI) vwCl ((w3 a cI cZ nk pa fa nc fo th tg nt tb te tk tt nu ub ue uk ut re ro fu bl go ra rc ex tc es wy) ++ ((w4 b cI cZ tw nk pa nc fo th tg nt tb4 te4 tk4 tt4 ex tc es wy ab re4 go4 be) ++ ([(ou, .inl (cJ, 1, .inr (.inl (vp_updL fz 0 ((nI (lw up nk (xs (i + 1)).toNatClampNeg (xs (i + 2)).toNatClampNeg)).toInt64)))))]))) H := hP
    have hD : va_D A ((w3 a cI cZ nk pa fa nc fo th tg nt tb te tk tt nu ub ue uk ut re ro fu bl go ra rc ex tc es wy) ++ ((w4 b cI cZ tw nk pa nc fo th tg nt tb4 te4 tk4 tt4 ex tc es wy ab re4 go4 be) ++ ([(ou, .inl (cJ, 1, .inr (.inl (vp_updL fz 0 ((nI (lw up nk (xs (i + 1)).toNatClampNeg (xs (i + 2)).toNatClampNeg)).toInt64)))))]))) := hD
    refine lv_istore (lv' := [(5, .int 0), (0, .ref sb), (1, .ref (a 0)), (2, .ref (b 0)), (3, .ref ou), (4, .int (nI i))]) hx hb dL_law_341 hl (by decide) rfl (fun ls hl => ?_)
    refine lv_aload_n hx hb dL_law_343 rfl (lv_at hl 3 rfl) ?_
    refine lv_aload_n hx hb dL_law_344 rfl (lv_at hl 1 rfl) ?_
    refine lv_iload hx hb dL_law_345 (lv_at hl 5 rfl) ?_
    refine lv_iconst (v := 1) hx hb dL_law_347 (by decide) ?_
    refine lv_iadd hx hb dL_law_348 ?_
    refine zz_top (y := nI (i + 1)) (nI_add _ _) ?_
    refine va_sld hx hb hX hbl hbA hS (vp_in_nI (n := i + 1) (by omega) (by omega)) dL_law_349 ?_
    refine zz_top (y := xs (i + 1)) (congrArg _ (nI_clamp (by omega))) ?_
    refine lv_aload_n hx hb dL_law_350 rfl (lv_at hl 1 rfl) ?_
    refine lv_iload hx hb dL_law_351 (lv_at hl 5 rfl) ?_
    refine lv_iconst (v := 2) hx hb dL_law_353 (by decide) ?_
    refine lv_iadd hx hb dL_law_354 ?_
    refine zz_top (y := nI (i + 2)) (nI_add _ _) ?_
    refine va_sld hx hb hX hbl hbA hS (vp_in_nI (n := i + 2) (by omega) (by omega)) dL_law_355 ?_
    refine zz_top (y := xs (i + 2)) (congrArg _ (nI_clamp (by omega))) ?_
    have hPc := hP.sub (ws' := w4 b cI cZ tw nk pa nc fo th tg nt tb4 te4 tk4 tt4 ex tc es wy ab re4 go4 be) [24, 25, 26, 27, 28, 29, 30, 31, 32, 33, 34, 35, 36] rfl
    have hDc := hD.sub (ws' := w4 b cI cZ tw nk pa nc fo th tg nt tb4 te4 tk4 tt4 ex tc es wy ab re4 go4 be) [24, 25, 26, 27, 28, 29, 30, 31, 32, 33, 34, 35, 36] (by decide) rfl
    have hFc := va_free (wc := w4 b cI cZ tw nk pa nc fo th tg nt tb4 te4 tk4 tt4 ex tc es wy ab re4 go4 be) hD hS hA [24, 25, 26, 27, 28, 29, 30, 31, 32, 33, 34, 35, 36] rfl
    refine va_calli (va_runV (As := [.int (xs (i + 1)), .int (xs (i + 2))]) (rest := []) ⟨hx, hb, hml, hown, hts⟩ (c_X4_common l dC dI cI cZ cJ b tw nk pa nc fo th tg nt tb4 te4 tk4 tt4 ex tc es wy ab re4 go4 be (xs (i + 1)) (xs (i + 2)) T up H.size (by first | assumption | omega) (by first | assumption | omega)) (cwV 2 hts gL_law_X4_common rfl rfl rfl (by decide +kernel) ⟨Nat.le_of_ble_eq_true rfl, Nat.le_of_ble_eq_true rfl⟩) ⟨zWr_blind, va_recv hK hPc (ci := 4) (q0 := 0) rfl rfl, zWr_at hPc hK hn (hDc.weaken (fun _ _ _ _ => trivial))⟩ rfl rfl hl.1 rfl (lv_room (Nat.le_of_ble_eq_true rfl)) dL_law_356 ⟨by show _ ≤ 601024; omega, by show _ ≤ 7293034; omega⟩) hS (fun q _ h => hFc q h) hFc (fun r_9 u_9 t H1 locs ht hvm hw hB hz1 hk1 hS => ?_)
    obtain ⟨tw9_9, rfl⟩ : ∃ z, z = u_9 := ⟨_, rfl⟩
    obtain ⟨hP1, -, hD1⟩ := hB
    rw [ht] at hP1
    obtain ⟨hP, hD⟩ := va_join (wr := (w3 a cI cZ nk pa fa nc fo th tg nt tb te tk tt nu ub ue uk ut re ro fu bl go ra rc ex tc es wy) ++ ([(ou, .inl (cJ, 1, .inr (.inl (vp_updL fz 0 ((nI (lw up nk (xs (i + 1)).toNatClampNeg (xs (i + 2)).toNatClampNeg)).toInt64)))))])) (w1 := w4 b cI cZ tw9_9 nk pa nc fo th tg nt tb4 te4 tk4 tt4 ex tc es wy ab re4 go4 be) hP hD [24, 25, 26, 27, 28, 29, 30, 31, 32, 33, 34, 35, 36] [0, 1, 2, 3, 4, 5, 6, 7, 8, 9, 10, 11, 12, 13, 14, 15, 16, 17, 18, 19, 20, 21, 22, 23, 37] rfl rfl (by decide) (by decide) hk1 hFc hP1 hD1
    generalize H1 = H at hP hS ⊢
    have hP := hP.sub (ws' := (w3 a cI cZ nk pa fa nc fo th tg nt tb te tk tt nu ub ue uk ut re ro fu bl go ra rc ex tc es wy) ++ ((w4 b cI cZ tw9_9 nk pa nc fo th tg nt tb4 te4 tk4 tt4 ex tc es wy ab re4 go4 be) ++ ([(ou, .inl (cJ, 1, .inr (.inl (vp_updL fz 0 ((nI (lw up nk (xs (i + 1)).toNatClampNeg (xs (i + 2)).toNatClampNeg)).toInt64)))))]))) [0, 1, 2, 3, 4, 5, 6, 7, 8, 9, 10, 11, 12, 13, 14, 15, 16, 17, 18, 19, 20, 21, 22, 23, 25, 26, 27, 28, 29, 30, 31, 32, 33, 34, 35, 36, 37, 24] rfl
    have hD := hD.sub (ws' := (w3 a cI cZ nk pa fa nc fo th tg nt tb te tk tt nu ub ue uk ut re ro fu bl go ra rc ex tc es wy) ++ ((w4 b cI cZ tw9_9 nk pa nc fo th tg nt tb4 te4 tk4 tt4 ex tc es wy ab re4 go4 be) ++ ([(ou, .inl (cJ, 1, .inr (.inl (vp_updL fz 0 ((nI (lw up nk (xs (i + 1)).toNatClampNeg (xs (i + 2)).toNatClampNeg)).toInt64)))))]))) [0, 1, 2, 3, 4, 5, 6, 7, 8, 9, 10, 11, 12, 13, 14, 15, 16, 17, 18, 19, 20, 21, 22, 23, 25, 26, 27, 28, 29, 30, 31, 32, 33, 34, 35, 36, 37, 24] (by decide) rfl
    have hP : va_P (dC, dI) vwCl ((w3 a cI cZ nk pa fa nc fo th tg nt tb te tk tt nu ub ue uk ut re ro fu bl go ra rc ex tc es wy) ++ ((w4 b cI cZ tw9_9 nk pa nc fo th tg nt tb4 te4 tk4 tt4 ex tc es wy ab re4 go4 be) ++ ([(ou, .inl (cJ, 1, .inr (.inl (vp_updL fz 0 ((nI (lw up nk (xs (i + 1)).toNatClampNeg (xs (i + 2)).toNatClampNeg)).toInt64)))))]))) H := hP
    have hD : va_D A ((w3 a cI cZ nk pa fa nc fo th tg nt tb te tk tt nu ub ue uk ut re ro fu bl go ra rc ex tc es wy) ++ ((w4 b cI cZ tw9_9 nk pa nc fo th tg nt tb4 te4 tk4 tt4 ex tc es wy ab re4 go4 be) ++ ([(ou, .inl (cJ, 1, .inr (.inl (vp_updL fz 0 ((nI (lw up nk (xs (i + 1)).toNatClampNeg (xs (i + 2)).toNatClampNeg)).toInt64)))))]))) := hD
    rcases hw with ⟨h_11, h_12, h_13⟩ | ⟨h_14, h_15⟩
    · skip
      replace h_12 := h_12.symm
      subst h_12
      replace h_13 := h_13.symm
      subst h_13
      have hP : va_P (dC, dI) vwCl ((w3 a cI cZ nk pa fa nc fo th tg nt tb te tk tt nu ub ue uk ut re ro fu bl go ra rc ex tc es wy) ++ ((w4 b cI cZ 0 nk pa nc fo th tg nt tb4 te4 tk4 tt4 ex tc es wy ab re4 go4 be) ++ ([(ou, .inl (cJ, 1, .inr (.inl (vp_updL fz 0 ((nI (lw up nk (xs (i + 1)).toNatClampNeg (xs (i + 2)).toNatClampNeg)).toInt64)))))]))) H := hP
      have hD : va_D A ((w3 a cI cZ nk pa fa nc fo th tg nt tb te tk tt nu ub ue uk ut re ro fu bl go ra rc ex tc es wy) ++ ((w4 b cI cZ 0 nk pa nc fo th tg nt tb4 te4 tk4 tt4 ex tc es wy ab re4 go4 be) ++ ([(ou, .inl (cJ, 1, .inr (.inl (vp_updL fz 0 ((nI (lw up nk (xs (i + 1)).toNatClampNeg (xs (i + 2)).toNatClampNeg)).toInt64)))))]))) := hD
      refine lv_istore (lv' := [(6, .int (nI (lw up nk (xs (i + 1)).toNatClampNeg (xs (i + 2)).toNatClampNeg))), (5, .int 0), (0, .ref sb), (1, .ref (a 0)), (2, .ref (b 0)), (3, .ref ou), (4, .int (nI i))]) hx hb dL_law_359 hl (by decide) rfl (fun ls hl => ?_)
      refine lv_aload_n hx hb dL_law_361 rfl (lv_at hl 4 rfl) ?_
      have hPc := hP.sub (ws' := w4 b cI cZ 0 nk pa nc fo th tg nt tb4 te4 tk4 tt4 ex tc es wy ab re4 go4 be) [24, 25, 26, 27, 28, 29, 30, 31, 32, 33, 34, 35, 36] rfl
      refine va_calli (va_runV (As := []) (rest := []) ⟨hx, hb, hml, hown, hts⟩ (c_X4_thrown l dC dI cI cZ cJ b 0 nk pa nc fo th tg nt tb4 te4 tk4 tt4 ex tc es wy ab re4 go4 be ) (cwV 0 hts gL_law_X4_thrown rfl rfl rfl (by decide +kernel) ⟨Nat.le_of_ble_eq_true rfl, Nat.le_of_ble_eq_true rfl⟩) ⟨zPre_blind, va_recv hK hPc (ci := 4) (q0 := 0) rfl rfl, zPre_at hPc hK hn⟩ rfl rfl hl.1 rfl (lv_room (Nat.le_of_ble_eq_true rfl)) dL_law_362 ⟨by show _ ≤ 601024; omega, by show _ ≤ 7293034; omega⟩) hS (fun _ _ h => h.elim) (fun _ h => h.elim) (fun r_16 u_9 t H locs ht hvm hw hB hz1 hk1 hS => ?_)
      have hP := zkeep hP hk1
      subst hw
      refine lv_iload hx hb dL_law_365 (lv_at hl 1 rfl) ?_
      refine lv_icmp_eq (tgt := 372) hx hb dL_law_367 (by decide) (fun c_17 => ?_) (fun c_17 => ?_)
      · skip
        refine lv_iload hx hb dL_law_372 (lv_at hl 1 rfl) ?_
        refine lv_if_ne (tgt := 389) hx hb dL_law_374 (by decide) (fun c_18 => ?_) (fun c_18 => ?_)
        · exact absurd c_18 (by decide)
        · skip
          refine lv_aload_n hx hb dL_law_377 rfl (lv_at hl 5 rfl) ?_
          refine lv_iconst (v := 0) hx hb dL_law_378 (by decide) ?_
          refine va_lald hx hb hK hP 37 2 rfl rfl (vp_in_nI (n := 0) (by omega) (by decide)) dL_law_379 ?_
          refine zz_topl (y := (vp_updL fz 0 ((nI (lw up nk (xs (i + 1)).toNatClampNeg (xs (i + 2)).toNatClampNeg)).toInt64)) 0) (rfl) ?_
          refine lv_iload hx hb dL_law_380 (lv_at hl 0 rfl) ?_
          refine lv_i2l (v := (nI (lw up nk (xs (i + 1)).toNatClampNeg (xs (i + 2)).toNatClampNeg)).toInt64) hx hb dL_law_382 rfl ?_
          refine W.lcmp hx hb dL_law_383 ?_
          refine lv_if_eq (tgt := 389) hx hb dL_law_384 (by decide) (fun c_19 => ?_) (fun c_19 => ?_)
          · skip
            skip
            refine lv_goto (tgt := 1475) hx hb dL_law_389 (by decide) ?_
            refine W.widen (k := k0 + 100) (n := n0 + 3000) (by omega) (by omega) ?_
            exact K nk pa fa nc fo th tg nt tb te tk tt nu ub ue uk ut re ro fu bl go ra rc ex tc es wy 0 tb4 te4 tk4 tt4 ab re4 go4 be (vp_updL fz 0 ((nI (lw up nk (xs (i + 1)).toNatClampNeg (xs (i + 2)).toNatClampNeg)).toInt64)) T up _ _ _ (by first | assumption | omega) (by first | assumption | omega) (by first | assumption | omega) hP hD hS (lv_sub hl [2, 3, 4, 5, 6] rfl)
          · exact absurd ((lg_cmp_eq _ _).mpr (by first | rfl | exact (bL_t hz9).symm | exact (bL_f hz9).symm)) c_19
      · exact absurd c_17 (by decide)
    · skip
      exact absurd (h_5.symm.trans h_14) (by decide)
  · skip
    replace h_6 := h_6.symm
    subst h_6
    replace h_8 := h_8.symm
    subst h_8
    have hP : va_P (dC, dI) vwCl ((w3 a cI cZ nk pa fa nc fo th tg nt tb te tk tt nu ub ue uk ut re ro fu bl go ra rc ex tc es wy) ++ ((w4 b cI cZ tw nk pa nc fo th tg nt tb4 te4 tk4 tt4 ex tc es wy ab re4 go4 be) ++ ([(ou, .inl (cJ, 1, .inr (.inl fz)))]))) H := hP
    have hD : va_D A ((w3 a cI cZ nk pa fa nc fo th tg nt tb te tk tt nu ub ue uk ut re ro fu bl go ra rc ex tc es wy) ++ ((w4 b cI cZ tw nk pa nc fo th tg nt tb4 te4 tk4 tt4 ex tc es wy ab re4 go4 be) ++ ([(ou, .inl (cJ, 1, .inr (.inl fz)))]))) := hD
    refine lv_istore (lv' := [(5, .int 1), (0, .ref sb), (1, .ref (a 0)), (2, .ref (b 0)), (3, .ref ou), (4, .int (nI i))]) hx hb dL_law_341 hl (by decide) rfl (fun ls hl => ?_)
    refine lv_aload_n hx hb dL_law_343 rfl (lv_at hl 3 rfl) ?_
    refine lv_aload_n hx hb dL_law_344 rfl (lv_at hl 1 rfl) ?_
    refine lv_iload hx hb dL_law_345 (lv_at hl 5 rfl) ?_
    refine lv_iconst (v := 1) hx hb dL_law_347 (by decide) ?_
    refine lv_iadd hx hb dL_law_348 ?_
    refine zz_top (y := nI (i + 1)) (nI_add _ _) ?_
    refine va_sld hx hb hX hbl hbA hS (vp_in_nI (n := i + 1) (by omega) (by omega)) dL_law_349 ?_
    refine zz_top (y := xs (i + 1)) (congrArg _ (nI_clamp (by omega))) ?_
    refine lv_aload_n hx hb dL_law_350 rfl (lv_at hl 1 rfl) ?_
    refine lv_iload hx hb dL_law_351 (lv_at hl 5 rfl) ?_
    refine lv_iconst (v := 2) hx hb dL_law_353 (by decide) ?_
    refine lv_iadd hx hb dL_law_354 ?_
    refine zz_top (y := nI (i + 2)) (nI_add _ _) ?_
    refine va_sld hx hb hX hbl hbA hS (vp_in_nI (n := i + 2) (by omega) (by omega)) dL_law_355 ?_
    refine zz_top (y := xs (i + 2)) (congrArg _ (nI_clamp (by omega))) ?_
    have hPc := hP.sub (ws' := w4 b cI cZ tw nk pa nc fo th tg nt tb4 te4 tk4 tt4 ex tc es wy ab re4 go4 be) [24, 25, 26, 27, 28, 29, 30, 31, 32, 33, 34, 35, 36] rfl
    have hDc := hD.sub (ws' := w4 b cI cZ tw nk pa nc fo th tg nt tb4 te4 tk4 tt4 ex tc es wy ab re4 go4 be) [24, 25, 26, 27, 28, 29, 30, 31, 32, 33, 34, 35, 36] (by decide) rfl
    have hFc := va_free (wc := w4 b cI cZ tw nk pa nc fo th tg nt tb4 te4 tk4 tt4 ex tc es wy ab re4 go4 be) hD hS hA [24, 25, 26, 27, 28, 29, 30, 31, 32, 33, 34, 35, 36] rfl
    refine va_calli (va_runV (As := [.int (xs (i + 1)), .int (xs (i + 2))]) (rest := []) ⟨hx, hb, hml, hown, hts⟩ (c_X4_common l dC dI cI cZ cJ b tw nk pa nc fo th tg nt tb4 te4 tk4 tt4 ex tc es wy ab re4 go4 be (xs (i + 1)) (xs (i + 2)) T up H.size (by first | assumption | omega) (by first | assumption | omega)) (cwV 2 hts gL_law_X4_common rfl rfl rfl (by decide +kernel) ⟨Nat.le_of_ble_eq_true rfl, Nat.le_of_ble_eq_true rfl⟩) ⟨zWr_blind, va_recv hK hPc (ci := 4) (q0 := 0) rfl rfl, zWr_at hPc hK hn (hDc.weaken (fun _ _ _ _ => trivial))⟩ rfl rfl hl.1 rfl (lv_room (Nat.le_of_ble_eq_true rfl)) dL_law_356 ⟨by show _ ≤ 601024; omega, by show _ ≤ 7293034; omega⟩) hS (fun q _ h => hFc q h) hFc (fun r_20 u_9 t H1 locs ht hvm hw hB hz1 hk1 hS => ?_)
    obtain ⟨tw9_20, rfl⟩ : ∃ z, z = u_9 := ⟨_, rfl⟩
    obtain ⟨hP1, -, hD1⟩ := hB
    rw [ht] at hP1
    obtain ⟨hP, hD⟩ := va_join (wr := (w3 a cI cZ nk pa fa nc fo th tg nt tb te tk tt nu ub ue uk ut re ro fu bl go ra rc ex tc es wy) ++ ([(ou, .inl (cJ, 1, .inr (.inl fz)))])) (w1 := w4 b cI cZ tw9_20 nk pa nc fo th tg nt tb4 te4 tk4 tt4 ex tc es wy ab re4 go4 be) hP hD [24, 25, 26, 27, 28, 29, 30, 31, 32, 33, 34, 35, 36] [0, 1, 2, 3, 4, 5, 6, 7, 8, 9, 10, 11, 12, 13, 14, 15, 16, 17, 18, 19, 20, 21, 22, 23, 37] rfl rfl (by decide) (by decide) hk1 hFc hP1 hD1
    generalize H1 = H at hP hS ⊢
    have hP := hP.sub (ws' := (w3 a cI cZ nk pa fa nc fo th tg nt tb te tk tt nu ub ue uk ut re ro fu bl go ra rc ex tc es wy) ++ ((w4 b cI cZ tw9_20 nk pa nc fo th tg nt tb4 te4 tk4 tt4 ex tc es wy ab re4 go4 be) ++ ([(ou, .inl (cJ, 1, .inr (.inl fz)))]))) [0, 1, 2, 3, 4, 5, 6, 7, 8, 9, 10, 11, 12, 13, 14, 15, 16, 17, 18, 19, 20, 21, 22, 23, 25, 26, 27, 28, 29, 30, 31, 32, 33, 34, 35, 36, 37, 24] rfl
    have hD := hD.sub (ws' := (w3 a cI cZ nk pa fa nc fo th tg nt tb te tk tt nu ub ue uk ut re ro fu bl go ra rc ex tc es wy) ++ ((w4 b cI cZ tw9_20 nk pa nc fo th tg nt tb4 te4 tk4 tt4 ex tc es wy ab re4 go4 be) ++ ([(ou, .inl (cJ, 1, .inr (.inl fz)))]))) [0, 1, 2, 3, 4, 5, 6, 7, 8, 9, 10, 11, 12, 13, 14, 15, 16, 17, 18, 19, 20, 21, 22, 23, 25, 26, 27, 28, 29, 30, 31, 32, 33, 34, 35, 36, 37, 24] (by decide) rfl
    have hP : va_P (dC, dI) vwCl ((w3 a cI cZ nk pa fa nc fo th tg nt tb te tk tt nu ub ue uk ut re ro fu bl go ra rc ex tc es wy) ++ ((w4 b cI cZ tw9_20 nk pa nc fo th tg nt tb4 te4 tk4 tt4 ex tc es wy ab re4 go4 be) ++ ([(ou, .inl (cJ, 1, .inr (.inl fz)))]))) H := hP
    have hD : va_D A ((w3 a cI cZ nk pa fa nc fo th tg nt tb te tk tt nu ub ue uk ut re ro fu bl go ra rc ex tc es wy) ++ ((w4 b cI cZ tw9_20 nk pa nc fo th tg nt tb4 te4 tk4 tt4 ex tc es wy ab re4 go4 be) ++ ([(ou, .inl (cJ, 1, .inr (.inl fz)))]))) := hD
    rcases hw with ⟨h_22, h_23, h_24⟩ | ⟨h_25, h_26⟩
    · skip
      exact absurd (h_7.symm.trans h_22) (by decide)
    · skip
      replace h_26 := h_26.symm
      subst h_26
      have hP : va_P (dC, dI) vwCl ((w3 a cI cZ nk pa fa nc fo th tg nt tb te tk tt nu ub ue uk ut re ro fu bl go ra rc ex tc es wy) ++ ((w4 b cI cZ 1 nk pa nc fo th tg nt tb4 te4 tk4 tt4 ex tc es wy ab re4 go4 be) ++ ([(ou, .inl (cJ, 1, .inr (.inl fz)))]))) H := hP
      have hD : va_D A ((w3 a cI cZ nk pa fa nc fo th tg nt tb te tk tt nu ub ue uk ut re ro fu bl go ra rc ex tc es wy) ++ ((w4 b cI cZ 1 nk pa nc fo th tg nt tb4 te4 tk4 tt4 ex tc es wy ab re4 go4 be) ++ ([(ou, .inl (cJ, 1, .inr (.inl fz)))]))) := hD
      refine lv_istore (lv' := [(6, .int r_20), (5, .int 1), (0, .ref sb), (1, .ref (a 0)), (2, .ref (b 0)), (3, .ref ou), (4, .int (nI i))]) hx hb dL_law_359 hl (by decide) rfl (fun ls hl => ?_)
      refine lv_aload_n hx hb dL_law_361 rfl (lv_at hl 4 rfl) ?_
      have hPc := hP.sub (ws' := w4 b cI cZ 1 nk pa nc fo th tg nt tb4 te4 tk4 tt4 ex tc es wy ab re4 go4 be) [24, 25, 26, 27, 28, 29, 30, 31, 32, 33, 34, 35, 36] rfl
      refine va_calli (va_runV (As := []) (rest := []) ⟨hx, hb, hml, hown, hts⟩ (c_X4_thrown l dC dI cI cZ cJ b 1 nk pa nc fo th tg nt tb4 te4 tk4 tt4 ex tc es wy ab re4 go4 be ) (cwV 0 hts gL_law_X4_thrown rfl rfl rfl (by decide +kernel) ⟨Nat.le_of_ble_eq_true rfl, Nat.le_of_ble_eq_true rfl⟩) ⟨zPre_blind, va_recv hK hPc (ci := 4) (q0 := 0) rfl rfl, zPre_at hPc hK hn⟩ rfl rfl hl.1 rfl (lv_room (Nat.le_of_ble_eq_true rfl)) dL_law_362 ⟨by show _ ≤ 601024; omega, by show _ ≤ 7293034; omega⟩) hS (fun _ _ h => h.elim) (fun _ h => h.elim) (fun r_27 u_9 t H locs ht hvm hw hB hz1 hk1 hS => ?_)
      have hP := zkeep hP hk1
      subst hw
      refine lv_iload hx hb dL_law_365 (lv_at hl 1 rfl) ?_
      refine lv_icmp_eq (tgt := 372) hx hb dL_law_367 (by decide) (fun c_28 => ?_) (fun c_28 => ?_)
      · skip
        refine lv_iload hx hb dL_law_372 (lv_at hl 1 rfl) ?_
        refine lv_if_ne (tgt := 389) hx hb dL_law_374 (by decide) (fun c_29 => ?_) (fun c_29 => ?_)
        · skip
          refine lv_goto (tgt := 1475) hx hb dL_law_389 (by decide) ?_
          refine W.widen (k := k0 + 100) (n := n0 + 3000) (by omega) (by omega) ?_
          exact K nk pa fa nc fo th tg nt tb te tk tt nu ub ue uk ut re ro fu bl go ra rc ex tc es wy 1 tb4 te4 tk4 tt4 ab re4 go4 be fz T up _ _ _ (by first | assumption | omega) (by first | assumption | omega) (by first | assumption | omega) hP hD hS (lv_sub hl [2, 3, 4, 5, 6] rfl)
        · exact absurd c_29 (by decide)
      · exact absurd c_28 (by decide)

set_option maxHeartbeats 4000000 in
set_option maxRecDepth 100000 in
theorem lk_4 {p : Program} {e : Env} {s : State} {m : MethodId} {below : List Frame} {meth : Method} {c : Code} {Q : State → Prop} (l : Launch) {sb L : Nat} {xs : Nat → Int32} (dC : Nat → ClassId) (dI : Nat → Nat → Nat) (cI cZ cJ : ClassId) (a b : Nat → Nat) (ou i k0 n0 : Nat) (hF0 : lwF p l s m c sb L xs dC dI cI cZ cJ) (hi : i + 5 ≤ L) (hk0 : k0 + 100 ≤ 601024) (hn0 : n0 + 3000 ≤ 7293034) (nk : Nat) (pa : Nat → Int32) (fa : Nat → Int32) (nc : Nat) (fo : Nat → Int32) (th : Nat → Int32) (tg : Nat → Int32) (nt : Nat) (tb : Nat → Int32) (te : Nat → Int32) (tk : Nat → Int32) (tt : Nat → Int32) (nu : Nat) (ub : Nat → Int32) (ue : Nat → Int32) (uk : Nat → Int32) (ut : Nat → Int32) (re : Nat → Int32) (ro : Nat → Int32) (fu : Nat → Int32) (bl : Nat → Int32) (go : Nat → Int32) (ra : Nat → Int32) (rc : Nat) (ex : Int32) (tc : Int32) (es : Int32) (wy : Int64) (tw : Int32) (tb4 : Nat → Int32) (te4 : Nat → Int32) (tk4 : Nat → Int32) (tt4 : Nat → Int32) (ab : Nat → Int32) (re4 : Nat → Int32) (go4 : Nat → Int32) (be : Nat → Int32) (fz : Nat → Int64) (T : Nat → Nat → Nat) (up : Nat → Nat → Bool) (hg : g3 nk fa up nt tb te tk tt T) (hg4 : g4 nk ab up nt tb4 te4 tk4 tt4 T) (hc : okC nk nc fo th tg) (H : Heap) (locs : List Loc) (ls : Array Slot) (hP : va_P (dC, dI) vwCl ((w3 a cI cZ nk pa fa nc fo th tg nt tb te tk tt nu ub ue uk ut re ro fu bl go ra rc ex tc es wy) ++ ((w4 b cI cZ tw nk pa nc fo th tg nt tb4 te4 tk4 tt4 ex tc es wy ab re4 go4 be) ++ ([(ou, .inl (cJ, 1, .inr (.inl fz)))]))) H) (hD : va_D (fun q => s.heap.size ≤ q) ((w3 a cI cZ nk pa fa nc fo th tg nt tb te tk tt nu ub ue uk ut re ro fu bl go ra rc ex tc es wy) ++ ((w4 b cI cZ tw nk pa nc fo th tg nt tb4 te4 tk4 tt4 ex tc es wy ab re4 go4 be) ++ ([(ou, .inl (cJ, 1, .inr (.inl fz)))])))) (hS : va_S (fun q => s.heap.size ≤ q) s.heap H locs) (hl : lv_has ls 9 [(0, .ref sb), (1, .ref (a 0)), (2, .ref (b 0)), (3, .ref ou), (4, .int (nI i))]) (K : ∀ (nk : Nat) (pa : Nat → Int32) (fa : Nat → Int32) (nc : Nat) (fo : Nat → Int32) (th : Nat → Int32) (tg : Nat → Int32) (nt : Nat) (tb : Nat → Int32) (te : Nat → Int32) (tk : Nat → Int32) (tt : Nat → Int32) (nu : Nat) (ub : Nat → Int32) (ue : Nat → Int32) (uk : Nat → Int32) (ut : Nat → Int32) (re : Nat → Int32) (ro : Nat → Int32) (fu : Nat → Int32) (bl : Nat → Int32) (go : Nat → Int32) (ra : Nat → Int32) (rc : Nat) (ex : Int32) (tc : Int32) (es : Int32) (wy : Int64) (tw : Int32) (tb4 : Nat → Int32) (te4 : Nat → Int32) (tk4 : Nat → Int32) (tt4 : Nat → Int32) (ab : Nat → Int32) (re4 : Nat → Int32) (go4 : Nat → Int32) (be : Nat → Int32) (fz : Nat → Int64) (T : Nat → Nat → Nat) (up : Nat → Nat → Bool) (H : Heap) (locs : List Loc) (ls : Array Slot), g3 nk fa up nt tb te tk tt T → g4 nk ab up nt tb4 te4 tk4 tt4 T → okC nk nc fo th tg → va_P (dC, dI) vwCl ((w3 a cI cZ nk pa fa nc fo th tg nt tb te tk tt nu ub ue uk ut re ro fu bl go ra rc ex tc es wy) ++ ((w4 b cI cZ tw nk pa nc fo th tg nt tb4 te4 tk4 tt4 ex tc es wy ab re4 go4 be) ++ ([(ou, .inl (cJ, 1, .inr (.inl fz)))]))) H → va_D (fun q => s.heap.size ≤ q) ((w3 a cI cZ nk pa fa nc fo th tg nt tb te tk tt nu ub ue uk ut re ro fu bl go ra rc ex tc es wy) ++ ((w4 b cI cZ tw nk pa nc fo th tg nt tb4 te4 tk4 tt4 ex tc es wy ab re4 go4 be) ++ ([(ou, .inl (cJ, 1, .inr (.inl fz)))]))) → va_S (fun q => s.heap.size ≤ q) s.heap H locs → lv_has ls 9 [(0, .ref sb), (1, .ref (a 0)), (2, .ref (b 0)), (3, .ref ou), (4, .int (nI i))] → W p l e room_1 s m #[Value.ref sb] below meth c H locs (k0 + 100) (n0 + 3000) Q (F0 m 1475 ls [])) : W p l e room_1 s m #[Value.ref sb] below meth c H locs k0 n0 Q (F0 m 392 ls []) := by
  obtain ⟨hx, hb, hml, hown, hts, hX, hbl, hL, hK, hn, hzt, hzu, hzc, hlt⟩ := id hF0
  obtain ⟨A, hAe⟩ : ∃ A : Nat → Prop, A = fun q => s.heap.size ≤ q := ⟨_, rfl⟩
  have hbA : ¬ A sb := by rw [hAe]; exact Nat.not_le.mpr hbl
  have hA : ∀ q : Nat, s.heap.size ≤ q → A q := fun q h => by rw [hAe]; exact h
  rw [← hAe] at hD hS hzu K
  refine lv_aload_n hx hb dL_law_392 rfl (lv_at hl 1 rfl) ?_
  refine lv_aload_n hx hb dL_law_393 rfl (lv_at hl 0 rfl) ?_
  refine lv_iload hx hb dL_law_394 (lv_at hl 4 rfl) ?_
  refine lv_iconst (v := 1) hx hb dL_law_396 (by decide) ?_
  refine lv_iadd hx hb dL_law_397 ?_
  refine zz_top (y := nI (i + 1)) (nI_add _ _) ?_
  refine va_sld hx hb hX hbl hbA hS (vp_in_nI (n := i + 1) (by omega) (by omega)) dL_law_398 ?_
  refine zz_top (y := xs (i + 1)) (congrArg _ (nI_clamp (by omega))) ?_
  refine lv_aload_n hx hb dL_law_399 rfl (lv_at hl 3 rfl) ?_
  have hPc := hP.sub (ws' := (w3 a cI cZ nk pa fa nc fo th tg nt tb te tk tt nu ub ue uk ut re ro fu bl go ra rc ex tc es wy) ++ ([(ou, .inl (cJ, 1, .inr (.inl fz)))])) [0, 1, 2, 3, 4, 5, 6, 7, 8, 9, 10, 11, 12, 13, 14, 15, 16, 17, 18, 19, 20, 21, 22, 23, 37] rfl
  have hDc := hD.sub (ws' := (w3 a cI cZ nk pa fa nc fo th tg nt tb te tk tt nu ub ue uk ut re ro fu bl go ra rc ex tc es wy) ++ ([(ou, .inl (cJ, 1, .inr (.inl fz)))])) [0, 1, 2, 3, 4, 5, 6, 7, 8, 9, 10, 11, 12, 13, 14, 15, 16, 17, 18, 19, 20, 21, 22, 23, 37] (by decide) rfl
  have hFc := va_free (wc := (w3 a cI cZ nk pa fa nc fo th tg nt tb te tk tt nu ub ue uk ut re ro fu bl go ra rc ex tc es wy) ++ ([(ou, .inl (cJ, 1, .inr (.inl fz)))])) hD hS hA [0, 1, 2, 3, 4, 5, 6, 7, 8, 9, 10, 11, 12, 13, 14, 15, 16, 17, 18, 19, 20, 21, 22, 23, 37] rfl
  refine va_calli (vx_runSW (As := [.ref (a 0), .int (xs (i + 1)), .ref ou]) (rest := []) ⟨hx, hb, hml, hown, hts⟩ (c_L_step l dC dI cI cZ cJ a nk pa fa nc fo th tg nt tb te tk tt nu ub ue uk ut re ro fu bl go ra rc ex tc es wy (xs (i + 1)) T up ou fz H.size hlt (by first | assumption | omega) (by first | assumption | omega)) (vx_cwSW 3 hts gL_law_L_step rfl rfl rfl (by decide +kernel) ⟨Nat.le_of_ble_eq_true rfl, Nat.le_of_ble_eq_true rfl⟩) ⟨zTl_blind, zTl_at hPc hK hn (hDc.weaken (fun _ _ _ _ => trivial)) hzt hzu hS hFc hzc⟩ rfl rfl hl.1 rfl (lv_room (Nat.le_of_ble_eq_true rfl)) dL_law_400 ⟨by show _ ≤ 601024; omega, by show _ ≤ 7293034; omega⟩) hS (fun q _ h => hFc q h) hFc (fun r_1 u_9 t H1 locs ht hvm hw hB hz1 hk1 hS => ?_)
  obtain ⟨v_c_1, v_cf_2, v_ct_3, v_cg_4, fz9_5⟩ := u_9
  dsimp only at hw hB
  obtain ⟨hP1, -, hD1⟩ := hB
  rw [ht] at hP1
  obtain ⟨hP, hD⟩ := va_join (wr := w4 b cI cZ tw nk pa nc fo th tg nt tb4 te4 tk4 tt4 ex tc es wy ab re4 go4 be) (w1 := (w3 a cI cZ nk pa fa v_c_1 v_cf_2 v_ct_3 v_cg_4 nt tb te tk tt nu ub ue uk ut re ro fu bl go ra rc ex tc es wy) ++ ([(ou, .inl (cJ, 1, .inr (.inl fz9_5)))])) hP hD [0, 1, 2, 3, 4, 5, 6, 7, 8, 9, 10, 11, 12, 13, 14, 15, 16, 17, 18, 19, 20, 21, 22, 23, 37] [24, 25, 26, 27, 28, 29, 30, 31, 32, 33, 34, 35, 36] rfl rfl (by decide) (by decide) hk1 hFc hP1 hD1
  generalize H1 = H at hP hS ⊢
  have hP := hP.sub (ws' := (w3 a cI cZ nk pa fa v_c_1 v_cf_2 v_ct_3 v_cg_4 nt tb te tk tt nu ub ue uk ut re ro fu bl go ra rc ex tc es wy) ++ ((w4 b cI cZ tw nk pa nc fo th tg nt tb4 te4 tk4 tt4 ex tc es wy ab re4 go4 be) ++ ([(ou, .inl (cJ, 1, .inr (.inl fz9_5)))]))) [13, 14, 15, 16, 17, 18, 19, 20, 21, 22, 23, 24, 25, 26, 27, 28, 29, 30, 31, 32, 33, 34, 35, 36, 0, 1, 2, 3, 4, 5, 6, 7, 8, 9, 10, 11, 12, 37] rfl
  have hD := hD.sub (ws' := (w3 a cI cZ nk pa fa v_c_1 v_cf_2 v_ct_3 v_cg_4 nt tb te tk tt nu ub ue uk ut re ro fu bl go ra rc ex tc es wy) ++ ((w4 b cI cZ tw nk pa nc fo th tg nt tb4 te4 tk4 tt4 ex tc es wy ab re4 go4 be) ++ ([(ou, .inl (cJ, 1, .inr (.inl fz9_5)))]))) [13, 14, 15, 16, 17, 18, 19, 20, 21, 22, 23, 24, 25, 26, 27, 28, 29, 30, 31, 32, 33, 34, 35, 36, 0, 1, 2, 3, 4, 5, 6, 7, 8, 9, 10, 11, 12, 37] (by decide) rfl
  have hP : va_P (dC, dI) vwCl ((w3 a cI cZ nk pa fa v_c_1 v_cf_2 v_ct_3 v_cg_4 nt tb te tk tt nu ub ue uk ut re ro fu bl go ra rc ex tc es wy) ++ ((w4 b cI cZ tw nk pa nc fo th tg nt tb4 te4 tk4 tt4 ex tc es wy ab re4 go4 be) ++ ([(ou, .inl (cJ, 1, .inr (.inl fz9_5)))]))) H := hP
  have hD : va_D A ((w3 a cI cZ nk pa fa v_c_1 v_cf_2 v_ct_3 v_cg_4 nt tb te tk tt nu ub ue uk ut re ro fu bl go ra rc ex tc es wy) ++ ((w4 b cI cZ tw nk pa nc fo th tg nt tb4 te4 tk4 tt4 ex tc es wy ab re4 go4 be) ++ ([(ou, .inl (cJ, 1, .inr (.inl fz9_5)))]))) := hD
  refine W.widen (k := k0 + 2) (n := n0 + 12) (by omega) (by omega) ?_
  rcases hw with ⟨h_7, h_8, h_9, h_10, h_11, h_12, ⟨⟨h_13, h_14⟩, h_15⟩⟩ | ⟨h_16, h_17, h_18, h_19, h_20, h_21, h_22⟩ | ⟨h_23, ⟨h_24, h_25⟩, h_26, h_27, h_28, h_29, h_30⟩
  · skip
    replace h_7 := h_7.symm
    subst h_7
    replace h_8 := h_8.symm
    subst h_8
    replace h_9 := h_9.symm
    subst h_9
    replace h_10 := h_10.symm
    subst h_10
    replace h_11 := h_11.symm
    subst h_11
    replace h_12 := h_12.symm
    subst h_12
    have hP : va_P (dC, dI) vwCl ((w3 a cI cZ nk pa fa (nc + 1) (upd fo nc 0) (upd th nc (xs (i + 1))) (upd tg nc (-1)) nt tb te tk tt nu ub ue uk ut re ro fu bl go ra rc ex tc es wy) ++ ((w4 b cI cZ tw nk pa nc fo th tg nt tb4 te4 tk4 tt4 ex tc es wy ab re4 go4 be) ++ ([(ou, .inl (cJ, 1, .inr (.inl (vp_updL fz 0 ((nI nc).toInt64)))))]))) H := hP
    have hD : va_D A ((w3 a cI cZ nk pa fa (nc + 1) (upd fo nc 0) (upd th nc (xs (i + 1))) (upd tg nc (-1)) nt tb te tk tt nu ub ue uk ut re ro fu bl go ra rc ex tc es wy) ++ ((w4 b cI cZ tw nk pa nc fo th tg nt tb4 te4 tk4 tt4 ex tc es wy ab re4 go4 be) ++ ([(ou, .inl (cJ, 1, .inr (.inl (vp_updL fz 0 ((nI nc).toInt64)))))]))) := hD
    refine lv_istore (lv' := [(5, .int 0), (0, .ref sb), (1, .ref (a 0)), (2, .ref (b 0)), (3, .ref ou), (4, .int (nI i))]) hx hb dL_law_403 hl (by decide) rfl (fun ls hl => ?_)
    refine lv_aload_n hx hb dL_law_405 rfl (lv_at hl 3 rfl) ?_
    refine lv_aload_n hx hb dL_law_406 rfl (lv_at hl 1 rfl) ?_
    refine lv_iload hx hb dL_law_407 (lv_at hl 5 rfl) ?_
    refine lv_iconst (v := 1) hx hb dL_law_409 (by decide) ?_
    refine lv_iadd hx hb dL_law_410 ?_
    refine zz_top (y := nI (i + 1)) (nI_add _ _) ?_
    refine va_sld hx hb hX hbl hbA hS (vp_in_nI (n := i + 1) (by omega) (by omega)) dL_law_411 ?_
    refine zz_top (y := xs (i + 1)) (congrArg _ (nI_clamp (by omega))) ?_
    have hPc := hP.sub (ws' := w4 b cI cZ tw nk pa nc fo th tg nt tb4 te4 tk4 tt4 ex tc es wy ab re4 go4 be) [24, 25, 26, 27, 28, 29, 30, 31, 32, 33, 34, 35, 36] rfl
    have hDc := hD.sub (ws' := w4 b cI cZ tw nk pa nc fo th tg nt tb4 te4 tk4 tt4 ex tc es wy ab re4 go4 be) [24, 25, 26, 27, 28, 29, 30, 31, 32, 33, 34, 35, 36] (by decide) rfl
    have hFc := va_free (wc := w4 b cI cZ tw nk pa nc fo th tg nt tb4 te4 tk4 tt4 ex tc es wy ab re4 go4 be) hD hS hA [24, 25, 26, 27, 28, 29, 30, 31, 32, 33, 34, 35, 36] rfl
    refine va_calli (va_runV (As := [.int (xs (i + 1))]) (rest := []) ⟨hx, hb, hml, hown, hts⟩ (c_X4_step l dC dI cI cZ cJ b tw nk pa nc fo th tg nt tb4 te4 tk4 tt4 ex tc es wy ab re4 go4 be (xs (i + 1)) T up H.size (by first | assumption | omega) (by first | assumption | omega)) (cwV 1 hts gL_law_X4_step rfl rfl rfl (by decide +kernel) ⟨Nat.le_of_ble_eq_true rfl, Nat.le_of_ble_eq_true rfl⟩) ⟨zWr_blind, va_recv hK hPc (ci := 4) (q0 := 0) rfl rfl, zWr_at hPc hK hn (hDc.weaken (fun _ _ _ _ => trivial))⟩ rfl rfl hl.1 rfl (lv_room (Nat.le_of_ble_eq_true rfl)) dL_law_412 ⟨by show _ ≤ 601024; omega, by show _ ≤ 7293034; omega⟩) hS (fun q _ h => hFc q h) hFc (fun r_31 u_9 t H1 locs ht hvm hw hB hz1 hk1 hS => ?_)
    obtain ⟨tw9_31, nc9_32, fo9_33, th9_34, tg9_35⟩ := u_9
    dsimp only at hw hB
    obtain ⟨hP1, -, hD1⟩ := hB
    rw [ht] at hP1
    obtain ⟨hP, hD⟩ := va_join (wr := (w3 a cI cZ nk pa fa (nc + 1) (upd fo nc 0) (upd th nc (xs (i + 1))) (upd tg nc (-1)) nt tb te tk tt nu ub ue uk ut re ro fu bl go ra rc ex tc es wy) ++ ([(ou, .inl (cJ, 1, .inr (.inl (vp_updL fz 0 ((nI nc).toInt64)))))])) (w1 := w4 b cI cZ tw9_31 nk pa nc9_32 fo9_33 th9_34 tg9_35 nt tb4 te4 tk4 tt4 ex tc es wy ab re4 go4 be) hP hD [24, 25, 26, 27, 28, 29, 30, 31, 32, 33, 34, 35, 36] [0, 1, 2, 3, 4, 5, 6, 7, 8, 9, 10, 11, 12, 13, 14, 15, 16, 17, 18, 19, 20, 21, 22, 23, 37] rfl rfl (by decide) (by decide) hk1 hFc hP1 hD1
    generalize H1 = H at hP hS ⊢
    have hP := hP.sub (ws' := (w3 a cI cZ nk pa fa (nc + 1) (upd fo nc 0) (upd th nc (xs (i + 1))) (upd tg nc (-1)) nt tb te tk tt nu ub ue uk ut re ro fu bl go ra rc ex tc es wy) ++ ((w4 b cI cZ tw9_31 nk pa nc9_32 fo9_33 th9_34 tg9_35 nt tb4 te4 tk4 tt4 ex tc es wy ab re4 go4 be) ++ ([(ou, .inl (cJ, 1, .inr (.inl (vp_updL fz 0 ((nI nc).toInt64)))))]))) [0, 1, 2, 3, 4, 5, 6, 7, 8, 9, 10, 11, 12, 13, 14, 15, 16, 17, 18, 19, 20, 21, 22, 23, 25, 26, 27, 28, 29, 30, 31, 32, 33, 34, 35, 36, 37, 24] rfl
    have hD := hD.sub (ws' := (w3 a cI cZ nk pa fa (nc + 1) (upd fo nc 0) (upd th nc (xs (i + 1))) (upd tg nc (-1)) nt tb te tk tt nu ub ue uk ut re ro fu bl go ra rc ex tc es wy) ++ ((w4 b cI cZ tw9_31 nk pa nc9_32 fo9_33 th9_34 tg9_35 nt tb4 te4 tk4 tt4 ex tc es wy ab re4 go4 be) ++ ([(ou, .inl (cJ, 1, .inr (.inl (vp_updL fz 0 ((nI nc).toInt64)))))]))) [0, 1, 2, 3, 4, 5, 6, 7, 8, 9, 10, 11, 12, 13, 14, 15, 16, 17, 18, 19, 20, 21, 22, 23, 25, 26, 27, 28, 29, 30, 31, 32, 33, 34, 35, 36, 37, 24] (by decide) rfl
    have hP : va_P (dC, dI) vwCl ((w3 a cI cZ nk pa fa (nc + 1) (upd fo nc 0) (upd th nc (xs (i + 1))) (upd tg nc (-1)) nt tb te tk tt nu ub ue uk ut re ro fu bl go ra rc ex tc es wy) ++ ((w4 b cI cZ tw9_31 nk pa nc9_32 fo9_33 th9_34 tg9_35 nt tb4 te4 tk4 tt4 ex tc es wy ab re4 go4 be) ++ ([(ou, .inl (cJ, 1, .inr (.inl (vp_updL fz 0 ((nI nc).toInt64)))))]))) H := hP
    have hD : va_D A ((w3 a cI cZ nk pa fa (nc + 1) (upd fo nc 0) (upd th nc (xs (i + 1))) (upd tg nc (-1)) nt tb te tk tt nu ub ue uk ut re ro fu bl go ra rc ex tc es wy) ++ ((w4 b cI cZ tw9_31 nk pa nc9_32 fo9_33 th9_34 tg9_35 nt tb4 te4 tk4 tt4 ex tc es wy ab re4 go4 be) ++ ([(ou, .inl (cJ, 1, .inr (.inl (vp_updL fz 0 ((nI nc).toInt64)))))]))) := hD
    rcases hw with ⟨h_37, h_38, h_39, h_40, h_41, h_42⟩ | ⟨h_43, h_44, h_45, h_46, h_47, h_48, h_49⟩ | ⟨h_50, h_51, h_52, h_53, h_54, h_55, h_56, h_57⟩
    · skip
      exact absurd (h_13.symm.trans h_37) (by decide)
    · skip
      omega
    · skip
      replace h_52 := h_52.symm
      subst h_52
      replace h_53 := h_53.symm
      subst h_53
      replace h_54 := h_54.symm
      subst h_54
      replace h_55 := h_55.symm
      subst h_55
      replace h_56 := h_56.symm
      subst h_56
      replace h_57 := h_57.symm
      subst h_57
      have hP : va_P (dC, dI) vwCl ((w3 a cI cZ nk pa fa (nc + 1) (upd fo nc 0) (upd th nc (xs (i + 1))) (upd tg nc (-1)) nt tb te tk tt nu ub ue uk ut re ro fu bl go ra rc ex tc es wy) ++ ((w4 b cI cZ 0 nk pa (nc + 1) (upd fo nc 0) (upd th nc (xs (i + 1))) (upd tg nc (-1)) nt tb4 te4 tk4 tt4 ex tc es wy ab re4 go4 be) ++ ([(ou, .inl (cJ, 1, .inr (.inl (vp_updL fz 0 ((nI nc).toInt64)))))]))) H := hP
      have hD : va_D A ((w3 a cI cZ nk pa fa (nc + 1) (upd fo nc 0) (upd th nc (xs (i + 1))) (upd tg nc (-1)) nt tb te tk tt nu ub ue uk ut re ro fu bl go ra rc ex tc es wy) ++ ((w4 b cI cZ 0 nk pa (nc + 1) (upd fo nc 0) (upd th nc (xs (i + 1))) (upd tg nc (-1)) nt tb4 te4 tk4 tt4 ex tc es wy ab re4 go4 be) ++ ([(ou, .inl (cJ, 1, .inr (.inl (vp_updL fz 0 ((nI nc).toInt64)))))]))) := hD
      refine lv_istore (lv' := [(6, .int (nI nc)), (5, .int 0), (0, .ref sb), (1, .ref (a 0)), (2, .ref (b 0)), (3, .ref ou), (4, .int (nI i))]) hx hb dL_law_415 hl (by decide) rfl (fun ls hl => ?_)
      refine lv_aload_n hx hb dL_law_417 rfl (lv_at hl 4 rfl) ?_
      have hPc := hP.sub (ws' := w4 b cI cZ 0 nk pa (nc + 1) (upd fo nc 0) (upd th nc (xs (i + 1))) (upd tg nc (-1)) nt tb4 te4 tk4 tt4 ex tc es wy ab re4 go4 be) [24, 25, 26, 27, 28, 29, 30, 31, 32, 33, 34, 35, 36] rfl
      refine va_calli (va_runV (As := []) (rest := []) ⟨hx, hb, hml, hown, hts⟩ (c_X4_thrown l dC dI cI cZ cJ b 0 nk pa (nc + 1) (upd fo nc 0) (upd th nc (xs (i + 1))) (upd tg nc (-1)) nt tb4 te4 tk4 tt4 ex tc es wy ab re4 go4 be ) (cwV 0 hts gL_law_X4_thrown rfl rfl rfl (by decide +kernel) ⟨Nat.le_of_ble_eq_true rfl, Nat.le_of_ble_eq_true rfl⟩) ⟨zPre_blind, va_recv hK hPc (ci := 4) (q0 := 0) rfl rfl, zPre_at hPc hK hn⟩ rfl rfl hl.1 rfl (lv_room (Nat.le_of_ble_eq_true rfl)) dL_law_418 ⟨by show _ ≤ 601024; omega, by show _ ≤ 7293034; omega⟩) hS (fun _ _ h => h.elim) (fun _ h => h.elim) (fun r_58 u_9 t H locs ht hvm hw hB hz1 hk1 hS => ?_)
      have hP := zkeep hP hk1
      subst hw
      refine lv_iload hx hb dL_law_421 (lv_at hl 1 rfl) ?_
      refine lv_icmp_eq (tgt := 428) hx hb dL_law_423 (by decide) (fun c_59 => ?_) (fun c_59 => ?_)
      · skip
        refine lv_iload hx hb dL_law_428 (lv_at hl 1 rfl) ?_
        refine lv_if_ne (tgt := 445) hx hb dL_law_430 (by decide) (fun c_60 => ?_) (fun c_60 => ?_)
        · exact absurd c_60 (by decide)
        · skip
          refine lv_aload_n hx hb dL_law_433 rfl (lv_at hl 5 rfl) ?_
          refine lv_iconst (v := 0) hx hb dL_law_434 (by decide) ?_
          refine va_lald hx hb hK hP 37 2 rfl rfl (vp_in_nI (n := 0) (by omega) (by decide)) dL_law_435 ?_
          refine zz_topl (y := (vp_updL fz 0 ((nI nc).toInt64)) 0) (rfl) ?_
          refine lv_iload hx hb dL_law_436 (lv_at hl 0 rfl) ?_
          refine lv_i2l (v := (nI nc).toInt64) hx hb dL_law_438 rfl ?_
          refine W.lcmp hx hb dL_law_439 ?_
          refine lv_if_eq (tgt := 445) hx hb dL_law_440 (by decide) (fun c_61 => ?_) (fun c_61 => ?_)
          · skip
            skip
            refine lv_goto (tgt := 1475) hx hb dL_law_445 (by decide) ?_
            refine W.widen (k := k0 + 100) (n := n0 + 3000) (by omega) (by omega) ?_
            exact K nk pa fa (nc + 1) (upd fo nc 0) (upd th nc (xs (i + 1))) (upd tg nc (-1)) nt tb te tk tt nu ub ue uk ut re ro fu bl go ra rc ex tc es wy 0 tb4 te4 tk4 tt4 ab re4 go4 be (vp_updL fz 0 ((nI nc).toInt64)) T up _ _ _ (by first | assumption | omega) (by first | assumption | omega) (by first | assumption | omega) hP hD hS (lv_sub hl [2, 3, 4, 5, 6] rfl)
          · exact absurd ((lg_cmp_eq _ _).mpr (by first | rfl | exact (bL_t hz9).symm | exact (bL_f hz9).symm)) c_61
      · exact absurd c_59 (by decide)
  · skip
    replace h_16 := h_16.symm
    subst h_16
    replace h_18 := h_18.symm
    subst h_18
    replace h_19 := h_19.symm
    subst h_19
    replace h_20 := h_20.symm
    subst h_20
    replace h_21 := h_21.symm
    subst h_21
    replace h_22 := h_22.symm
    subst h_22
    have hP : va_P (dC, dI) vwCl ((w3 a cI cZ nk pa fa nc fo th tg nt tb te tk tt nu ub ue uk ut re ro fu bl go ra rc ex tc es wy) ++ ((w4 b cI cZ tw nk pa nc fo th tg nt tb4 te4 tk4 tt4 ex tc es wy ab re4 go4 be) ++ ([(ou, .inl (cJ, 1, .inr (.inl fz)))]))) H := hP
    have hD : va_D A ((w3 a cI cZ nk pa fa nc fo th tg nt tb te tk tt nu ub ue uk ut re ro fu bl go ra rc ex tc es wy) ++ ((w4 b cI cZ tw nk pa nc fo th tg nt tb4 te4 tk4 tt4 ex tc es wy ab re4 go4 be) ++ ([(ou, .inl (cJ, 1, .inr (.inl fz)))]))) := hD
    refine lv_istore (lv' := [(5, .int 1), (0, .ref sb), (1, .ref (a 0)), (2, .ref (b 0)), (3, .ref ou), (4, .int (nI i))]) hx hb dL_law_403 hl (by decide) rfl (fun ls hl => ?_)
    refine lv_aload_n hx hb dL_law_405 rfl (lv_at hl 3 rfl) ?_
    refine lv_aload_n hx hb dL_law_406 rfl (lv_at hl 1 rfl) ?_
    refine lv_iload hx hb dL_law_407 (lv_at hl 5 rfl) ?_
    refine lv_iconst (v := 1) hx hb dL_law_409 (by decide) ?_
    refine lv_iadd hx hb dL_law_410 ?_
    refine zz_top (y := nI (i + 1)) (nI_add _ _) ?_
    refine va_sld hx hb hX hbl hbA hS (vp_in_nI (n := i + 1) (by omega) (by omega)) dL_law_411 ?_
    refine zz_top (y := xs (i + 1)) (congrArg _ (nI_clamp (by omega))) ?_
    have hPc := hP.sub (ws' := w4 b cI cZ tw nk pa nc fo th tg nt tb4 te4 tk4 tt4 ex tc es wy ab re4 go4 be) [24, 25, 26, 27, 28, 29, 30, 31, 32, 33, 34, 35, 36] rfl
    have hDc := hD.sub (ws' := w4 b cI cZ tw nk pa nc fo th tg nt tb4 te4 tk4 tt4 ex tc es wy ab re4 go4 be) [24, 25, 26, 27, 28, 29, 30, 31, 32, 33, 34, 35, 36] (by decide) rfl
    have hFc := va_free (wc := w4 b cI cZ tw nk pa nc fo th tg nt tb4 te4 tk4 tt4 ex tc es wy ab re4 go4 be) hD hS hA [24, 25, 26, 27, 28, 29, 30, 31, 32, 33, 34, 35, 36] rfl
    refine va_calli (va_runV (As := [.int (xs (i + 1))]) (rest := []) ⟨hx, hb, hml, hown, hts⟩ (c_X4_step l dC dI cI cZ cJ b tw nk pa nc fo th tg nt tb4 te4 tk4 tt4 ex tc es wy ab re4 go4 be (xs (i + 1)) T up H.size (by first | assumption | omega) (by first | assumption | omega)) (cwV 1 hts gL_law_X4_step rfl rfl rfl (by decide +kernel) ⟨Nat.le_of_ble_eq_true rfl, Nat.le_of_ble_eq_true rfl⟩) ⟨zWr_blind, va_recv hK hPc (ci := 4) (q0 := 0) rfl rfl, zWr_at hPc hK hn (hDc.weaken (fun _ _ _ _ => trivial))⟩ rfl rfl hl.1 rfl (lv_room (Nat.le_of_ble_eq_true rfl)) dL_law_412 ⟨by show _ ≤ 601024; omega, by show _ ≤ 7293034; omega⟩) hS (fun q _ h => hFc q h) hFc (fun r_62 u_9 t H1 locs ht hvm hw hB hz1 hk1 hS => ?_)
    obtain ⟨tw9_62, nc9_63, fo9_64, th9_65, tg9_66⟩ := u_9
    dsimp only at hw hB
    obtain ⟨hP1, -, hD1⟩ := hB
    rw [ht] at hP1
    obtain ⟨hP, hD⟩ := va_join (wr := (w3 a cI cZ nk pa fa nc fo th tg nt tb te tk tt nu ub ue uk ut re ro fu bl go ra rc ex tc es wy) ++ ([(ou, .inl (cJ, 1, .inr (.inl fz)))])) (w1 := w4 b cI cZ tw9_62 nk pa nc9_63 fo9_64 th9_65 tg9_66 nt tb4 te4 tk4 tt4 ex tc es wy ab re4 go4 be) hP hD [24, 25, 26, 27, 28, 29, 30, 31, 32, 33, 34, 35, 36] [0, 1, 2, 3, 4, 5, 6, 7, 8, 9, 10, 11, 12, 13, 14, 15, 16, 17, 18, 19, 20, 21, 22, 23, 37] rfl rfl (by decide) (by decide) hk1 hFc hP1 hD1
    generalize H1 = H at hP hS ⊢
    have hP := hP.sub (ws' := (w3 a cI cZ nk pa fa nc fo th tg nt tb te tk tt nu ub ue uk ut re ro fu bl go ra rc ex tc es wy) ++ ((w4 b cI cZ tw9_62 nk pa nc9_63 fo9_64 th9_65 tg9_66 nt tb4 te4 tk4 tt4 ex tc es wy ab re4 go4 be) ++ ([(ou, .inl (cJ, 1, .inr (.inl fz)))]))) [0, 1, 2, 3, 4, 5, 6, 7, 8, 9, 10, 11, 12, 13, 14, 15, 16, 17, 18, 19, 20, 21, 22, 23, 25, 26, 27, 28, 29, 30, 31, 32, 33, 34, 35, 36, 37, 24] rfl
    have hD := hD.sub (ws' := (w3 a cI cZ nk pa fa nc fo th tg nt tb te tk tt nu ub ue uk ut re ro fu bl go ra rc ex tc es wy) ++ ((w4 b cI cZ tw9_62 nk pa nc9_63 fo9_64 th9_65 tg9_66 nt tb4 te4 tk4 tt4 ex tc es wy ab re4 go4 be) ++ ([(ou, .inl (cJ, 1, .inr (.inl fz)))]))) [0, 1, 2, 3, 4, 5, 6, 7, 8, 9, 10, 11, 12, 13, 14, 15, 16, 17, 18, 19, 20, 21, 22, 23, 25, 26, 27, 28, 29, 30, 31, 32, 33, 34, 35, 36, 37, 24] (by decide) rfl
    have hP : va_P (dC, dI) vwCl ((w3 a cI cZ nk pa fa nc fo th tg nt tb te tk tt nu ub ue uk ut re ro fu bl go ra rc ex tc es wy) ++ ((w4 b cI cZ tw9_62 nk pa nc9_63 fo9_64 th9_65 tg9_66 nt tb4 te4 tk4 tt4 ex tc es wy ab re4 go4 be) ++ ([(ou, .inl (cJ, 1, .inr (.inl fz)))]))) H := hP
    have hD : va_D A ((w3 a cI cZ nk pa fa nc fo th tg nt tb te tk tt nu ub ue uk ut re ro fu bl go ra rc ex tc es wy) ++ ((w4 b cI cZ tw9_62 nk pa nc9_63 fo9_64 th9_65 tg9_66 nt tb4 te4 tk4 tt4 ex tc es wy ab re4 go4 be) ++ ([(ou, .inl (cJ, 1, .inr (.inl fz)))]))) := hD
    rcases hw with ⟨h_68, h_69, h_70, h_71, h_72, h_73⟩ | ⟨h_74, h_75, h_76, h_77, h_78, h_79, h_80⟩ | ⟨h_81, h_82, h_83, h_84, h_85, h_86, h_87, h_88⟩
    · skip
      replace h_69 := h_69.symm
      subst h_69
      replace h_70 := h_70.symm
      subst h_70
      replace h_71 := h_71.symm
      subst h_71
      replace h_72 := h_72.symm
      subst h_72
      replace h_73 := h_73.symm
      subst h_73
      have hP : va_P (dC, dI) vwCl ((w3 a cI cZ nk pa fa nc fo th tg nt tb te tk tt nu ub ue uk ut re ro fu bl go ra rc ex tc es wy) ++ ((w4 b cI cZ 1 nk pa nc fo th tg nt tb4 te4 tk4 tt4 ex tc es wy ab re4 go4 be) ++ ([(ou, .inl (cJ, 1, .inr (.inl fz)))]))) H := hP
      have hD : va_D A ((w3 a cI cZ nk pa fa nc fo th tg nt tb te tk tt nu ub ue uk ut re ro fu bl go ra rc ex tc es wy) ++ ((w4 b cI cZ 1 nk pa nc fo th tg nt tb4 te4 tk4 tt4 ex tc es wy ab re4 go4 be) ++ ([(ou, .inl (cJ, 1, .inr (.inl fz)))]))) := hD
      refine lv_istore (lv' := [(6, .int r_62), (5, .int 1), (0, .ref sb), (1, .ref (a 0)), (2, .ref (b 0)), (3, .ref ou), (4, .int (nI i))]) hx hb dL_law_415 hl (by decide) rfl (fun ls hl => ?_)
      refine lv_aload_n hx hb dL_law_417 rfl (lv_at hl 4 rfl) ?_
      have hPc := hP.sub (ws' := w4 b cI cZ 1 nk pa nc fo th tg nt tb4 te4 tk4 tt4 ex tc es wy ab re4 go4 be) [24, 25, 26, 27, 28, 29, 30, 31, 32, 33, 34, 35, 36] rfl
      refine va_calli (va_runV (As := []) (rest := []) ⟨hx, hb, hml, hown, hts⟩ (c_X4_thrown l dC dI cI cZ cJ b 1 nk pa nc fo th tg nt tb4 te4 tk4 tt4 ex tc es wy ab re4 go4 be ) (cwV 0 hts gL_law_X4_thrown rfl rfl rfl (by decide +kernel) ⟨Nat.le_of_ble_eq_true rfl, Nat.le_of_ble_eq_true rfl⟩) ⟨zPre_blind, va_recv hK hPc (ci := 4) (q0 := 0) rfl rfl, zPre_at hPc hK hn⟩ rfl rfl hl.1 rfl (lv_room (Nat.le_of_ble_eq_true rfl)) dL_law_418 ⟨by show _ ≤ 601024; omega, by show _ ≤ 7293034; omega⟩) hS (fun _ _ h => h.elim) (fun _ h => h.elim) (fun r_89 u_9 t H locs ht hvm hw hB hz1 hk1 hS => ?_)
      have hP := zkeep hP hk1
      subst hw
      refine lv_iload hx hb dL_law_421 (lv_at hl 1 rfl) ?_
      refine lv_icmp_eq (tgt := 428) hx hb dL_law_423 (by decide) (fun c_90 => ?_) (fun c_90 => ?_)
      · skip
        refine lv_iload hx hb dL_law_428 (lv_at hl 1 rfl) ?_
        refine lv_if_ne (tgt := 445) hx hb dL_law_430 (by decide) (fun c_91 => ?_) (fun c_91 => ?_)
        · skip
          refine lv_goto (tgt := 1475) hx hb dL_law_445 (by decide) ?_
          refine W.widen (k := k0 + 100) (n := n0 + 3000) (by omega) (by omega) ?_
          exact K nk pa fa nc fo th tg nt tb te tk tt nu ub ue uk ut re ro fu bl go ra rc ex tc es wy 1 tb4 te4 tk4 tt4 ab re4 go4 be fz T up _ _ _ (by first | assumption | omega) (by first | assumption | omega) (by first | assumption | omega) hP hD hS (lv_sub hl [2, 3, 4, 5, 6] rfl)
        · exact absurd c_91 (by decide)
      · exact absurd c_90 (by decide)
    · skip
      exact absurd (h_17.symm.trans h_74) (by decide)
    · skip
      exact absurd (h_17.symm.trans h_81) (by decide)
  · skip
    replace h_23 := h_23.symm
    subst h_23
    replace h_26 := h_26.symm
    subst h_26
    replace h_27 := h_27.symm
    subst h_27
    replace h_28 := h_28.symm
    subst h_28
    replace h_29 := h_29.symm
    subst h_29
    replace h_30 := h_30.symm
    subst h_30
    have hP : va_P (dC, dI) vwCl ((w3 a cI cZ nk pa fa nc fo th tg nt tb te tk tt nu ub ue uk ut re ro fu bl go ra rc ex tc es wy) ++ ((w4 b cI cZ tw nk pa nc fo th tg nt tb4 te4 tk4 tt4 ex tc es wy ab re4 go4 be) ++ ([(ou, .inl (cJ, 1, .inr (.inl fz)))]))) H := hP
    have hD : va_D A ((w3 a cI cZ nk pa fa nc fo th tg nt tb te tk tt nu ub ue uk ut re ro fu bl go ra rc ex tc es wy) ++ ((w4 b cI cZ tw nk pa nc fo th tg nt tb4 te4 tk4 tt4 ex tc es wy ab re4 go4 be) ++ ([(ou, .inl (cJ, 1, .inr (.inl fz)))]))) := hD
    refine lv_istore (lv' := [(5, .int 2), (0, .ref sb), (1, .ref (a 0)), (2, .ref (b 0)), (3, .ref ou), (4, .int (nI i))]) hx hb dL_law_403 hl (by decide) rfl (fun ls hl => ?_)
    refine lv_aload_n hx hb dL_law_405 rfl (lv_at hl 3 rfl) ?_
    refine lv_aload_n hx hb dL_law_406 rfl (lv_at hl 1 rfl) ?_
    refine lv_iload hx hb dL_law_407 (lv_at hl 5 rfl) ?_
    refine lv_iconst (v := 1) hx hb dL_law_409 (by decide) ?_
    refine lv_iadd hx hb dL_law_410 ?_
    refine zz_top (y := nI (i + 1)) (nI_add _ _) ?_
    refine va_sld hx hb hX hbl hbA hS (vp_in_nI (n := i + 1) (by omega) (by omega)) dL_law_411 ?_
    refine zz_top (y := xs (i + 1)) (congrArg _ (nI_clamp (by omega))) ?_
    have hPc := hP.sub (ws' := w4 b cI cZ tw nk pa nc fo th tg nt tb4 te4 tk4 tt4 ex tc es wy ab re4 go4 be) [24, 25, 26, 27, 28, 29, 30, 31, 32, 33, 34, 35, 36] rfl
    have hDc := hD.sub (ws' := w4 b cI cZ tw nk pa nc fo th tg nt tb4 te4 tk4 tt4 ex tc es wy ab re4 go4 be) [24, 25, 26, 27, 28, 29, 30, 31, 32, 33, 34, 35, 36] (by decide) rfl
    have hFc := va_free (wc := w4 b cI cZ tw nk pa nc fo th tg nt tb4 te4 tk4 tt4 ex tc es wy ab re4 go4 be) hD hS hA [24, 25, 26, 27, 28, 29, 30, 31, 32, 33, 34, 35, 36] rfl
    refine va_calli (va_runV (As := [.int (xs (i + 1))]) (rest := []) ⟨hx, hb, hml, hown, hts⟩ (c_X4_step l dC dI cI cZ cJ b tw nk pa nc fo th tg nt tb4 te4 tk4 tt4 ex tc es wy ab re4 go4 be (xs (i + 1)) T up H.size (by first | assumption | omega) (by first | assumption | omega)) (cwV 1 hts gL_law_X4_step rfl rfl rfl (by decide +kernel) ⟨Nat.le_of_ble_eq_true rfl, Nat.le_of_ble_eq_true rfl⟩) ⟨zWr_blind, va_recv hK hPc (ci := 4) (q0 := 0) rfl rfl, zWr_at hPc hK hn (hDc.weaken (fun _ _ _ _ => trivial))⟩ rfl rfl hl.1 rfl (lv_room (Nat.le_of_ble_eq_true rfl)) dL_law_412 ⟨by show _ ≤ 601024; omega, by show _ ≤ 7293034; omega⟩) hS (fun q _ h => hFc q h) hFc (fun r_92 u_9 t H1 locs ht hvm hw hB hz1 hk1 hS => ?_)
    obtain ⟨tw9_92, nc9_93, fo9_94, th9_95, tg9_96⟩ := u_9
    dsimp only at hw hB
    obtain ⟨hP1, -, hD1⟩ := hB
    rw [ht] at hP1
    obtain ⟨hP, hD⟩ := va_join (wr := (w3 a cI cZ nk pa fa nc fo th tg nt tb te tk tt nu ub ue uk ut re ro fu bl go ra rc ex tc es wy) ++ ([(ou, .inl (cJ, 1, .inr (.inl fz)))])) (w1 := w4 b cI cZ tw9_92 nk pa nc9_93 fo9_94 th9_95 tg9_96 nt tb4 te4 tk4 tt4 ex tc es wy ab re4 go4 be) hP hD [24, 25, 26, 27, 28, 29, 30, 31, 32, 33, 34, 35, 36] [0, 1, 2, 3, 4, 5, 6, 7, 8, 9, 10, 11, 12, 13, 14, 15, 16, 17, 18, 19, 20, 21, 22, 23, 37] rfl rfl (by decide) (by decide) hk1 hFc hP1 hD1
    generalize H1 = H at hP hS ⊢
    have hP := hP.sub (ws' := (w3 a cI cZ nk pa fa nc fo th tg nt tb te tk tt nu ub ue uk ut re ro fu bl go ra rc ex tc es wy) ++ ((w4 b cI cZ tw9_92 nk pa nc9_93 fo9_94 th9_95 tg9_96 nt tb4 te4 tk4 tt4 ex tc es wy ab re4 go4 be) ++ ([(ou, .inl (cJ, 1, .inr (.inl fz)))]))) [0, 1, 2, 3, 4, 5, 6, 7, 8, 9, 10, 11, 12, 13, 14, 15, 16, 17, 18, 19, 20, 21, 22, 23, 25, 26, 27, 28, 29, 30, 31, 32, 33, 34, 35, 36, 37, 24] rfl
    have hD := hD.sub (ws' := (w3 a cI cZ nk pa fa nc fo th tg nt tb te tk tt nu ub ue uk ut re ro fu bl go ra rc ex tc es wy) ++ ((w4 b cI cZ tw9_92 nk pa nc9_93 fo9_94 th9_95 tg9_96 nt tb4 te4 tk4 tt4 ex tc es wy ab re4 go4 be) ++ ([(ou, .inl (cJ, 1, .inr (.inl fz)))]))) [0, 1, 2, 3, 4, 5, 6, 7, 8, 9, 10, 11, 12, 13, 14, 15, 16, 17, 18, 19, 20, 21, 22, 23, 25, 26, 27, 28, 29, 30, 31, 32, 33, 34, 35, 36, 37, 24] (by decide) rfl
    have hP : va_P (dC, dI) vwCl ((w3 a cI cZ nk pa fa nc fo th tg nt tb te tk tt nu ub ue uk ut re ro fu bl go ra rc ex tc es wy) ++ ((w4 b cI cZ tw9_92 nk pa nc9_93 fo9_94 th9_95 tg9_96 nt tb4 te4 tk4 tt4 ex tc es wy ab re4 go4 be) ++ ([(ou, .inl (cJ, 1, .inr (.inl fz)))]))) H := hP
    have hD : va_D A ((w3 a cI cZ nk pa fa nc fo th tg nt tb te tk tt nu ub ue uk ut re ro fu bl go ra rc ex tc es wy) ++ ((w4 b cI cZ tw9_92 nk pa nc9_93 fo9_94 th9_95 tg9_96 nt tb4 te4 tk4 tt4 ex tc es wy ab re4 go4 be) ++ ([(ou, .inl (cJ, 1, .inr (.inl fz)))]))) := hD
    rcases hw with ⟨h_98, h_99, h_100, h_101, h_102, h_103⟩ | ⟨h_104, h_105, h_106, h_107, h_108, h_109, h_110⟩ | ⟨h_111, h_112, h_113, h_114, h_115, h_116, h_117, h_118⟩
    · skip
      exact absurd (h_24.symm.trans h_98) (by decide)
    · skip
      replace h_106 := h_106.symm
      subst h_106
      replace h_107 := h_107.symm
      subst h_107
      replace h_108 := h_108.symm
      subst h_108
      replace h_109 := h_109.symm
      subst h_109
      replace h_110 := h_110.symm
      subst h_110
      have hP : va_P (dC, dI) vwCl ((w3 a cI cZ nk pa fa nc fo th tg nt tb te tk tt nu ub ue uk ut re ro fu bl go ra rc ex tc es wy) ++ ((w4 b cI cZ 2 nk pa nc fo th tg nt tb4 te4 tk4 tt4 ex tc es wy ab re4 go4 be) ++ ([(ou, .inl (cJ, 1, .inr (.inl fz)))]))) H := hP
      have hD : va_D A ((w3 a cI cZ nk pa fa nc fo th tg nt tb te tk tt nu ub ue uk ut re ro fu bl go ra rc ex tc es wy) ++ ((w4 b cI cZ 2 nk pa nc fo th tg nt tb4 te4 tk4 tt4 ex tc es wy ab re4 go4 be) ++ ([(ou, .inl (cJ, 1, .inr (.inl fz)))]))) := hD
      refine lv_istore (lv' := [(6, .int r_92), (5, .int 2), (0, .ref sb), (1, .ref (a 0)), (2, .ref (b 0)), (3, .ref ou), (4, .int (nI i))]) hx hb dL_law_415 hl (by decide) rfl (fun ls hl => ?_)
      refine lv_aload_n hx hb dL_law_417 rfl (lv_at hl 4 rfl) ?_
      have hPc := hP.sub (ws' := w4 b cI cZ 2 nk pa nc fo th tg nt tb4 te4 tk4 tt4 ex tc es wy ab re4 go4 be) [24, 25, 26, 27, 28, 29, 30, 31, 32, 33, 34, 35, 36] rfl
      refine va_calli (va_runV (As := []) (rest := []) ⟨hx, hb, hml, hown, hts⟩ (c_X4_thrown l dC dI cI cZ cJ b 2 nk pa nc fo th tg nt tb4 te4 tk4 tt4 ex tc es wy ab re4 go4 be ) (cwV 0 hts gL_law_X4_thrown rfl rfl rfl (by decide +kernel) ⟨Nat.le_of_ble_eq_true rfl, Nat.le_of_ble_eq_true rfl⟩) ⟨zPre_blind, va_recv hK hPc (ci := 4) (q0 := 0) rfl rfl, zPre_at hPc hK hn⟩ rfl rfl hl.1 rfl (lv_room (Nat.le_of_ble_eq_true rfl)) dL_law_418 ⟨by show _ ≤ 601024; omega, by show _ ≤ 7293034; omega⟩) hS (fun _ _ h => h.elim) (fun _ h => h.elim) (fun r_119 u_9 t H locs ht hvm hw hB hz1 hk1 hS => ?_)
      have hP := zkeep hP hk1
      subst hw
      refine lv_iload hx hb dL_law_421 (lv_at hl 1 rfl) ?_
      refine lv_icmp_eq (tgt := 428) hx hb dL_law_423 (by decide) (fun c_120 => ?_) (fun c_120 => ?_)
      · skip
        refine lv_iload hx hb dL_law_428 (lv_at hl 1 rfl) ?_
        refine lv_if_ne (tgt := 445) hx hb dL_law_430 (by decide) (fun c_121 => ?_) (fun c_121 => ?_)
        · skip
          refine lv_goto (tgt := 1475) hx hb dL_law_445 (by decide) ?_
          refine W.widen (k := k0 + 100) (n := n0 + 3000) (by omega) (by omega) ?_
          exact K nk pa fa nc fo th tg nt tb te tk tt nu ub ue uk ut re ro fu bl go ra rc ex tc es wy 2 tb4 te4 tk4 tt4 ab re4 go4 be fz T up _ _ _ (by first | assumption | omega) (by first | assumption | omega) (by first | assumption | omega) hP hD hS (lv_sub hl [2, 3, 4, 5, 6] rfl)
        · exact absurd c_121 (by decide)
      · exact absurd c_120 (by decide)
    · skip
      omega

set_option maxHeartbeats 4000000 in
set_option maxRecDepth 100000 in
theorem lk_5 {p : Program} {e : Env} {s : State} {m : MethodId} {below : List Frame} {meth : Method} {c : Code} {Q : State → Prop} (l : Launch) {sb L : Nat} {xs : Nat → Int32} (dC : Nat → ClassId) (dI : Nat → Nat → Nat) (cI cZ cJ : ClassId) (a b : Nat → Nat) (ou i k0 n0 : Nat) (hF0 : lwF p l s m c sb L xs dC dI cI cZ cJ) (hi : i + 5 ≤ L) (hk0 : k0 + 100 ≤ 601024) (hn0 : n0 + 3000 ≤ 7293034) (nk : Nat) (pa : Nat → Int32) (fa : Nat → Int32) (nc : Nat) (fo : Nat → Int32) (th : Nat → Int32) (tg : Nat → Int32) (nt : Nat) (tb : Nat → Int32) (te : Nat → Int32) (tk : Nat → Int32) (tt : Nat → Int32) (nu : Nat) (ub : Nat → Int32) (ue : Nat → Int32) (uk : Nat → Int32) (ut : Nat → Int32) (re : Nat → Int32) (ro : Nat → Int32) (fu : Nat → Int32) (bl : Nat → Int32) (go : Nat → Int32) (ra : Nat → Int32) (rc : Nat) (ex : Int32) (tc : Int32) (es : Int32) (wy : Int64) (tw : Int32) (tb4 : Nat → Int32) (te4 : Nat → Int32) (tk4 : Nat → Int32) (tt4 : Nat → Int32) (ab : Nat → Int32) (re4 : Nat → Int32) (go4 : Nat → Int32) (be : Nat → Int32) (fz : Nat → Int64) (T : Nat → Nat → Nat) (up : Nat → Nat → Bool) (hg : g3 nk fa up nt tb te tk tt T) (hg4 : g4 nk ab up nt tb4 te4 tk4 tt4 T) (hc : okC nk nc fo th tg) (H : Heap) (locs : List Loc) (ls : Array Slot) (hP : va_P (dC, dI) vwCl ((w3 a cI cZ nk pa fa nc fo th tg nt tb te tk tt nu ub ue uk ut re ro fu bl go ra rc ex tc es wy) ++ ((w4 b cI cZ tw nk pa nc fo th tg nt tb4 te4 tk4 tt4 ex tc es wy ab re4 go4 be) ++ ([(ou, .inl (cJ, 1, .inr (.inl fz)))]))) H) (hD : va_D (fun q => s.heap.size ≤ q) ((w3 a cI cZ nk pa fa nc fo th tg nt tb te tk tt nu ub ue uk ut re ro fu bl go ra rc ex tc es wy) ++ ((w4 b cI cZ tw nk pa nc fo th tg nt tb4 te4 tk4 tt4 ex tc es wy ab re4 go4 be) ++ ([(ou, .inl (cJ, 1, .inr (.inl fz)))])))) (hS : va_S (fun q => s.heap.size ≤ q) s.heap H locs) (hl : lv_has ls 9 [(0, .ref sb), (1, .ref (a 0)), (2, .ref (b 0)), (3, .ref ou), (4, .int (nI i))]) (K : ∀ (nk : Nat) (pa : Nat → Int32) (fa : Nat → Int32) (nc : Nat) (fo : Nat → Int32) (th : Nat → Int32) (tg : Nat → Int32) (nt : Nat) (tb : Nat → Int32) (te : Nat → Int32) (tk : Nat → Int32) (tt : Nat → Int32) (nu : Nat) (ub : Nat → Int32) (ue : Nat → Int32) (uk : Nat → Int32) (ut : Nat → Int32) (re : Nat → Int32) (ro : Nat → Int32) (fu : Nat → Int32) (bl : Nat → Int32) (go : Nat → Int32) (ra : Nat → Int32) (rc : Nat) (ex : Int32) (tc : Int32) (es : Int32) (wy : Int64) (tw : Int32) (tb4 : Nat → Int32) (te4 : Nat → Int32) (tk4 : Nat → Int32) (tt4 : Nat → Int32) (ab : Nat → Int32) (re4 : Nat → Int32) (go4 : Nat → Int32) (be : Nat → Int32) (fz : Nat → Int64) (T : Nat → Nat → Nat) (up : Nat → Nat → Bool) (H : Heap) (locs : List Loc) (ls : Array Slot), g3 nk fa up nt tb te tk tt T → g4 nk ab up nt tb4 te4 tk4 tt4 T → okC nk nc fo th tg → va_P (dC, dI) vwCl ((w3 a cI cZ nk pa fa nc fo th tg nt tb te tk tt nu ub ue uk ut re ro fu bl go ra rc ex tc es wy) ++ ((w4 b cI cZ tw nk pa nc fo th tg nt tb4 te4 tk4 tt4 ex tc es wy ab re4 go4 be) ++ ([(ou, .inl (cJ, 1, .inr (.inl fz)))]))) H → va_D (fun q => s.heap.size ≤ q) ((w3 a cI cZ nk pa fa nc fo th tg nt tb te tk tt nu ub ue uk ut re ro fu bl go ra rc ex tc es wy) ++ ((w4 b cI cZ tw nk pa nc fo th tg nt tb4 te4 tk4 tt4 ex tc es wy ab re4 go4 be) ++ ([(ou, .inl (cJ, 1, .inr (.inl fz)))]))) → va_S (fun q => s.heap.size ≤ q) s.heap H locs → lv_has ls 9 [(0, .ref sb), (1, .ref (a 0)), (2, .ref (b 0)), (3, .ref ou), (4, .int (nI i))] → W p l e room_1 s m #[Value.ref sb] below meth c H locs (k0 + 100) (n0 + 3000) Q (F0 m 1475 ls [])) : W p l e room_1 s m #[Value.ref sb] below meth c H locs k0 n0 Q (F0 m 448 ls []) := by
  obtain ⟨hx, hb, hml, hown, hts, hX, hbl, hL, hK, hn, hzt, hzu, hzc, hlt⟩ := id hF0
  obtain ⟨A, hAe⟩ : ∃ A : Nat → Prop, A = fun q => s.heap.size ≤ q := ⟨_, rfl⟩
  have hbA : ¬ A sb := by rw [hAe]; exact Nat.not_le.mpr hbl
  have hA : ∀ q : Nat, s.heap.size ≤ q → A q := fun q h => by rw [hAe]; exact h
  rw [← hAe] at hD hS hzu K
  refine lv_aload_n hx hb dL_law_448 rfl (lv_at hl 1 rfl) ?_
  refine lv_aload_n hx hb dL_law_449 rfl (lv_at hl 0 rfl) ?_
  refine lv_iload hx hb dL_law_450 (lv_at hl 4 rfl) ?_
  refine lv_iconst (v := 1) hx hb dL_law_452 (by decide) ?_
  refine lv_iadd hx hb dL_law_453 ?_
  refine zz_top (y := nI (i + 1)) (nI_add _ _) ?_
  refine va_sld hx hb hX hbl hbA hS (vp_in_nI (n := i + 1) (by omega) (by omega)) dL_law_454 ?_
  refine zz_top (y := xs (i + 1)) (congrArg _ (nI_clamp (by omega))) ?_
  refine lv_aload_n hx hb dL_law_455 rfl (lv_at hl 3 rfl) ?_
  have hPc := hP.sub (ws' := (w3 a cI cZ nk pa fa nc fo th tg nt tb te tk tt nu ub ue uk ut re ro fu bl go ra rc ex tc es wy) ++ ([(ou, .inl (cJ, 1, .inr (.inl fz)))])) [0, 1, 2, 3, 4, 5, 6, 7, 8, 9, 10, 11, 12, 13, 14, 15, 16, 17, 18, 19, 20, 21, 22, 23, 37] rfl
  have hDc := hD.sub (ws' := (w3 a cI cZ nk pa fa nc fo th tg nt tb te tk tt nu ub ue uk ut re ro fu bl go ra rc ex tc es wy) ++ ([(ou, .inl (cJ, 1, .inr (.inl fz)))])) [0, 1, 2, 3, 4, 5, 6, 7, 8, 9, 10, 11, 12, 13, 14, 15, 16, 17, 18, 19, 20, 21, 22, 23, 37] (by decide) rfl
  have hFc := va_free (wc := (w3 a cI cZ nk pa fa nc fo th tg nt tb te tk tt nu ub ue uk ut re ro fu bl go ra rc ex tc es wy) ++ ([(ou, .inl (cJ, 1, .inr (.inl fz)))])) hD hS hA [0, 1, 2, 3, 4, 5, 6, 7, 8, 9, 10, 11, 12, 13, 14, 15, 16, 17, 18, 19, 20, 21, 22, 23, 37] rfl
  refine va_calli (vx_runSW (As := [.ref (a 0), .int (xs (i + 1)), .ref ou]) (rest := []) ⟨hx, hb, hml, hown, hts⟩ (c_L_jump l dC dI cI cZ cJ a nk pa fa nc fo th tg nt tb te tk tt nu ub ue uk ut re ro fu bl go ra rc ex tc es wy (xs (i + 1)) T up ou fz H.size hlt (by first | assumption | omega) (by first | assumption | omega)) (vx_cwSW 3 hts gL_law_L_jump rfl rfl rfl (by decide +kernel) ⟨Nat.le_of_ble_eq_true rfl, Nat.le_of_ble_eq_true rfl⟩) ⟨zTl_blind, zTl_at hPc hK hn (hDc.weaken (fun _ _ _ _ => trivial)) hzt hzu hS hFc hzc⟩ rfl rfl hl.1 rfl (lv_room (Nat.le_of_ble_eq_true rfl)) dL_law_456 ⟨by show _ ≤ 601024; omega, by show _ ≤ 7293034; omega⟩) hS (fun q _ h => hFc q h) hFc (fun r_1 u_9 t H1 locs ht hvm hw hB hz1 hk1 hS => ?_)
  obtain ⟨v_c_1, v_cf_2, v_ct_3, v_cg_4, fz9_5⟩ := u_9
  dsimp only at hw hB
  obtain ⟨hP1, -, hD1⟩ := hB
  rw [ht] at hP1
  obtain ⟨hP, hD⟩ := va_join (wr := w4 b cI cZ tw nk pa nc fo th tg nt tb4 te4 tk4 tt4 ex tc es wy ab re4 go4 be) (w1 := (w3 a cI cZ nk pa fa v_c_1 v_cf_2 v_ct_3 v_cg_4 nt tb te tk tt nu ub ue uk ut re ro fu bl go ra rc ex tc es wy) ++ ([(ou, .inl (cJ, 1, .inr (.inl fz9_5)))])) hP hD [0, 1, 2, 3, 4, 5, 6, 7, 8, 9, 10, 11, 12, 13, 14, 15, 16, 17, 18, 19, 20, 21, 22, 23, 37] [24, 25, 26, 27, 28, 29, 30, 31, 32, 33, 34, 35, 36] rfl rfl (by decide) (by decide) hk1 hFc hP1 hD1
  generalize H1 = H at hP hS ⊢
  have hP := hP.sub (ws' := (w3 a cI cZ nk pa fa v_c_1 v_cf_2 v_ct_3 v_cg_4 nt tb te tk tt nu ub ue uk ut re ro fu bl go ra rc ex tc es wy) ++ ((w4 b cI cZ tw nk pa nc fo th tg nt tb4 te4 tk4 tt4 ex tc es wy ab re4 go4 be) ++ ([(ou, .inl (cJ, 1, .inr (.inl fz9_5)))]))) [13, 14, 15, 16, 17, 18, 19, 20, 21, 22, 23, 24, 25, 26, 27, 28, 29, 30, 31, 32, 33, 34, 35, 36, 0, 1, 2, 3, 4, 5, 6, 7, 8, 9, 10, 11, 12, 37] rfl
  have hD := hD.sub (ws' := (w3 a cI cZ nk pa fa v_c_1 v_cf_2 v_ct_3 v_cg_4 nt tb te tk tt nu ub ue uk ut re ro fu bl go ra rc ex tc es wy) ++ ((w4 b cI cZ tw nk pa nc fo th tg nt tb4 te4 tk4 tt4 ex tc es wy ab re4 go4 be) ++ ([(ou, .inl (cJ, 1, .inr (.inl fz9_5)))]))) [13, 14, 15, 16, 17, 18, 19, 20, 21, 22, 23, 24, 25, 26, 27, 28, 29, 30, 31, 32, 33, 34, 35, 36, 0, 1, 2, 3, 4, 5, 6, 7, 8, 9, 10, 11, 12, 37] (by decide) rfl
  have hP : va_P (dC, dI) vwCl ((w3 a cI cZ nk pa fa v_c_1 v_cf_2 v_ct_3 v_cg_4 nt tb te tk tt nu ub ue uk ut re ro fu bl go ra rc ex tc es wy) ++ ((w4 b cI cZ tw nk pa nc fo th tg nt tb4 te4 tk4 tt4 ex tc es wy ab re4 go4 be) ++ ([(ou, .inl (cJ, 1, .inr (.inl fz9_5)))]))) H := hP
  have hD : va_D A ((w3 a cI cZ nk pa fa v_c_1 v_cf_2 v_ct_3 v_cg_4 nt tb te tk tt nu ub ue uk ut re ro fu bl go ra rc ex tc es wy) ++ ((w4 b cI cZ tw nk pa nc fo th tg nt tb4 te4 tk4 tt4 ex tc es wy ab re4 go4 be) ++ ([(ou, .inl (cJ, 1, .inr (.inl fz9_5)))]))) := hD
  refine W.widen (k := k0 + 2) (n := n0 + 12) (by omega) (by omega) ?_
  rcases hw with ⟨h_7, h_8, h_9, h_10, h_11, h_12, ⟨⟨h_13, h_14⟩, h_15⟩⟩ | ⟨h_16, h_17, h_18, h_19, h_20, h_21, h_22⟩ | ⟨h_23, ⟨h_24, h_25⟩, h_26, h_27, h_28, h_29, h_30⟩
  · skip
    replace h_7 := h_7.symm
    subst h_7
    replace h_8 := h_8.symm
    subst h_8
    replace h_9 := h_9.symm
    subst h_9
    replace h_10 := h_10.symm
    subst h_10
    replace h_11 := h_11.symm
    subst h_11
    replace h_12 := h_12.symm
    subst h_12
    have hP : va_P (dC, dI) vwCl ((w3 a cI cZ nk pa fa (nc + 1) (upd fo nc 1) (upd th nc 0) (upd tg nc (xs (i + 1))) nt tb te tk tt nu ub ue uk ut re ro fu bl go ra rc ex tc es wy) ++ ((w4 b cI cZ tw nk pa nc fo th tg nt tb4 te4 tk4 tt4 ex tc es wy ab re4 go4 be) ++ ([(ou, .inl (cJ, 1, .inr (.inl (vp_updL fz 0 ((nI nc).toInt64)))))]))) H := hP
    have hD : va_D A ((w3 a cI cZ nk pa fa (nc + 1) (upd fo nc 1) (upd th nc 0) (upd tg nc (xs (i + 1))) nt tb te tk tt nu ub ue uk ut re ro fu bl go ra rc ex tc es wy) ++ ((w4 b cI cZ tw nk pa nc fo th tg nt tb4 te4 tk4 tt4 ex tc es wy ab re4 go4 be) ++ ([(ou, .inl (cJ, 1, .inr (.inl (vp_updL fz 0 ((nI nc).toInt64)))))]))) := hD
    refine lv_istore (lv' := [(5, .int 0), (0, .ref sb), (1, .ref (a 0)), (2, .ref (b 0)), (3, .ref ou), (4, .int (nI i))]) hx hb dL_law_459 hl (by decide) rfl (fun ls hl => ?_)
    refine lv_aload_n hx hb dL_law_461 rfl (lv_at hl 3 rfl) ?_
    refine lv_aload_n hx hb dL_law_462 rfl (lv_at hl 1 rfl) ?_
    refine lv_iload hx hb dL_law_463 (lv_at hl 5 rfl) ?_
    refine lv_iconst (v := 1) hx hb dL_law_465 (by decide) ?_
    refine lv_iadd hx hb dL_law_466 ?_
    refine zz_top (y := nI (i + 1)) (nI_add _ _) ?_
    refine va_sld hx hb hX hbl hbA hS (vp_in_nI (n := i + 1) (by omega) (by omega)) dL_law_467 ?_
    refine zz_top (y := xs (i + 1)) (congrArg _ (nI_clamp (by omega))) ?_
    have hPc := hP.sub (ws' := w4 b cI cZ tw nk pa nc fo th tg nt tb4 te4 tk4 tt4 ex tc es wy ab re4 go4 be) [24, 25, 26, 27, 28, 29, 30, 31, 32, 33, 34, 35, 36] rfl
    have hDc := hD.sub (ws' := w4 b cI cZ tw nk pa nc fo th tg nt tb4 te4 tk4 tt4 ex tc es wy ab re4 go4 be) [24, 25, 26, 27, 28, 29, 30, 31, 32, 33, 34, 35, 36] (by decide) rfl
    have hFc := va_free (wc := w4 b cI cZ tw nk pa nc fo th tg nt tb4 te4 tk4 tt4 ex tc es wy ab re4 go4 be) hD hS hA [24, 25, 26, 27, 28, 29, 30, 31, 32, 33, 34, 35, 36] rfl
    refine va_calli (va_runV (As := [.int (xs (i + 1))]) (rest := []) ⟨hx, hb, hml, hown, hts⟩ (c_X4_jump l dC dI cI cZ cJ b tw nk pa nc fo th tg nt tb4 te4 tk4 tt4 ex tc es wy ab re4 go4 be (xs (i + 1)) T up H.size (by first | assumption | omega) (by first | assumption | omega)) (cwV 1 hts gL_law_X4_jump rfl rfl rfl (by decide +kernel) ⟨Nat.le_of_ble_eq_true rfl, Nat.le_of_ble_eq_true rfl⟩) ⟨zWr_blind, va_recv hK hPc (ci := 4) (q0 := 0) rfl rfl, zWr_at hPc hK hn (hDc.weaken (fun _ _ _ _ => trivial))⟩ rfl rfl hl.1 rfl (lv_room (Nat.le_of_ble_eq_true rfl)) dL_law_468 ⟨by show _ ≤ 601024; omega, by show _ ≤ 7293034; omega⟩) hS (fun q _ h => hFc q h) hFc (fun r_31 u_9 t H1 locs ht hvm hw hB hz1 hk1 hS => ?_)
    obtain ⟨tw9_31, nc9_32, fo9_33, th9_34, tg9_35⟩ := u_9
    dsimp only at hw hB
    obtain ⟨hP1, -, hD1⟩ := hB
    rw [ht] at hP1
    obtain ⟨hP, hD⟩ := va_join (wr := (w3 a cI cZ nk pa fa (nc + 1) (upd fo nc 1) (upd th nc 0) (upd tg nc (xs (i + 1))) nt tb te tk tt nu ub ue uk ut re ro fu bl go ra rc ex tc es wy) ++ ([(ou, .inl (cJ, 1, .inr (.inl (vp_updL fz 0 ((nI nc).toInt64)))))])) (w1 := w4 b cI cZ tw9_31 nk pa nc9_32 fo9_33 th9_34 tg9_35 nt tb4 te4 tk4 tt4 ex tc es wy ab re4 go4 be) hP hD [24, 25, 26, 27, 28, 29, 30, 31, 32, 33, 34, 35, 36] [0, 1, 2, 3, 4, 5, 6, 7, 8, 9, 10, 11, 12, 13, 14, 15, 16, 17, 18, 19, 20, 21, 22, 23, 37] rfl rfl (by decide) (by decide) hk1 hFc hP1 hD1
    generalize H1 = H at hP hS ⊢
    have hP := hP.sub (ws' := (w3 a cI cZ nk pa fa (nc + 1) (upd fo nc 1) (upd th nc 0) (upd tg nc (xs (i + 1))) nt tb te tk tt nu ub ue uk ut re ro fu bl go ra rc ex tc es wy) ++ ((w4 b cI cZ tw9_31 nk pa nc9_32 fo9_33 th9_34 tg9_35 nt tb4 te4 tk4 tt4 ex tc es wy ab re4 go4 be) ++ ([(ou, .inl (cJ, 1, .inr (.inl (vp_updL fz 0 ((nI nc).toInt64)))))]))) [0, 1, 2, 3, 4, 5, 6, 7, 8, 9, 10, 11, 12, 13, 14, 15, 16, 17, 18, 19, 20, 21, 22, 23, 25, 26, 27, 28, 29, 30, 31, 32, 33, 34, 35, 36, 37, 24] rfl
    have hD := hD.sub (ws' := (w3 a cI cZ nk pa fa (nc + 1) (upd fo nc 1) (upd th nc 0) (upd tg nc (xs (i + 1))) nt tb te tk tt nu ub ue uk ut re ro fu bl go ra rc ex tc es wy) ++ ((w4 b cI cZ tw9_31 nk pa nc9_32 fo9_33 th9_34 tg9_35 nt tb4 te4 tk4 tt4 ex tc es wy ab re4 go4 be) ++ ([(ou, .inl (cJ, 1, .inr (.inl (vp_updL fz 0 ((nI nc).toInt64)))))]))) [0, 1, 2, 3, 4, 5, 6, 7, 8, 9, 10, 11, 12, 13, 14, 15, 16, 17, 18, 19, 20, 21, 22, 23, 25, 26, 27, 28, 29, 30, 31, 32, 33, 34, 35, 36, 37, 24] (by decide) rfl
    have hP : va_P (dC, dI) vwCl ((w3 a cI cZ nk pa fa (nc + 1) (upd fo nc 1) (upd th nc 0) (upd tg nc (xs (i + 1))) nt tb te tk tt nu ub ue uk ut re ro fu bl go ra rc ex tc es wy) ++ ((w4 b cI cZ tw9_31 nk pa nc9_32 fo9_33 th9_34 tg9_35 nt tb4 te4 tk4 tt4 ex tc es wy ab re4 go4 be) ++ ([(ou, .inl (cJ, 1, .inr (.inl (vp_updL fz 0 ((nI nc).toInt64)))))]))) H := hP
    have hD : va_D A ((w3 a cI cZ nk pa fa (nc + 1) (upd fo nc 1) (upd th nc 0) (upd tg nc (xs (i + 1))) nt tb te tk tt nu ub ue uk ut re ro fu bl go ra rc ex tc es wy) ++ ((w4 b cI cZ tw9_31 nk pa nc9_32 fo9_33 th9_34 tg9_35 nt tb4 te4 tk4 tt4 ex tc es wy ab re4 go4 be) ++ ([(ou, .inl (cJ, 1, .inr (.inl (vp_updL fz 0 ((nI nc).toInt64)))))]))) := hD
    rcases hw with ⟨h_37, h_38, h_39, h_40, h_41, h_42⟩ | ⟨h_43, h_44, h_45, h_46, h_47, h_48, h_49⟩ | ⟨h_50, h_51, h_52, h_53, h_54, h_55, h_56, h_57⟩
    · skip
      exact absurd (h_13.symm.trans h_37) (by decide)
    · skip
      omega
    · skip
      replace h_52 := h_52.symm
      subst h_52
      replace h_53 := h_53.symm
      subst h_53
      replace h_54 := h_54.symm
      subst h_54
      replace h_55 := h_55.symm
      subst h_55
      replace h_56 := h_56.symm
      subst h_56
      replace h_57 := h_57.symm
      subst h_57
      have hP : va_P (dC, dI) vwCl ((w3 a cI cZ nk pa fa (nc + 1) (upd fo nc 1) (upd th nc 0) (upd tg nc (xs (i + 1))) nt tb te tk tt nu ub ue uk ut re ro fu bl go ra rc ex tc es wy) ++ ((w4 b cI cZ 0 nk pa (nc + 1) (upd fo nc 1) (upd th nc 0) (upd tg nc (xs (i + 1))) nt tb4 te4 tk4 tt4 ex tc es wy ab re4 go4 be) ++ ([(ou, .inl (cJ, 1, .inr (.inl (vp_updL fz 0 ((nI nc).toInt64)))))]))) H := hP
      have hD : va_D A ((w3 a cI cZ nk pa fa (nc + 1) (upd fo nc 1) (upd th nc 0) (upd tg nc (xs (i + 1))) nt tb te tk tt nu ub ue uk ut re ro fu bl go ra rc ex tc es wy) ++ ((w4 b cI cZ 0 nk pa (nc + 1) (upd fo nc 1) (upd th nc 0) (upd tg nc (xs (i + 1))) nt tb4 te4 tk4 tt4 ex tc es wy ab re4 go4 be) ++ ([(ou, .inl (cJ, 1, .inr (.inl (vp_updL fz 0 ((nI nc).toInt64)))))]))) := hD
      refine lv_istore (lv' := [(6, .int (nI nc)), (5, .int 0), (0, .ref sb), (1, .ref (a 0)), (2, .ref (b 0)), (3, .ref ou), (4, .int (nI i))]) hx hb dL_law_471 hl (by decide) rfl (fun ls hl => ?_)
      refine lv_aload_n hx hb dL_law_473 rfl (lv_at hl 4 rfl) ?_
      have hPc := hP.sub (ws' := w4 b cI cZ 0 nk pa (nc + 1) (upd fo nc 1) (upd th nc 0) (upd tg nc (xs (i + 1))) nt tb4 te4 tk4 tt4 ex tc es wy ab re4 go4 be) [24, 25, 26, 27, 28, 29, 30, 31, 32, 33, 34, 35, 36] rfl
      refine va_calli (va_runV (As := []) (rest := []) ⟨hx, hb, hml, hown, hts⟩ (c_X4_thrown l dC dI cI cZ cJ b 0 nk pa (nc + 1) (upd fo nc 1) (upd th nc 0) (upd tg nc (xs (i + 1))) nt tb4 te4 tk4 tt4 ex tc es wy ab re4 go4 be ) (cwV 0 hts gL_law_X4_thrown rfl rfl rfl (by decide +kernel) ⟨Nat.le_of_ble_eq_true rfl, Nat.le_of_ble_eq_true rfl⟩) ⟨zPre_blind, va_recv hK hPc (ci := 4) (q0 := 0) rfl rfl, zPre_at hPc hK hn⟩ rfl rfl hl.1 rfl (lv_room (Nat.le_of_ble_eq_true rfl)) dL_law_474 ⟨by show _ ≤ 601024; omega, by show _ ≤ 7293034; omega⟩) hS (fun _ _ h => h.elim) (fun _ h => h.elim) (fun r_58 u_9 t H locs ht hvm hw hB hz1 hk1 hS => ?_)
      have hP := zkeep hP hk1
      subst hw
      refine lv_iload hx hb dL_law_477 (lv_at hl 1 rfl) ?_
      refine lv_icmp_eq (tgt := 484) hx hb dL_law_479 (by decide) (fun c_59 => ?_) (fun c_59 => ?_)
      · skip
        refine lv_iload hx hb dL_law_484 (lv_at hl 1 rfl) ?_
        refine lv_if_ne (tgt := 501) hx hb dL_law_486 (by decide) (fun c_60 => ?_) (fun c_60 => ?_)
        · exact absurd c_60 (by decide)
        · skip
          refine lv_aload_n hx hb dL_law_489 rfl (lv_at hl 5 rfl) ?_
          refine lv_iconst (v := 0) hx hb dL_law_490 (by decide) ?_
          refine va_lald hx hb hK hP 37 2 rfl rfl (vp_in_nI (n := 0) (by omega) (by decide)) dL_law_491 ?_
          refine zz_topl (y := (vp_updL fz 0 ((nI nc).toInt64)) 0) (rfl) ?_
          refine lv_iload hx hb dL_law_492 (lv_at hl 0 rfl) ?_
          refine lv_i2l (v := (nI nc).toInt64) hx hb dL_law_494 rfl ?_
          refine W.lcmp hx hb dL_law_495 ?_
          refine lv_if_eq (tgt := 501) hx hb dL_law_496 (by decide) (fun c_61 => ?_) (fun c_61 => ?_)
          · skip
            skip
            refine lv_goto (tgt := 1475) hx hb dL_law_501 (by decide) ?_
            refine W.widen (k := k0 + 100) (n := n0 + 3000) (by omega) (by omega) ?_
            exact K nk pa fa (nc + 1) (upd fo nc 1) (upd th nc 0) (upd tg nc (xs (i + 1))) nt tb te tk tt nu ub ue uk ut re ro fu bl go ra rc ex tc es wy 0 tb4 te4 tk4 tt4 ab re4 go4 be (vp_updL fz 0 ((nI nc).toInt64)) T up _ _ _ (by first | assumption | omega) (by first | assumption | omega) (by first | assumption | omega) hP hD hS (lv_sub hl [2, 3, 4, 5, 6] rfl)
          · exact absurd ((lg_cmp_eq _ _).mpr (by first | rfl | exact (bL_t hz9).symm | exact (bL_f hz9).symm)) c_61
      · exact absurd c_59 (by decide)
  · skip
    replace h_16 := h_16.symm
    subst h_16
    replace h_18 := h_18.symm
    subst h_18
    replace h_19 := h_19.symm
    subst h_19
    replace h_20 := h_20.symm
    subst h_20
    replace h_21 := h_21.symm
    subst h_21
    replace h_22 := h_22.symm
    subst h_22
    have hP : va_P (dC, dI) vwCl ((w3 a cI cZ nk pa fa nc fo th tg nt tb te tk tt nu ub ue uk ut re ro fu bl go ra rc ex tc es wy) ++ ((w4 b cI cZ tw nk pa nc fo th tg nt tb4 te4 tk4 tt4 ex tc es wy ab re4 go4 be) ++ ([(ou, .inl (cJ, 1, .inr (.inl fz)))]))) H := hP
    have hD : va_D A ((w3 a cI cZ nk pa fa nc fo th tg nt tb te tk tt nu ub ue uk ut re ro fu bl go ra rc ex tc es wy) ++ ((w4 b cI cZ tw nk pa nc fo th tg nt tb4 te4 tk4 tt4 ex tc es wy ab re4 go4 be) ++ ([(ou, .inl (cJ, 1, .inr (.inl fz)))]))) := hD
    refine lv_istore (lv' := [(5, .int 1), (0, .ref sb), (1, .ref (a 0)), (2, .ref (b 0)), (3, .ref ou), (4, .int (nI i))]) hx hb dL_law_459 hl (by decide) rfl (fun ls hl => ?_)
    refine lv_aload_n hx hb dL_law_461 rfl (lv_at hl 3 rfl) ?_
    refine lv_aload_n hx hb dL_law_462 rfl (lv_at hl 1 rfl) ?_
    refine lv_iload hx hb dL_law_463 (lv_at hl 5 rfl) ?_
    refine lv_iconst (v := 1) hx hb dL_law_465 (by decide) ?_
    refine lv_iadd hx hb dL_law_466 ?_
    refine zz_top (y := nI (i + 1)) (nI_add _ _) ?_
    refine va_sld hx hb hX hbl hbA hS (vp_in_nI (n := i + 1) (by omega) (by omega)) dL_law_467 ?_
    refine zz_top (y := xs (i + 1)) (congrArg _ (nI_clamp (by omega))) ?_
    have hPc := hP.sub (ws' := w4 b cI cZ tw nk pa nc fo th tg nt tb4 te4 tk4 tt4 ex tc es wy ab re4 go4 be) [24, 25, 26, 27, 28, 29, 30, 31, 32, 33, 34, 35, 36] rfl
    have hDc := hD.sub (ws' := w4 b cI cZ tw nk pa nc fo th tg nt tb4 te4 tk4 tt4 ex tc es wy ab re4 go4 be) [24, 25, 26, 27, 28, 29, 30, 31, 32, 33, 34, 35, 36] (by decide) rfl
    have hFc := va_free (wc := w4 b cI cZ tw nk pa nc fo th tg nt tb4 te4 tk4 tt4 ex tc es wy ab re4 go4 be) hD hS hA [24, 25, 26, 27, 28, 29, 30, 31, 32, 33, 34, 35, 36] rfl
    refine va_calli (va_runV (As := [.int (xs (i + 1))]) (rest := []) ⟨hx, hb, hml, hown, hts⟩ (c_X4_jump l dC dI cI cZ cJ b tw nk pa nc fo th tg nt tb4 te4 tk4 tt4 ex tc es wy ab re4 go4 be (xs (i + 1)) T up H.size (by first | assumption | omega) (by first | assumption | omega)) (cwV 1 hts gL_law_X4_jump rfl rfl rfl (by decide +kernel) ⟨Nat.le_of_ble_eq_true rfl, Nat.le_of_ble_eq_true rfl⟩) ⟨zWr_blind, va_recv hK hPc (ci := 4) (q0 := 0) rfl rfl, zWr_at hPc hK hn (hDc.weaken (fun _ _ _ _ => trivial))⟩ rfl rfl hl.1 rfl (lv_room (Nat.le_of_ble_eq_true rfl)) dL_law_468 ⟨by show _ ≤ 601024; omega, by show _ ≤ 7293034; omega⟩) hS (fun q _ h => hFc q h) hFc (fun r_62 u_9 t H1 locs ht hvm hw hB hz1 hk1 hS => ?_)
    obtain ⟨tw9_62, nc9_63, fo9_64, th9_65, tg9_66⟩ := u_9
    dsimp only at hw hB
    obtain ⟨hP1, -, hD1⟩ := hB
    rw [ht] at hP1
    obtain ⟨hP, hD⟩ := va_join (wr := (w3 a cI cZ nk pa fa nc fo th tg nt tb te tk tt nu ub ue uk ut re ro fu bl go ra rc ex tc es wy) ++ ([(ou, .inl (cJ, 1, .inr (.inl fz)))])) (w1 := w4 b cI cZ tw9_62 nk pa nc9_63 fo9_64 th9_65 tg9_66 nt tb4 te4 tk4 tt4 ex tc es wy ab re4 go4 be) hP hD [24, 25, 26, 27, 28, 29, 30, 31, 32, 33, 34, 35, 36] [0, 1, 2, 3, 4, 5, 6, 7, 8, 9, 10, 11, 12, 13, 14, 15, 16, 17, 18, 19, 20, 21, 22, 23, 37] rfl rfl (by decide) (by decide) hk1 hFc hP1 hD1
    generalize H1 = H at hP hS ⊢
    have hP := hP.sub (ws' := (w3 a cI cZ nk pa fa nc fo th tg nt tb te tk tt nu ub ue uk ut re ro fu bl go ra rc ex tc es wy) ++ ((w4 b cI cZ tw9_62 nk pa nc9_63 fo9_64 th9_65 tg9_66 nt tb4 te4 tk4 tt4 ex tc es wy ab re4 go4 be) ++ ([(ou, .inl (cJ, 1, .inr (.inl fz)))]))) [0, 1, 2, 3, 4, 5, 6, 7, 8, 9, 10, 11, 12, 13, 14, 15, 16, 17, 18, 19, 20, 21, 22, 23, 25, 26, 27, 28, 29, 30, 31, 32, 33, 34, 35, 36, 37, 24] rfl
    have hD := hD.sub (ws' := (w3 a cI cZ nk pa fa nc fo th tg nt tb te tk tt nu ub ue uk ut re ro fu bl go ra rc ex tc es wy) ++ ((w4 b cI cZ tw9_62 nk pa nc9_63 fo9_64 th9_65 tg9_66 nt tb4 te4 tk4 tt4 ex tc es wy ab re4 go4 be) ++ ([(ou, .inl (cJ, 1, .inr (.inl fz)))]))) [0, 1, 2, 3, 4, 5, 6, 7, 8, 9, 10, 11, 12, 13, 14, 15, 16, 17, 18, 19, 20, 21, 22, 23, 25, 26, 27, 28, 29, 30, 31, 32, 33, 34, 35, 36, 37, 24] (by decide) rfl
    have hP : va_P (dC, dI) vwCl ((w3 a cI cZ nk pa fa nc fo th tg nt tb te tk tt nu ub ue uk ut re ro fu bl go ra rc ex tc es wy) ++ ((w4 b cI cZ tw9_62 nk pa nc9_63 fo9_64 th9_65 tg9_66 nt tb4 te4 tk4 tt4 ex tc es wy ab re4 go4 be) ++ ([(ou, .inl (cJ, 1, .inr (.inl fz)))]))) H := hP
    have hD : va_D A ((w3 a cI cZ nk pa fa nc fo th tg nt tb te tk tt nu ub ue uk ut re ro fu bl go ra rc ex tc es wy) ++ ((w4 b cI cZ tw9_62 nk pa nc9_63 fo9_64 th9_65 tg9_66 nt tb4 te4 tk4 tt4 ex tc es wy ab re4 go4 be) ++ ([(ou, .inl (cJ, 1, .inr (.inl fz)))]))) := hD
    rcases hw with ⟨h_68, h_69, h_70, h_71, h_72, h_73⟩ | ⟨h_74, h_75, h_76, h_77, h_78, h_79, h_80⟩ | ⟨h_81, h_82, h_83, h_84, h_85, h_86, h_87, h_88⟩
    · skip
      replace h_69 := h_69.symm
      subst h_69
      replace h_70 := h_70.symm
      subst h_70
      replace h_71 := h_71.symm
      subst h_71
      replace h_72 := h_72.symm
      subst h_72
      replace h_73 := h_73.symm
      subst h_73
      have hP : va_P (dC, dI) vwCl ((w3 a cI cZ nk pa fa nc fo th tg nt tb te tk tt nu ub ue uk ut re ro fu bl go ra rc ex tc es wy) ++ ((w4 b cI cZ 1 nk pa nc fo th tg nt tb4 te4 tk4 tt4 ex tc es wy ab re4 go4 be) ++ ([(ou, .inl (cJ, 1, .inr (.inl fz)))]))) H := hP
      have hD : va_D A ((w3 a cI cZ nk pa fa nc fo th tg nt tb te tk tt nu ub ue uk ut re ro fu bl go ra rc ex tc es wy) ++ ((w4 b cI cZ 1 nk pa nc fo th tg nt tb4 te4 tk4 tt4 ex tc es wy ab re4 go4 be) ++ ([(ou, .inl (cJ, 1, .inr (.inl fz)))]))) := hD
      refine lv_istore (lv' := [(6, .int r_62), (5, .int 1), (0, .ref sb), (1, .ref (a 0)), (2, .ref (b 0)), (3, .ref ou), (4, .int (nI i))]) hx hb dL_law_471 hl (by decide) rfl (fun ls hl => ?_)
      refine lv_aload_n hx hb dL_law_473 rfl (lv_at hl 4 rfl) ?_
      have hPc := hP.sub (ws' := w4 b cI cZ 1 nk pa nc fo th tg nt tb4 te4 tk4 tt4 ex tc es wy ab re4 go4 be) [24, 25, 26, 27, 28, 29, 30, 31, 32, 33, 34, 35, 36] rfl
      refine va_calli (va_runV (As := []) (rest := []) ⟨hx, hb, hml, hown, hts⟩ (c_X4_thrown l dC dI cI cZ cJ b 1 nk pa nc fo th tg nt tb4 te4 tk4 tt4 ex tc es wy ab re4 go4 be ) (cwV 0 hts gL_law_X4_thrown rfl rfl rfl (by decide +kernel) ⟨Nat.le_of_ble_eq_true rfl, Nat.le_of_ble_eq_true rfl⟩) ⟨zPre_blind, va_recv hK hPc (ci := 4) (q0 := 0) rfl rfl, zPre_at hPc hK hn⟩ rfl rfl hl.1 rfl (lv_room (Nat.le_of_ble_eq_true rfl)) dL_law_474 ⟨by show _ ≤ 601024; omega, by show _ ≤ 7293034; omega⟩) hS (fun _ _ h => h.elim) (fun _ h => h.elim) (fun r_89 u_9 t H locs ht hvm hw hB hz1 hk1 hS => ?_)
      have hP := zkeep hP hk1
      subst hw
      refine lv_iload hx hb dL_law_477 (lv_at hl 1 rfl) ?_
      refine lv_icmp_eq (tgt := 484) hx hb dL_law_479 (by decide) (fun c_90 => ?_) (fun c_90 => ?_)
      · skip
        refine lv_iload hx hb dL_law_484 (lv_at hl 1 rfl) ?_
        refine lv_if_ne (tgt := 501) hx hb dL_law_486 (by decide) (fun c_91 => ?_) (fun c_91 => ?_)
        · skip
          refine lv_goto (tgt := 1475) hx hb dL_law_501 (by decide) ?_
          refine W.widen (k := k0 + 100) (n := n0 + 3000) (by omega) (by omega) ?_
          exact K nk pa fa nc fo th tg nt tb te tk tt nu ub ue uk ut re ro fu bl go ra rc ex tc es wy 1 tb4 te4 tk4 tt4 ab re4 go4 be fz T up _ _ _ (by first | assumption | omega) (by first | assumption | omega) (by first | assumption | omega) hP hD hS (lv_sub hl [2, 3, 4, 5, 6] rfl)
        · exact absurd c_91 (by decide)
      · exact absurd c_90 (by decide)
    · skip
      exact absurd (h_17.symm.trans h_74) (by decide)
    · skip
      exact absurd (h_17.symm.trans h_81) (by decide)
  · skip
    replace h_23 := h_23.symm
    subst h_23
    replace h_26 := h_26.symm
    subst h_26
    replace h_27 := h_27.symm
    subst h_27
    replace h_28 := h_28.symm
    subst h_28
    replace h_29 := h_29.symm
    subst h_29
    replace h_30 := h_30.symm
    subst h_30
    have hP : va_P (dC, dI) vwCl ((w3 a cI cZ nk pa fa nc fo th tg nt tb te tk tt nu ub ue uk ut re ro fu bl go ra rc ex tc es wy) ++ ((w4 b cI cZ tw nk pa nc fo th tg nt tb4 te4 tk4 tt4 ex tc es wy ab re4 go4 be) ++ ([(ou, .inl (cJ, 1, .inr (.inl fz)))]))) H := hP
    have hD : va_D A ((w3 a cI cZ nk pa fa nc fo th tg nt tb te tk tt nu ub ue uk ut re ro fu bl go ra rc ex tc es wy) ++ ((w4 b cI cZ tw nk pa nc fo th tg nt tb4 te4 tk4 tt4 ex tc es wy ab re4 go4 be) ++ ([(ou, .inl (cJ, 1, .inr (.inl fz)))]))) := hD
    refine lv_istore (lv' := [(5, .int 2), (0, .ref sb), (1, .ref (a 0)), (2, .ref (b 0)), (3, .ref ou), (4, .int (nI i))]) hx hb dL_law_459 hl (by decide) rfl (fun ls hl => ?_)
    refine lv_aload_n hx hb dL_law_461 rfl (lv_at hl 3 rfl) ?_
    refine lv_aload_n hx hb dL_law_462 rfl (lv_at hl 1 rfl) ?_
    refine lv_iload hx hb dL_law_463 (lv_at hl 5 rfl) ?_
    refine lv_iconst (v := 1) hx hb dL_law_465 (by decide) ?_
    refine lv_iadd hx hb dL_law_466 ?_
    refine zz_top (y := nI (i + 1)) (nI_add _ _) ?_
    refine va_sld hx hb hX hbl hbA hS (vp_in_nI (n := i + 1) (by omega) (by omega)) dL_law_467 ?_
    refine zz_top (y := xs (i + 1)) (congrArg _ (nI_clamp (by omega))) ?_
    have hPc := hP.sub (ws' := w4 b cI cZ tw nk pa nc fo th tg nt tb4 te4 tk4 tt4 ex tc es wy ab re4 go4 be) [24, 25, 26, 27, 28, 29, 30, 31, 32, 33, 34, 35, 36] rfl
    have hDc := hD.sub (ws' := w4 b cI cZ tw nk pa nc fo th tg nt tb4 te4 tk4 tt4 ex tc es wy ab re4 go4 be) [24, 25, 26, 27, 28, 29, 30, 31, 32, 33, 34, 35, 36] (by decide) rfl
    have hFc := va_free (wc := w4 b cI cZ tw nk pa nc fo th tg nt tb4 te4 tk4 tt4 ex tc es wy ab re4 go4 be) hD hS hA [24, 25, 26, 27, 28, 29, 30, 31, 32, 33, 34, 35, 36] rfl
    refine va_calli (va_runV (As := [.int (xs (i + 1))]) (rest := []) ⟨hx, hb, hml, hown, hts⟩ (c_X4_jump l dC dI cI cZ cJ b tw nk pa nc fo th tg nt tb4 te4 tk4 tt4 ex tc es wy ab re4 go4 be (xs (i + 1)) T up H.size (by first | assumption | omega) (by first | assumption | omega)) (cwV 1 hts gL_law_X4_jump rfl rfl rfl (by decide +kernel) ⟨Nat.le_of_ble_eq_true rfl, Nat.le_of_ble_eq_true rfl⟩) ⟨zWr_blind, va_recv hK hPc (ci := 4) (q0 := 0) rfl rfl, zWr_at hPc hK hn (hDc.weaken (fun _ _ _ _ => trivial))⟩ rfl rfl hl.1 rfl (lv_room (Nat.le_of_ble_eq_true rfl)) dL_law_468 ⟨by show _ ≤ 601024; omega, by show _ ≤ 7293034; omega⟩) hS (fun q _ h => hFc q h) hFc (fun r_92 u_9 t H1 locs ht hvm hw hB hz1 hk1 hS => ?_)
    obtain ⟨tw9_92, nc9_93, fo9_94, th9_95, tg9_96⟩ := u_9
    dsimp only at hw hB
    obtain ⟨hP1, -, hD1⟩ := hB
    rw [ht] at hP1
    obtain ⟨hP, hD⟩ := va_join (wr := (w3 a cI cZ nk pa fa nc fo th tg nt tb te tk tt nu ub ue uk ut re ro fu bl go ra rc ex tc es wy) ++ ([(ou, .inl (cJ, 1, .inr (.inl fz)))])) (w1 := w4 b cI cZ tw9_92 nk pa nc9_93 fo9_94 th9_95 tg9_96 nt tb4 te4 tk4 tt4 ex tc es wy ab re4 go4 be) hP hD [24, 25, 26, 27, 28, 29, 30, 31, 32, 33, 34, 35, 36] [0, 1, 2, 3, 4, 5, 6, 7, 8, 9, 10, 11, 12, 13, 14, 15, 16, 17, 18, 19, 20, 21, 22, 23, 37] rfl rfl (by decide) (by decide) hk1 hFc hP1 hD1
    generalize H1 = H at hP hS ⊢
    have hP := hP.sub (ws' := (w3 a cI cZ nk pa fa nc fo th tg nt tb te tk tt nu ub ue uk ut re ro fu bl go ra rc ex tc es wy) ++ ((w4 b cI cZ tw9_92 nk pa nc9_93 fo9_94 th9_95 tg9_96 nt tb4 te4 tk4 tt4 ex tc es wy ab re4 go4 be) ++ ([(ou, .inl (cJ, 1, .inr (.inl fz)))]))) [0, 1, 2, 3, 4, 5, 6, 7, 8, 9, 10, 11, 12, 13, 14, 15, 16, 17, 18, 19, 20, 21, 22, 23, 25, 26, 27, 28, 29, 30, 31, 32, 33, 34, 35, 36, 37, 24] rfl
    have hD := hD.sub (ws' := (w3 a cI cZ nk pa fa nc fo th tg nt tb te tk tt nu ub ue uk ut re ro fu bl go ra rc ex tc es wy) ++ ((w4 b cI cZ tw9_92 nk pa nc9_93 fo9_94 th9_95 tg9_96 nt tb4 te4 tk4 tt4 ex tc es wy ab re4 go4 be) ++ ([(ou, .inl (cJ, 1, .inr (.inl fz)))]))) [0, 1, 2, 3, 4, 5, 6, 7, 8, 9, 10, 11, 12, 13, 14, 15, 16, 17, 18, 19, 20, 21, 22, 23, 25, 26, 27, 28, 29, 30, 31, 32, 33, 34, 35, 36, 37, 24] (by decide) rfl
    have hP : va_P (dC, dI) vwCl ((w3 a cI cZ nk pa fa nc fo th tg nt tb te tk tt nu ub ue uk ut re ro fu bl go ra rc ex tc es wy) ++ ((w4 b cI cZ tw9_92 nk pa nc9_93 fo9_94 th9_95 tg9_96 nt tb4 te4 tk4 tt4 ex tc es wy ab re4 go4 be) ++ ([(ou, .inl (cJ, 1, .inr (.inl fz)))]))) H := hP
    have hD : va_D A ((w3 a cI cZ nk pa fa nc fo th tg nt tb te tk tt nu ub ue uk ut re ro fu bl go ra rc ex tc es wy) ++ ((w4 b cI cZ tw9_92 nk pa nc9_93 fo9_94 th9_95 tg9_96 nt tb4 te4 tk4 tt4 ex tc es wy ab re4 go4 be) ++ ([(ou, .inl (cJ, 1, .inr (.inl fz)))]))) := hD
    rcases hw with ⟨h_98, h_99, h_100, h_101, h_102, h_103⟩ | ⟨h_104, h_105, h_106, h_107, h_108, h_109, h_110⟩ | ⟨h_111, h_112, h_113, h_114, h_115, h_116, h_117, h_118⟩
    · skip
      exact absurd (h_24.symm.trans h_98) (by decide)
    · skip
      replace h_106 := h_106.symm
      subst h_106
      replace h_107 := h_107.symm
      subst h_107
      replace h_108 := h_108.symm
      subst h_108
      replace h_109 := h_109.symm
      subst h_109
      replace h_110 := h_110.symm
      subst h_110
      have hP : va_P (dC, dI) vwCl ((w3 a cI cZ nk pa fa nc fo th tg nt tb te tk tt nu ub ue uk ut re ro fu bl go ra rc ex tc es wy) ++ ((w4 b cI cZ 2 nk pa nc fo th tg nt tb4 te4 tk4 tt4 ex tc es wy ab re4 go4 be) ++ ([(ou, .inl (cJ, 1, .inr (.inl fz)))]))) H := hP
      have hD : va_D A ((w3 a cI cZ nk pa fa nc fo th tg nt tb te tk tt nu ub ue uk ut re ro fu bl go ra rc ex tc es wy) ++ ((w4 b cI cZ 2 nk pa nc fo th tg nt tb4 te4 tk4 tt4 ex tc es wy ab re4 go4 be) ++ ([(ou, .inl (cJ, 1, .inr (.inl fz)))]))) := hD
      refine lv_istore (lv' := [(6, .int r_92), (5, .int 2), (0, .ref sb), (1, .ref (a 0)), (2, .ref (b 0)), (3, .ref ou), (4, .int (nI i))]) hx hb dL_law_471 hl (by decide) rfl (fun ls hl => ?_)
      refine lv_aload_n hx hb dL_law_473 rfl (lv_at hl 4 rfl) ?_
      have hPc := hP.sub (ws' := w4 b cI cZ 2 nk pa nc fo th tg nt tb4 te4 tk4 tt4 ex tc es wy ab re4 go4 be) [24, 25, 26, 27, 28, 29, 30, 31, 32, 33, 34, 35, 36] rfl
      refine va_calli (va_runV (As := []) (rest := []) ⟨hx, hb, hml, hown, hts⟩ (c_X4_thrown l dC dI cI cZ cJ b 2 nk pa nc fo th tg nt tb4 te4 tk4 tt4 ex tc es wy ab re4 go4 be ) (cwV 0 hts gL_law_X4_thrown rfl rfl rfl (by decide +kernel) ⟨Nat.le_of_ble_eq_true rfl, Nat.le_of_ble_eq_true rfl⟩) ⟨zPre_blind, va_recv hK hPc (ci := 4) (q0 := 0) rfl rfl, zPre_at hPc hK hn⟩ rfl rfl hl.1 rfl (lv_room (Nat.le_of_ble_eq_true rfl)) dL_law_474 ⟨by show _ ≤ 601024; omega, by show _ ≤ 7293034; omega⟩) hS (fun _ _ h => h.elim) (fun _ h => h.elim) (fun r_119 u_9 t H locs ht hvm hw hB hz1 hk1 hS => ?_)
      have hP := zkeep hP hk1
      subst hw
      refine lv_iload hx hb dL_law_477 (lv_at hl 1 rfl) ?_
      refine lv_icmp_eq (tgt := 484) hx hb dL_law_479 (by decide) (fun c_120 => ?_) (fun c_120 => ?_)
      · skip
        refine lv_iload hx hb dL_law_484 (lv_at hl 1 rfl) ?_
        refine lv_if_ne (tgt := 501) hx hb dL_law_486 (by decide) (fun c_121 => ?_) (fun c_121 => ?_)
        · skip
          refine lv_goto (tgt := 1475) hx hb dL_law_501 (by decide) ?_
          refine W.widen (k := k0 + 100) (n := n0 + 3000) (by omega) (by omega) ?_
          exact K nk pa fa nc fo th tg nt tb te tk tt nu ub ue uk ut re ro fu bl go ra rc ex tc es wy 2 tb4 te4 tk4 tt4 ab re4 go4 be fz T up _ _ _ (by first | assumption | omega) (by first | assumption | omega) (by first | assumption | omega) hP hD hS (lv_sub hl [2, 3, 4, 5, 6] rfl)
        · exact absurd c_121 (by decide)
      · exact absurd c_120 (by decide)
    · skip
      omega

set_option maxHeartbeats 4000000 in
set_option maxRecDepth 100000 in
theorem lk_6 {p : Program} {e : Env} {s : State} {m : MethodId} {below : List Frame} {meth : Method} {c : Code} {Q : State → Prop} (l : Launch) {sb L : Nat} {xs : Nat → Int32} (dC : Nat → ClassId) (dI : Nat → Nat → Nat) (cI cZ cJ : ClassId) (a b : Nat → Nat) (ou i k0 n0 : Nat) (hF0 : lwF p l s m c sb L xs dC dI cI cZ cJ) (hi : i + 5 ≤ L) (hk0 : k0 + 100 ≤ 601024) (hn0 : n0 + 3000 ≤ 7293034) (nk : Nat) (pa : Nat → Int32) (fa : Nat → Int32) (nc : Nat) (fo : Nat → Int32) (th : Nat → Int32) (tg : Nat → Int32) (nt : Nat) (tb : Nat → Int32) (te : Nat → Int32) (tk : Nat → Int32) (tt : Nat → Int32) (nu : Nat) (ub : Nat → Int32) (ue : Nat → Int32) (uk : Nat → Int32) (ut : Nat → Int32) (re : Nat → Int32) (ro : Nat → Int32) (fu : Nat → Int32) (bl : Nat → Int32) (go : Nat → Int32) (ra : Nat → Int32) (rc : Nat) (ex : Int32) (tc : Int32) (es : Int32) (wy : Int64) (tw : Int32) (tb4 : Nat → Int32) (te4 : Nat → Int32) (tk4 : Nat → Int32) (tt4 : Nat → Int32) (ab : Nat → Int32) (re4 : Nat → Int32) (go4 : Nat → Int32) (be : Nat → Int32) (fz : Nat → Int64) (T : Nat → Nat → Nat) (up : Nat → Nat → Bool) (hg : g3 nk fa up nt tb te tk tt T) (hg4 : g4 nk ab up nt tb4 te4 tk4 tt4 T) (hc : okC nk nc fo th tg) (H : Heap) (locs : List Loc) (ls : Array Slot) (hP : va_P (dC, dI) vwCl ((w3 a cI cZ nk pa fa nc fo th tg nt tb te tk tt nu ub ue uk ut re ro fu bl go ra rc ex tc es wy) ++ ((w4 b cI cZ tw nk pa nc fo th tg nt tb4 te4 tk4 tt4 ex tc es wy ab re4 go4 be) ++ ([(ou, .inl (cJ, 1, .inr (.inl fz)))]))) H) (hD : va_D (fun q => s.heap.size ≤ q) ((w3 a cI cZ nk pa fa nc fo th tg nt tb te tk tt nu ub ue uk ut re ro fu bl go ra rc ex tc es wy) ++ ((w4 b cI cZ tw nk pa nc fo th tg nt tb4 te4 tk4 tt4 ex tc es wy ab re4 go4 be) ++ ([(ou, .inl (cJ, 1, .inr (.inl fz)))])))) (hS : va_S (fun q => s.heap.size ≤ q) s.heap H locs) (hl : lv_has ls 9 [(0, .ref sb), (1, .ref (a 0)), (2, .ref (b 0)), (3, .ref ou), (4, .int (nI i))]) (K : ∀ (nk : Nat) (pa : Nat → Int32) (fa : Nat → Int32) (nc : Nat) (fo : Nat → Int32) (th : Nat → Int32) (tg : Nat → Int32) (nt : Nat) (tb : Nat → Int32) (te : Nat → Int32) (tk : Nat → Int32) (tt : Nat → Int32) (nu : Nat) (ub : Nat → Int32) (ue : Nat → Int32) (uk : Nat → Int32) (ut : Nat → Int32) (re : Nat → Int32) (ro : Nat → Int32) (fu : Nat → Int32) (bl : Nat → Int32) (go : Nat → Int32) (ra : Nat → Int32) (rc : Nat) (ex : Int32) (tc : Int32) (es : Int32) (wy : Int64) (tw : Int32) (tb4 : Nat → Int32) (te4 : Nat → Int32) (tk4 : Nat → Int32) (tt4 : Nat → Int32) (ab : Nat → Int32) (re4 : Nat → Int32) (go4 : Nat → Int32) (be : Nat → Int32) (fz : Nat → Int64) (T : Nat → Nat → Nat) (up : Nat → Nat → Bool) (H : Heap) (locs : List Loc) (ls : Array Slot), g3 nk fa up nt tb te tk tt T → g4 nk ab up nt tb4 te4 tk4 tt4 T → okC nk nc fo th tg → va_P (dC, dI) vwCl ((w3 a cI cZ nk pa fa nc fo th tg nt tb te tk tt nu ub ue uk ut re ro fu bl go ra rc ex tc es wy) ++ ((w4 b cI cZ tw nk pa nc fo th tg nt tb4 te4 tk4 tt4 ex tc es wy ab re4 go4 be) ++ ([(ou, .inl (cJ, 1, .inr (.inl fz)))]))) H → va_D (fun q => s.heap.size ≤ q) ((w3 a cI cZ nk pa fa nc fo th tg nt tb te tk tt nu ub ue uk ut re ro fu bl go ra rc ex tc es wy) ++ ((w4 b cI cZ tw nk pa nc fo th tg nt tb4 te4 tk4 tt4 ex tc es wy ab re4 go4 be) ++ ([(ou, .inl (cJ, 1, .inr (.inl fz)))]))) → va_S (fun q => s.heap.size ≤ q) s.heap H locs → lv_has ls 9 [(0, .ref sb), (1, .ref (a 0)), (2, .ref (b 0)), (3, .ref ou), (4, .int (nI i))] → W p l e room_1 s m #[Value.ref sb] below meth c H locs (k0 + 100) (n0 + 3000) Q (F0 m 1475 ls [])) : W p l e room_1 s m #[Value.ref sb] below meth c H locs k0 n0 Q (F0 m 504 ls []) := by
  obtain ⟨hx, hb, hml, hown, hts, hX, hbl, hL, hK, hn, hzt, hzu, hzc, hlt⟩ := id hF0
  obtain ⟨A, hAe⟩ : ∃ A : Nat → Prop, A = fun q => s.heap.size ≤ q := ⟨_, rfl⟩
  have hbA : ¬ A sb := by rw [hAe]; exact Nat.not_le.mpr hbl
  have hA : ∀ q : Nat, s.heap.size ≤ q → A q := fun q h => by rw [hAe]; exact h
  rw [← hAe] at hD hS hzu K
  refine lv_aload_n hx hb dL_law_504 rfl (lv_at hl 1 rfl) ?_
  refine lv_aload_n hx hb dL_law_505 rfl (lv_at hl 0 rfl) ?_
  refine lv_iload hx hb dL_law_506 (lv_at hl 4 rfl) ?_
  refine lv_iconst (v := 1) hx hb dL_law_508 (by decide) ?_
  refine lv_iadd hx hb dL_law_509 ?_
  refine zz_top (y := nI (i + 1)) (nI_add _ _) ?_
  refine va_sld hx hb hX hbl hbA hS (vp_in_nI (n := i + 1) (by omega) (by omega)) dL_law_510 ?_
  refine zz_top (y := xs (i + 1)) (congrArg _ (nI_clamp (by omega))) ?_
  refine lv_aload_n hx hb dL_law_511 rfl (lv_at hl 0 rfl) ?_
  refine lv_iload hx hb dL_law_512 (lv_at hl 4 rfl) ?_
  refine lv_iconst (v := 2) hx hb dL_law_514 (by decide) ?_
  refine lv_iadd hx hb dL_law_515 ?_
  refine zz_top (y := nI (i + 2)) (nI_add _ _) ?_
  refine va_sld hx hb hX hbl hbA hS (vp_in_nI (n := i + 2) (by omega) (by omega)) dL_law_516 ?_
  refine zz_top (y := xs (i + 2)) (congrArg _ (nI_clamp (by omega))) ?_
  refine lv_aload_n hx hb dL_law_517 rfl (lv_at hl 3 rfl) ?_
  have hPc := hP.sub (ws' := (w3 a cI cZ nk pa fa nc fo th tg nt tb te tk tt nu ub ue uk ut re ro fu bl go ra rc ex tc es wy) ++ ([(ou, .inl (cJ, 1, .inr (.inl fz)))])) [0, 1, 2, 3, 4, 5, 6, 7, 8, 9, 10, 11, 12, 13, 14, 15, 16, 17, 18, 19, 20, 21, 22, 23, 37] rfl
  have hDc := hD.sub (ws' := (w3 a cI cZ nk pa fa nc fo th tg nt tb te tk tt nu ub ue uk ut re ro fu bl go ra rc ex tc es wy) ++ ([(ou, .inl (cJ, 1, .inr (.inl fz)))])) [0, 1, 2, 3, 4, 5, 6, 7, 8, 9, 10, 11, 12, 13, 14, 15, 16, 17, 18, 19, 20, 21, 22, 23, 37] (by decide) rfl
  have hFc := va_free (wc := (w3 a cI cZ nk pa fa nc fo th tg nt tb te tk tt nu ub ue uk ut re ro fu bl go ra rc ex tc es wy) ++ ([(ou, .inl (cJ, 1, .inr (.inl fz)))])) hD hS hA [0, 1, 2, 3, 4, 5, 6, 7, 8, 9, 10, 11, 12, 13, 14, 15, 16, 17, 18, 19, 20, 21, 22, 23, 37] rfl
  refine va_calli (vx_runSW (As := [.ref (a 0), .int (xs (i + 1)), .int (xs (i + 2)), .ref ou]) (rest := []) ⟨hx, hb, hml, hown, hts⟩ (c_L_branch l dC dI cI cZ cJ a nk pa fa nc fo th tg nt tb te tk tt nu ub ue uk ut re ro fu bl go ra rc ex tc es wy (xs (i + 1)) (xs (i + 2)) T up ou fz H.size hlt (by first | assumption | omega) (by first | assumption | omega)) (vx_cwSW 4 hts gL_law_L_branch rfl rfl rfl (by decide +kernel) ⟨Nat.le_of_ble_eq_true rfl, Nat.le_of_ble_eq_true rfl⟩) ⟨zTl_blind, zTl_at hPc hK hn (hDc.weaken (fun _ _ _ _ => trivial)) hzt hzu hS hFc hzc⟩ rfl rfl hl.1 rfl (lv_room (Nat.le_of_ble_eq_true rfl)) dL_law_518 ⟨by show _ ≤ 601024; omega, by show _ ≤ 7293034; omega⟩) hS (fun q _ h => hFc q h) hFc (fun r_1 u_9 t H1 locs ht hvm hw hB hz1 hk1 hS => ?_)
  obtain ⟨v_c_1, v_cf_2, v_ct_3, v_cg_4, fz9_5⟩ := u_9
  dsimp only at hw hB
  obtain ⟨hP1, -, hD1⟩ := hB
  rw [ht] at hP1
  obtain ⟨hP, hD⟩ := va_join (wr := w4 b cI cZ tw nk pa nc fo th tg nt tb4 te4 tk4 tt4 ex tc es wy ab re4 go4 be) (w1 := (w3 a cI cZ nk pa fa v_c_1 v_cf_2 v_ct_3 v_cg_4 nt tb te tk tt nu ub ue uk ut re ro fu bl go ra rc ex tc es wy) ++ ([(ou, .inl (cJ, 1, .inr (.inl fz9_5)))])) hP hD [0, 1, 2, 3, 4, 5, 6, 7, 8, 9, 10, 11, 12, 13, 14, 15, 16, 17, 18, 19, 20, 21, 22, 23, 37] [24, 25, 26, 27, 28, 29, 30, 31, 32, 33, 34, 35, 36] rfl rfl (by decide) (by decide) hk1 hFc hP1 hD1
  generalize H1 = H at hP hS ⊢
  have hP := hP.sub (ws' := (w3 a cI cZ nk pa fa v_c_1 v_cf_2 v_ct_3 v_cg_4 nt tb te tk tt nu ub ue uk ut re ro fu bl go ra rc ex tc es wy) ++ ((w4 b cI cZ tw nk pa nc fo th tg nt tb4 te4 tk4 tt4 ex tc es wy ab re4 go4 be) ++ ([(ou, .inl (cJ, 1, .inr (.inl fz9_5)))]))) [13, 14, 15, 16, 17, 18, 19, 20, 21, 22, 23, 24, 25, 26, 27, 28, 29, 30, 31, 32, 33, 34, 35, 36, 0, 1, 2, 3, 4, 5, 6, 7, 8, 9, 10, 11, 12, 37] rfl
  have hD := hD.sub (ws' := (w3 a cI cZ nk pa fa v_c_1 v_cf_2 v_ct_3 v_cg_4 nt tb te tk tt nu ub ue uk ut re ro fu bl go ra rc ex tc es wy) ++ ((w4 b cI cZ tw nk pa nc fo th tg nt tb4 te4 tk4 tt4 ex tc es wy ab re4 go4 be) ++ ([(ou, .inl (cJ, 1, .inr (.inl fz9_5)))]))) [13, 14, 15, 16, 17, 18, 19, 20, 21, 22, 23, 24, 25, 26, 27, 28, 29, 30, 31, 32, 33, 34, 35, 36, 0, 1, 2, 3, 4, 5, 6, 7, 8, 9, 10, 11, 12, 37] (by decide) rfl
  have hP : va_P (dC, dI) vwCl ((w3 a cI cZ nk pa fa v_c_1 v_cf_2 v_ct_3 v_cg_4 nt tb te tk tt nu ub ue uk ut re ro fu bl go ra rc ex tc es wy) ++ ((w4 b cI cZ tw nk pa nc fo th tg nt tb4 te4 tk4 tt4 ex tc es wy ab re4 go4 be) ++ ([(ou, .inl (cJ, 1, .inr (.inl fz9_5)))]))) H := hP
  have hD : va_D A ((w3 a cI cZ nk pa fa v_c_1 v_cf_2 v_ct_3 v_cg_4 nt tb te tk tt nu ub ue uk ut re ro fu bl go ra rc ex tc es wy) ++ ((w4 b cI cZ tw nk pa nc fo th tg nt tb4 te4 tk4 tt4 ex tc es wy ab re4 go4 be) ++ ([(ou, .inl (cJ, 1, .inr (.inl fz9_5)))]))) := hD
  refine W.widen (k := k0 + 3) (n := n0 + 18) (by omega) (by omega) ?_
  rcases hw with ⟨h_7, h_8, h_9, h_10, h_11, h_12, ⟨⟨h_13, h_14⟩, h_15⟩⟩ | ⟨h_16, h_17, h_18, h_19, h_20, h_21, h_22⟩ | ⟨h_23, ⟨h_24, h_25⟩, h_26, h_27, h_28, h_29, h_30⟩
  · skip
    replace h_7 := h_7.symm
    subst h_7
    replace h_8 := h_8.symm
    subst h_8
    replace h_9 := h_9.symm
    subst h_9
    replace h_10 := h_10.symm
    subst h_10
    replace h_11 := h_11.symm
    subst h_11
    replace h_12 := h_12.symm
    subst h_12
    have hP : va_P (dC, dI) vwCl ((w3 a cI cZ nk pa fa (nc + 1) (upd fo nc 2) (upd th nc (xs (i + 1))) (upd tg nc (xs (i + 2))) nt tb te tk tt nu ub ue uk ut re ro fu bl go ra rc ex tc es wy) ++ ((w4 b cI cZ tw nk pa nc fo th tg nt tb4 te4 tk4 tt4 ex tc es wy ab re4 go4 be) ++ ([(ou, .inl (cJ, 1, .inr (.inl (vp_updL fz 0 ((nI nc).toInt64)))))]))) H := hP
    have hD : va_D A ((w3 a cI cZ nk pa fa (nc + 1) (upd fo nc 2) (upd th nc (xs (i + 1))) (upd tg nc (xs (i + 2))) nt tb te tk tt nu ub ue uk ut re ro fu bl go ra rc ex tc es wy) ++ ((w4 b cI cZ tw nk pa nc fo th tg nt tb4 te4 tk4 tt4 ex tc es wy ab re4 go4 be) ++ ([(ou, .inl (cJ, 1, .inr (.inl (vp_updL fz 0 ((nI nc).toInt64)))))]))) := hD
    refine lv_istore (lv' := [(5, .int 0), (0, .ref sb), (1, .ref (a 0)), (2, .ref (b 0)), (3, .ref ou), (4, .int (nI i))]) hx hb dL_law_521 hl (by decide) rfl (fun ls hl => ?_)
    refine lv_aload_n hx hb dL_law_523 rfl (lv_at hl 3 rfl) ?_
    refine lv_aload_n hx hb dL_law_524 rfl (lv_at hl 1 rfl) ?_
    refine lv_iload hx hb dL_law_525 (lv_at hl 5 rfl) ?_
    refine lv_iconst (v := 1) hx hb dL_law_527 (by decide) ?_
    refine lv_iadd hx hb dL_law_528 ?_
    refine zz_top (y := nI (i + 1)) (nI_add _ _) ?_
    refine va_sld hx hb hX hbl hbA hS (vp_in_nI (n := i + 1) (by omega) (by omega)) dL_law_529 ?_
    refine zz_top (y := xs (i + 1)) (congrArg _ (nI_clamp (by omega))) ?_
    refine lv_aload_n hx hb dL_law_530 rfl (lv_at hl 1 rfl) ?_
    refine lv_iload hx hb dL_law_531 (lv_at hl 5 rfl) ?_
    refine lv_iconst (v := 2) hx hb dL_law_533 (by decide) ?_
    refine lv_iadd hx hb dL_law_534 ?_
    refine zz_top (y := nI (i + 2)) (nI_add _ _) ?_
    refine va_sld hx hb hX hbl hbA hS (vp_in_nI (n := i + 2) (by omega) (by omega)) dL_law_535 ?_
    refine zz_top (y := xs (i + 2)) (congrArg _ (nI_clamp (by omega))) ?_
    have hPc := hP.sub (ws' := w4 b cI cZ tw nk pa nc fo th tg nt tb4 te4 tk4 tt4 ex tc es wy ab re4 go4 be) [24, 25, 26, 27, 28, 29, 30, 31, 32, 33, 34, 35, 36] rfl
    have hDc := hD.sub (ws' := w4 b cI cZ tw nk pa nc fo th tg nt tb4 te4 tk4 tt4 ex tc es wy ab re4 go4 be) [24, 25, 26, 27, 28, 29, 30, 31, 32, 33, 34, 35, 36] (by decide) rfl
    have hFc := va_free (wc := w4 b cI cZ tw nk pa nc fo th tg nt tb4 te4 tk4 tt4 ex tc es wy ab re4 go4 be) hD hS hA [24, 25, 26, 27, 28, 29, 30, 31, 32, 33, 34, 35, 36] rfl
    refine va_calli (va_runV (As := [.int (xs (i + 1)), .int (xs (i + 2))]) (rest := []) ⟨hx, hb, hml, hown, hts⟩ (c_X4_branch l dC dI cI cZ cJ b tw nk pa nc fo th tg nt tb4 te4 tk4 tt4 ex tc es wy ab re4 go4 be (xs (i + 1)) (xs (i + 2)) T up H.size (by first | assumption | omega) (by first | assumption | omega)) (cwV 2 hts gL_law_X4_branch rfl rfl rfl (by decide +kernel) ⟨Nat.le_of_ble_eq_true rfl, Nat.le_of_ble_eq_true rfl⟩) ⟨zWr_blind, va_recv hK hPc (ci := 4) (q0 := 0) rfl rfl, zWr_at hPc hK hn (hDc.weaken (fun _ _ _ _ => trivial))⟩ rfl rfl hl.1 rfl (lv_room (Nat.le_of_ble_eq_true rfl)) dL_law_536 ⟨by show _ ≤ 601024; omega, by show _ ≤ 7293034; omega⟩) hS (fun q _ h => hFc q h) hFc (fun r_31 u_9 t H1 locs ht hvm hw hB hz1 hk1 hS => ?_)
    obtain ⟨tw9_31, nc9_32, fo9_33, th9_34, tg9_35⟩ := u_9
    dsimp only at hw hB
    obtain ⟨hP1, -, hD1⟩ := hB
    rw [ht] at hP1
    obtain ⟨hP, hD⟩ := va_join (wr := (w3 a cI cZ nk pa fa (nc + 1) (upd fo nc 2) (upd th nc (xs (i + 1))) (upd tg nc (xs (i + 2))) nt tb te tk tt nu ub ue uk ut re ro fu bl go ra rc ex tc es wy) ++ ([(ou, .inl (cJ, 1, .inr (.inl (vp_updL fz 0 ((nI nc).toInt64)))))])) (w1 := w4 b cI cZ tw9_31 nk pa nc9_32 fo9_33 th9_34 tg9_35 nt tb4 te4 tk4 tt4 ex tc es wy ab re4 go4 be) hP hD [24, 25, 26, 27, 28, 29, 30, 31, 32, 33, 34, 35, 36] [0, 1, 2, 3, 4, 5, 6, 7, 8, 9, 10, 11, 12, 13, 14, 15, 16, 17, 18, 19, 20, 21, 22, 23, 37] rfl rfl (by decide) (by decide) hk1 hFc hP1 hD1
    generalize H1 = H at hP hS ⊢
    have hP := hP.sub (ws' := (w3 a cI cZ nk pa fa (nc + 1) (upd fo nc 2) (upd th nc (xs (i + 1))) (upd tg nc (xs (i + 2))) nt tb te tk tt nu ub ue uk ut re ro fu bl go ra rc ex tc es wy) ++ ((w4 b cI cZ tw9_31 nk pa nc9_32 fo9_33 th9_34 tg9_35 nt tb4 te4 tk4 tt4 ex tc es wy ab re4 go4 be) ++ ([(ou, .inl (cJ, 1, .inr (.inl (vp_updL fz 0 ((nI nc).toInt64)))))]))) [0, 1, 2, 3, 4, 5, 6, 7, 8, 9, 10, 11, 12, 13, 14, 15, 16, 17, 18, 19, 20, 21, 22, 23, 25, 26, 27, 28, 29, 30, 31, 32, 33, 34, 35, 36, 37, 24] rfl
    have hD := hD.sub (ws' := (w3 a cI cZ nk pa fa (nc + 1) (upd fo nc 2) (upd th nc (xs (i + 1))) (upd tg nc (xs (i + 2))) nt tb te tk tt nu ub ue uk ut re ro fu bl go ra rc ex tc es wy) ++ ((w4 b cI cZ tw9_31 nk pa nc9_32 fo9_33 th9_34 tg9_35 nt tb4 te4 tk4 tt4 ex tc es wy ab re4 go4 be) ++ ([(ou, .inl (cJ, 1, .inr (.inl (vp_updL fz 0 ((nI nc).toInt64)))))]))) [0, 1, 2, 3, 4, 5, 6, 7, 8, 9, 10, 11, 12, 13, 14, 15, 16, 17, 18, 19, 20, 21, 22, 23, 25, 26, 27, 28, 29, 30, 31, 32, 33, 34, 35, 36, 37, 24] (by decide) rfl
    have hP : va_P (dC, dI) vwCl ((w3 a cI cZ nk pa fa (nc + 1) (upd fo nc 2) (upd th nc (xs (i + 1))) (upd tg nc (xs (i + 2))) nt tb te tk tt nu ub ue uk ut re ro fu bl go ra rc ex tc es wy) ++ ((w4 b cI cZ tw9_31 nk pa nc9_32 fo9_33 th9_34 tg9_35 nt tb4 te4 tk4 tt4 ex tc es wy ab re4 go4 be) ++ ([(ou, .inl (cJ, 1, .inr (.inl (vp_updL fz 0 ((nI nc).toInt64)))))]))) H := hP
    have hD : va_D A ((w3 a cI cZ nk pa fa (nc + 1) (upd fo nc 2) (upd th nc (xs (i + 1))) (upd tg nc (xs (i + 2))) nt tb te tk tt nu ub ue uk ut re ro fu bl go ra rc ex tc es wy) ++ ((w4 b cI cZ tw9_31 nk pa nc9_32 fo9_33 th9_34 tg9_35 nt tb4 te4 tk4 tt4 ex tc es wy ab re4 go4 be) ++ ([(ou, .inl (cJ, 1, .inr (.inl (vp_updL fz 0 ((nI nc).toInt64)))))]))) := hD
    rcases hw with ⟨h_37, h_38, h_39, h_40, h_41, h_42⟩ | ⟨h_43, h_44, h_45, h_46, h_47, h_48, h_49⟩ | ⟨h_50, h_51, h_52, h_53, h_54, h_55, h_56, h_57⟩
    · skip
      exact absurd (h_13.symm.trans h_37) (by decide)
    · skip
      omega
    · skip
      replace h_52 := h_52.symm
      subst h_52
      replace h_53 := h_53.symm
      subst h_53
      replace h_54 := h_54.symm
      subst h_54
      replace h_55 := h_55.symm
      subst h_55
      replace h_56 := h_56.symm
      subst h_56
      replace h_57 := h_57.symm
      subst h_57
      have hP : va_P (dC, dI) vwCl ((w3 a cI cZ nk pa fa (nc + 1) (upd fo nc 2) (upd th nc (xs (i + 1))) (upd tg nc (xs (i + 2))) nt tb te tk tt nu ub ue uk ut re ro fu bl go ra rc ex tc es wy) ++ ((w4 b cI cZ 0 nk pa (nc + 1) (upd fo nc 2) (upd th nc (xs (i + 1))) (upd tg nc (xs (i + 2))) nt tb4 te4 tk4 tt4 ex tc es wy ab re4 go4 be) ++ ([(ou, .inl (cJ, 1, .inr (.inl (vp_updL fz 0 ((nI nc).toInt64)))))]))) H := hP
      have hD : va_D A ((w3 a cI cZ nk pa fa (nc + 1) (upd fo nc 2) (upd th nc (xs (i + 1))) (upd tg nc (xs (i + 2))) nt tb te tk tt nu ub ue uk ut re ro fu bl go ra rc ex tc es wy) ++ ((w4 b cI cZ 0 nk pa (nc + 1) (upd fo nc 2) (upd th nc (xs (i + 1))) (upd tg nc (xs (i + 2))) nt tb4 te4 tk4 tt4 ex tc es wy ab re4 go4 be) ++ ([(ou, .inl (cJ, 1, .inr (.inl (vp_updL fz 0 ((nI nc).toInt64)))))]))) := hD
      refine lv_istore (lv' := [(6, .int (nI nc)), (5, .int 0), (0, .ref sb), (1, .ref (a 0)), (2, .ref (b 0)), (3, .ref ou), (4, .int (nI i))]) hx hb dL_law_539 hl (by decide) rfl (fun ls hl => ?_)
      refine lv_aload_n hx hb dL_law_541 rfl (lv_at hl 4 rfl) ?_
      have hPc := hP.sub (ws' := w4 b cI cZ 0 nk pa (nc + 1) (upd fo nc 2) (upd th nc (xs (i + 1))) (upd tg nc (xs (i + 2))) nt tb4 te4 tk4 tt4 ex tc es wy ab re4 go4 be) [24, 25, 26, 27, 28, 29, 30, 31, 32, 33, 34, 35, 36] rfl
      refine va_calli (va_runV (As := []) (rest := []) ⟨hx, hb, hml, hown, hts⟩ (c_X4_thrown l dC dI cI cZ cJ b 0 nk pa (nc + 1) (upd fo nc 2) (upd th nc (xs (i + 1))) (upd tg nc (xs (i + 2))) nt tb4 te4 tk4 tt4 ex tc es wy ab re4 go4 be ) (cwV 0 hts gL_law_X4_thrown rfl rfl rfl (by decide +kernel) ⟨Nat.le_of_ble_eq_true rfl, Nat.le_of_ble_eq_true rfl⟩) ⟨zPre_blind, va_recv hK hPc (ci := 4) (q0 := 0) rfl rfl, zPre_at hPc hK hn⟩ rfl rfl hl.1 rfl (lv_room (Nat.le_of_ble_eq_true rfl)) dL_law_542 ⟨by show _ ≤ 601024; omega, by show _ ≤ 7293034; omega⟩) hS (fun _ _ h => h.elim) (fun _ h => h.elim) (fun r_58 u_9 t H locs ht hvm hw hB hz1 hk1 hS => ?_)
      have hP := zkeep hP hk1
      subst hw
      refine lv_iload hx hb dL_law_545 (lv_at hl 1 rfl) ?_
      refine lv_icmp_eq (tgt := 552) hx hb dL_law_547 (by decide) (fun c_59 => ?_) (fun c_59 => ?_)
      · skip
        refine lv_iload hx hb dL_law_552 (lv_at hl 1 rfl) ?_
        refine lv_if_ne (tgt := 569) hx hb dL_law_554 (by decide) (fun c_60 => ?_) (fun c_60 => ?_)
        · exact absurd c_60 (by decide)
        · skip
          refine lv_aload_n hx hb dL_law_557 rfl (lv_at hl 5 rfl) ?_
          refine lv_iconst (v := 0) hx hb dL_law_558 (by decide) ?_
          refine va_lald hx hb hK hP 37 2 rfl rfl (vp_in_nI (n := 0) (by omega) (by decide)) dL_law_559 ?_
          refine zz_topl (y := (vp_updL fz 0 ((nI nc).toInt64)) 0) (rfl) ?_
          refine lv_iload hx hb dL_law_560 (lv_at hl 0 rfl) ?_
          refine lv_i2l (v := (nI nc).toInt64) hx hb dL_law_562 rfl ?_
          refine W.lcmp hx hb dL_law_563 ?_
          refine lv_if_eq (tgt := 569) hx hb dL_law_564 (by decide) (fun c_61 => ?_) (fun c_61 => ?_)
          · skip
            skip
            refine lv_goto (tgt := 1475) hx hb dL_law_569 (by decide) ?_
            refine W.widen (k := k0 + 100) (n := n0 + 3000) (by omega) (by omega) ?_
            exact K nk pa fa (nc + 1) (upd fo nc 2) (upd th nc (xs (i + 1))) (upd tg nc (xs (i + 2))) nt tb te tk tt nu ub ue uk ut re ro fu bl go ra rc ex tc es wy 0 tb4 te4 tk4 tt4 ab re4 go4 be (vp_updL fz 0 ((nI nc).toInt64)) T up _ _ _ (by first | assumption | omega) (by first | assumption | omega) (by first | assumption | omega) hP hD hS (lv_sub hl [2, 3, 4, 5, 6] rfl)
          · exact absurd ((lg_cmp_eq _ _).mpr (by first | rfl | exact (bL_t hz9).symm | exact (bL_f hz9).symm)) c_61
      · exact absurd c_59 (by decide)
  · skip
    replace h_16 := h_16.symm
    subst h_16
    replace h_18 := h_18.symm
    subst h_18
    replace h_19 := h_19.symm
    subst h_19
    replace h_20 := h_20.symm
    subst h_20
    replace h_21 := h_21.symm
    subst h_21
    replace h_22 := h_22.symm
    subst h_22
    have hP : va_P (dC, dI) vwCl ((w3 a cI cZ nk pa fa nc fo th tg nt tb te tk tt nu ub ue uk ut re ro fu bl go ra rc ex tc es wy) ++ ((w4 b cI cZ tw nk pa nc fo th tg nt tb4 te4 tk4 tt4 ex tc es wy ab re4 go4 be) ++ ([(ou, .inl (cJ, 1, .inr (.inl fz)))]))) H := hP
    have hD : va_D A ((w3 a cI cZ nk pa fa nc fo th tg nt tb te tk tt nu ub ue uk ut re ro fu bl go ra rc ex tc es wy) ++ ((w4 b cI cZ tw nk pa nc fo th tg nt tb4 te4 tk4 tt4 ex tc es wy ab re4 go4 be) ++ ([(ou, .inl (cJ, 1, .inr (.inl fz)))]))) := hD
    refine lv_istore (lv' := [(5, .int 1), (0, .ref sb), (1, .ref (a 0)), (2, .ref (b 0)), (3, .ref ou), (4, .int (nI i))]) hx hb dL_law_521 hl (by decide) rfl (fun ls hl => ?_)
    refine lv_aload_n hx hb dL_law_523 rfl (lv_at hl 3 rfl) ?_
    refine lv_aload_n hx hb dL_law_524 rfl (lv_at hl 1 rfl) ?_
    refine lv_iload hx hb dL_law_525 (lv_at hl 5 rfl) ?_
    refine lv_iconst (v := 1) hx hb dL_law_527 (by decide) ?_
    refine lv_iadd hx hb dL_law_528 ?_
    refine zz_top (y := nI (i + 1)) (nI_add _ _) ?_
    refine va_sld hx hb hX hbl hbA hS (vp_in_nI (n := i + 1) (by omega) (by omega)) dL_law_529 ?_
    refine zz_top (y := xs (i + 1)) (congrArg _ (nI_clamp (by omega))) ?_
    refine lv_aload_n hx hb dL_law_530 rfl (lv_at hl 1 rfl) ?_
    refine lv_iload hx hb dL_law_531 (lv_at hl 5 rfl) ?_
    refine lv_iconst (v := 2) hx hb dL_law_533 (by decide) ?_
    refine lv_iadd hx hb dL_law_534 ?_
    refine zz_top (y := nI (i + 2)) (nI_add _ _) ?_
    refine va_sld hx hb hX hbl hbA hS (vp_in_nI (n := i + 2) (by omega) (by omega)) dL_law_535 ?_
    refine zz_top (y := xs (i + 2)) (congrArg _ (nI_clamp (by omega))) ?_
    have hPc := hP.sub (ws' := w4 b cI cZ tw nk pa nc fo th tg nt tb4 te4 tk4 tt4 ex tc es wy ab re4 go4 be) [24, 25, 26, 27, 28, 29, 30, 31, 32, 33, 34, 35, 36] rfl
    have hDc := hD.sub (ws' := w4 b cI cZ tw nk pa nc fo th tg nt tb4 te4 tk4 tt4 ex tc es wy ab re4 go4 be) [24, 25, 26, 27, 28, 29, 30, 31, 32, 33, 34, 35, 36] (by decide) rfl
    have hFc := va_free (wc := w4 b cI cZ tw nk pa nc fo th tg nt tb4 te4 tk4 tt4 ex tc es wy ab re4 go4 be) hD hS hA [24, 25, 26, 27, 28, 29, 30, 31, 32, 33, 34, 35, 36] rfl
    refine va_calli (va_runV (As := [.int (xs (i + 1)), .int (xs (i + 2))]) (rest := []) ⟨hx, hb, hml, hown, hts⟩ (c_X4_branch l dC dI cI cZ cJ b tw nk pa nc fo th tg nt tb4 te4 tk4 tt4 ex tc es wy ab re4 go4 be (xs (i + 1)) (xs (i + 2)) T up H.size (by first | assumption | omega) (by first | assumption | omega)) (cwV 2 hts gL_law_X4_branch rfl rfl rfl (by decide +kernel) ⟨Nat.le_of_ble_eq_true rfl, Nat.le_of_ble_eq_true rfl⟩) ⟨zWr_blind, va_recv hK hPc (ci := 4) (q0 := 0) rfl rfl, zWr_at hPc hK hn (hDc.weaken (fun _ _ _ _ => trivial))⟩ rfl rfl hl.1 rfl (lv_room (Nat.le_of_ble_eq_true rfl)) dL_law_536 ⟨by show _ ≤ 601024; omega, by show _ ≤ 7293034; omega⟩) hS (fun q _ h => hFc q h) hFc (fun r_62 u_9 t H1 locs ht hvm hw hB hz1 hk1 hS => ?_)
    obtain ⟨tw9_62, nc9_63, fo9_64, th9_65, tg9_66⟩ := u_9
    dsimp only at hw hB
    obtain ⟨hP1, -, hD1⟩ := hB
    rw [ht] at hP1
    obtain ⟨hP, hD⟩ := va_join (wr := (w3 a cI cZ nk pa fa nc fo th tg nt tb te tk tt nu ub ue uk ut re ro fu bl go ra rc ex tc es wy) ++ ([(ou, .inl (cJ, 1, .inr (.inl fz)))])) (w1 := w4 b cI cZ tw9_62 nk pa nc9_63 fo9_64 th9_65 tg9_66 nt tb4 te4 tk4 tt4 ex tc es wy ab re4 go4 be) hP hD [24, 25, 26, 27, 28, 29, 30, 31, 32, 33, 34, 35, 36] [0, 1, 2, 3, 4, 5, 6, 7, 8, 9, 10, 11, 12, 13, 14, 15, 16, 17, 18, 19, 20, 21, 22, 23, 37] rfl rfl (by decide) (by decide) hk1 hFc hP1 hD1
    generalize H1 = H at hP hS ⊢
    have hP := hP.sub (ws' := (w3 a cI cZ nk pa fa nc fo th tg nt tb te tk tt nu ub ue uk ut re ro fu bl go ra rc ex tc es wy) ++ ((w4 b cI cZ tw9_62 nk pa nc9_63 fo9_64 th9_65 tg9_66 nt tb4 te4 tk4 tt4 ex tc es wy ab re4 go4 be) ++ ([(ou, .inl (cJ, 1, .inr (.inl fz)))]))) [0, 1, 2, 3, 4, 5, 6, 7, 8, 9, 10, 11, 12, 13, 14, 15, 16, 17, 18, 19, 20, 21, 22, 23, 25, 26, 27, 28, 29, 30, 31, 32, 33, 34, 35, 36, 37, 24] rfl
    have hD := hD.sub (ws' := (w3 a cI cZ nk pa fa nc fo th tg nt tb te tk tt nu ub ue uk ut re ro fu bl go ra rc ex tc es wy) ++ ((w4 b cI cZ tw9_62 nk pa nc9_63 fo9_64 th9_65 tg9_66 nt tb4 te4 tk4 tt4 ex tc es wy ab re4 go4 be) ++ ([(ou, .inl (cJ, 1, .inr (.inl fz)))]))) [0, 1, 2, 3, 4, 5, 6, 7, 8, 9, 10, 11, 12, 13, 14, 15, 16, 17, 18, 19, 20, 21, 22, 23, 25, 26, 27, 28, 29, 30, 31, 32, 33, 34, 35, 36, 37, 24] (by decide) rfl
    have hP : va_P (dC, dI) vwCl ((w3 a cI cZ nk pa fa nc fo th tg nt tb te tk tt nu ub ue uk ut re ro fu bl go ra rc ex tc es wy) ++ ((w4 b cI cZ tw9_62 nk pa nc9_63 fo9_64 th9_65 tg9_66 nt tb4 te4 tk4 tt4 ex tc es wy ab re4 go4 be) ++ ([(ou, .inl (cJ, 1, .inr (.inl fz)))]))) H := hP
    have hD : va_D A ((w3 a cI cZ nk pa fa nc fo th tg nt tb te tk tt nu ub ue uk ut re ro fu bl go ra rc ex tc es wy) ++ ((w4 b cI cZ tw9_62 nk pa nc9_63 fo9_64 th9_65 tg9_66 nt tb4 te4 tk4 tt4 ex tc es wy ab re4 go4 be) ++ ([(ou, .inl (cJ, 1, .inr (.inl fz)))]))) := hD
    rcases hw with ⟨h_68, h_69, h_70, h_71, h_72, h_73⟩ | ⟨h_74, h_75, h_76, h_77, h_78, h_79, h_80⟩ | ⟨h_81, h_82, h_83, h_84, h_85, h_86, h_87, h_88⟩
    · skip
      replace h_69 := h_69.symm
      subst h_69
      replace h_70 := h_70.symm
      subst h_70
      replace h_71 := h_71.symm
      subst h_71
      replace h_72 := h_72.symm
      subst h_72
      replace h_73 := h_73.symm
      subst h_73
      have hP : va_P (dC, dI) vwCl ((w3 a cI cZ nk pa fa nc fo th tg nt tb te tk tt nu ub ue uk ut re ro fu bl go ra rc ex tc es wy) ++ ((w4 b cI cZ 1 nk pa nc fo th tg nt tb4 te4 tk4 tt4 ex tc es wy ab re4 go4 be) ++ ([(ou, .inl (cJ, 1, .inr (.inl fz)))]))) H := hP
      have hD : va_D A ((w3 a cI cZ nk pa fa nc fo th tg nt tb te tk tt nu ub ue uk ut re ro fu bl go ra rc ex tc es wy) ++ ((w4 b cI cZ 1 nk pa nc fo th tg nt tb4 te4 tk4 tt4 ex tc es wy ab re4 go4 be) ++ ([(ou, .inl (cJ, 1, .inr (.inl fz)))]))) := hD
      refine lv_istore (lv' := [(6, .int r_62), (5, .int 1), (0, .ref sb), (1, .ref (a 0)), (2, .ref (b 0)), (3, .ref ou), (4, .int (nI i))]) hx hb dL_law_539 hl (by decide) rfl (fun ls hl => ?_)
      refine lv_aload_n hx hb dL_law_541 rfl (lv_at hl 4 rfl) ?_
      have hPc := hP.sub (ws' := w4 b cI cZ 1 nk pa nc fo th tg nt tb4 te4 tk4 tt4 ex tc es wy ab re4 go4 be) [24, 25, 26, 27, 28, 29, 30, 31, 32, 33, 34, 35, 36] rfl
      refine va_calli (va_runV (As := []) (rest := []) ⟨hx, hb, hml, hown, hts⟩ (c_X4_thrown l dC dI cI cZ cJ b 1 nk pa nc fo th tg nt tb4 te4 tk4 tt4 ex tc es wy ab re4 go4 be ) (cwV 0 hts gL_law_X4_thrown rfl rfl rfl (by decide +kernel) ⟨Nat.le_of_ble_eq_true rfl, Nat.le_of_ble_eq_true rfl⟩) ⟨zPre_blind, va_recv hK hPc (ci := 4) (q0 := 0) rfl rfl, zPre_at hPc hK hn⟩ rfl rfl hl.1 rfl (lv_room (Nat.le_of_ble_eq_true rfl)) dL_law_542 ⟨by show _ ≤ 601024; omega, by show _ ≤ 7293034; omega⟩) hS (fun _ _ h => h.elim) (fun _ h => h.elim) (fun r_89 u_9 t H locs ht hvm hw hB hz1 hk1 hS => ?_)
      have hP := zkeep hP hk1
      subst hw
      refine lv_iload hx hb dL_law_545 (lv_at hl 1 rfl) ?_
      refine lv_icmp_eq (tgt := 552) hx hb dL_law_547 (by decide) (fun c_90 => ?_) (fun c_90 => ?_)
      · skip
        refine lv_iload hx hb dL_law_552 (lv_at hl 1 rfl) ?_
        refine lv_if_ne (tgt := 569) hx hb dL_law_554 (by decide) (fun c_91 => ?_) (fun c_91 => ?_)
        · skip
          refine lv_goto (tgt := 1475) hx hb dL_law_569 (by decide) ?_
          refine W.widen (k := k0 + 100) (n := n0 + 3000) (by omega) (by omega) ?_
          exact K nk pa fa nc fo th tg nt tb te tk tt nu ub ue uk ut re ro fu bl go ra rc ex tc es wy 1 tb4 te4 tk4 tt4 ab re4 go4 be fz T up _ _ _ (by first | assumption | omega) (by first | assumption | omega) (by first | assumption | omega) hP hD hS (lv_sub hl [2, 3, 4, 5, 6] rfl)
        · exact absurd c_91 (by decide)
      · exact absurd c_90 (by decide)
    · skip
      exact absurd (h_17.symm.trans h_74) (by decide)
    · skip
      exact absurd (h_17.symm.trans h_81) (by decide)
  · skip
    replace h_23 := h_23.symm
    subst h_23
    replace h_26 := h_26.symm
    subst h_26
    replace h_27 := h_27.symm
    subst h_27
    replace h_28 := h_28.symm
    subst h_28
    replace h_29 := h_29.symm
    subst h_29
    replace h_30 := h_30.symm
    subst h_30
    have hP : va_P (dC, dI) vwCl ((w3 a cI cZ nk pa fa nc fo th tg nt tb te tk tt nu ub ue uk ut re ro fu bl go ra rc ex tc es wy) ++ ((w4 b cI cZ tw nk pa nc fo th tg nt tb4 te4 tk4 tt4 ex tc es wy ab re4 go4 be) ++ ([(ou, .inl (cJ, 1, .inr (.inl fz)))]))) H := hP
    have hD : va_D A ((w3 a cI cZ nk pa fa nc fo th tg nt tb te tk tt nu ub ue uk ut re ro fu bl go ra rc ex tc es wy) ++ ((w4 b cI cZ tw nk pa nc fo th tg nt tb4 te4 tk4 tt4 ex tc es wy ab re4 go4 be) ++ ([(ou, .inl (cJ, 1, .inr (.inl fz)))]))) := hD
    refine lv_istore (lv' := [(5, .int 2), (0, .ref sb), (1, .ref (a 0)), (2, .ref (b 0)), (3, .ref ou), (4, .int (nI i))]) hx hb dL_law_521 hl (by decide) rfl (fun ls hl => ?_)
    refine lv_aload_n hx hb dL_law_523 rfl (lv_at hl 3 rfl) ?_
    refine lv_aload_n hx hb dL_law_524 rfl (lv_at hl 1 rfl) ?_
    refine lv_iload hx hb dL_law_525 (lv_at hl 5 rfl) ?_
    refine lv_iconst (v := 1) hx hb dL_law_527 (by decide) ?_
    refine lv_iadd hx hb dL_law_528 ?_
    refine zz_top (y := nI (i + 1)) (nI_add _ _) ?_
    refine va_sld hx hb hX hbl hbA hS (vp_in_nI (n := i + 1) (by omega) (by omega)) dL_law_529 ?_
    refine zz_top (y := xs (i + 1)) (congrArg _ (nI_clamp (by omega))) ?_
    refine lv_aload_n hx hb dL_law_530 rfl (lv_at hl 1 rfl) ?_
    refine lv_iload hx hb dL_law_531 (lv_at hl 5 rfl) ?_
    refine lv_iconst (v := 2) hx hb dL_law_533 (by decide) ?_
    refine lv_iadd hx hb dL_law_534 ?_
    refine zz_top (y := nI (i + 2)) (nI_add _ _) ?_
    refine va_sld hx hb hX hbl hbA hS (vp_in_nI (n := i + 2) (by omega) (by omega)) dL_law_535 ?_
    refine zz_top (y := xs (i + 2)) (congrArg _ (nI_clamp (by omega))) ?_
    have hPc := hP.sub (ws' := w4 b cI cZ tw nk pa nc fo th tg nt tb4 te4 tk4 tt4 ex tc es wy ab re4 go4 be) [24, 25, 26, 27, 28, 29, 30, 31, 32, 33, 34, 35, 36] rfl
    have hDc := hD.sub (ws' := w4 b cI cZ tw nk pa nc fo th tg nt tb4 te4 tk4 tt4 ex tc es wy ab re4 go4 be) [24, 25, 26, 27, 28, 29, 30, 31, 32, 33, 34, 35, 36] (by decide) rfl
    have hFc := va_free (wc := w4 b cI cZ tw nk pa nc fo th tg nt tb4 te4 tk4 tt4 ex tc es wy ab re4 go4 be) hD hS hA [24, 25, 26, 27, 28, 29, 30, 31, 32, 33, 34, 35, 36] rfl
    refine va_calli (va_runV (As := [.int (xs (i + 1)), .int (xs (i + 2))]) (rest := []) ⟨hx, hb, hml, hown, hts⟩ (c_X4_branch l dC dI cI cZ cJ b tw nk pa nc fo th tg nt tb4 te4 tk4 tt4 ex tc es wy ab re4 go4 be (xs (i + 1)) (xs (i + 2)) T up H.size (by first | assumption | omega) (by first | assumption | omega)) (cwV 2 hts gL_law_X4_branch rfl rfl rfl (by decide +kernel) ⟨Nat.le_of_ble_eq_true rfl, Nat.le_of_ble_eq_true rfl⟩) ⟨zWr_blind, va_recv hK hPc (ci := 4) (q0 := 0) rfl rfl, zWr_at hPc hK hn (hDc.weaken (fun _ _ _ _ => trivial))⟩ rfl rfl hl.1 rfl (lv_room (Nat.le_of_ble_eq_true rfl)) dL_law_536 ⟨by show _ ≤ 601024; omega, by show _ ≤ 7293034; omega⟩) hS (fun q _ h => hFc q h) hFc (fun r_92 u_9 t H1 locs ht hvm hw hB hz1 hk1 hS => ?_)
    obtain ⟨tw9_92, nc9_93, fo9_94, th9_95, tg9_96⟩ := u_9
    dsimp only at hw hB
    obtain ⟨hP1, -, hD1⟩ := hB
    rw [ht] at hP1
    obtain ⟨hP, hD⟩ := va_join (wr := (w3 a cI cZ nk pa fa nc fo th tg nt tb te tk tt nu ub ue uk ut re ro fu bl go ra rc ex tc es wy) ++ ([(ou, .inl (cJ, 1, .inr (.inl fz)))])) (w1 := w4 b cI cZ tw9_92 nk pa nc9_93 fo9_94 th9_95 tg9_96 nt tb4 te4 tk4 tt4 ex tc es wy ab re4 go4 be) hP hD [24, 25, 26, 27, 28, 29, 30, 31, 32, 33, 34, 35, 36] [0, 1, 2, 3, 4, 5, 6, 7, 8, 9, 10, 11, 12, 13, 14, 15, 16, 17, 18, 19, 20, 21, 22, 23, 37] rfl rfl (by decide) (by decide) hk1 hFc hP1 hD1
    generalize H1 = H at hP hS ⊢
    have hP := hP.sub (ws' := (w3 a cI cZ nk pa fa nc fo th tg nt tb te tk tt nu ub ue uk ut re ro fu bl go ra rc ex tc es wy) ++ ((w4 b cI cZ tw9_92 nk pa nc9_93 fo9_94 th9_95 tg9_96 nt tb4 te4 tk4 tt4 ex tc es wy ab re4 go4 be) ++ ([(ou, .inl (cJ, 1, .inr (.inl fz)))]))) [0, 1, 2, 3, 4, 5, 6, 7, 8, 9, 10, 11, 12, 13, 14, 15, 16, 17, 18, 19, 20, 21, 22, 23, 25, 26, 27, 28, 29, 30, 31, 32, 33, 34, 35, 36, 37, 24] rfl
    have hD := hD.sub (ws' := (w3 a cI cZ nk pa fa nc fo th tg nt tb te tk tt nu ub ue uk ut re ro fu bl go ra rc ex tc es wy) ++ ((w4 b cI cZ tw9_92 nk pa nc9_93 fo9_94 th9_95 tg9_96 nt tb4 te4 tk4 tt4 ex tc es wy ab re4 go4 be) ++ ([(ou, .inl (cJ, 1, .inr (.inl fz)))]))) [0, 1, 2, 3, 4, 5, 6, 7, 8, 9, 10, 11, 12, 13, 14, 15, 16, 17, 18, 19, 20, 21, 22, 23, 25, 26, 27, 28, 29, 30, 31, 32, 33, 34, 35, 36, 37, 24] (by decide) rfl
    have hP : va_P (dC, dI) vwCl ((w3 a cI cZ nk pa fa nc fo th tg nt tb te tk tt nu ub ue uk ut re ro fu bl go ra rc ex tc es wy) ++ ((w4 b cI cZ tw9_92 nk pa nc9_93 fo9_94 th9_95 tg9_96 nt tb4 te4 tk4 tt4 ex tc es wy ab re4 go4 be) ++ ([(ou, .inl (cJ, 1, .inr (.inl fz)))]))) H := hP
    have hD : va_D A ((w3 a cI cZ nk pa fa nc fo th tg nt tb te tk tt nu ub ue uk ut re ro fu bl go ra rc ex tc es wy) ++ ((w4 b cI cZ tw9_92 nk pa nc9_93 fo9_94 th9_95 tg9_96 nt tb4 te4 tk4 tt4 ex tc es wy ab re4 go4 be) ++ ([(ou, .inl (cJ, 1, .inr (.inl fz)))]))) := hD
    rcases hw with ⟨h_98, h_99, h_100, h_101, h_102, h_103⟩ | ⟨h_104, h_105, h_106, h_107, h_108, h_109, h_110⟩ | ⟨h_111, h_112, h_113, h_114, h_115, h_116, h_117, h_118⟩
    · skip
      exact absurd (h_24.symm.trans h_98) (by decide)
    · skip
      replace h_106 := h_106.symm
      subst h_106
      replace h_107 := h_107.symm
      subst h_107
      replace h_108 := h_108.symm
      subst h_108
      replace h_109 := h_109.symm
      subst h_109
      replace h_110 := h_110.symm
      subst h_110
      have hP : va_P (dC, dI) vwCl ((w3 a cI cZ nk pa fa nc fo th tg nt tb te tk tt nu ub ue uk ut re ro fu bl go ra rc ex tc es wy) ++ ((w4 b cI cZ 2 nk pa nc fo th tg nt tb4 te4 tk4 tt4 ex tc es wy ab re4 go4 be) ++ ([(ou, .inl (cJ, 1, .inr (.inl fz)))]))) H := hP
      have hD : va_D A ((w3 a cI cZ nk pa fa nc fo th tg nt tb te tk tt nu ub ue uk ut re ro fu bl go ra rc ex tc es wy) ++ ((w4 b cI cZ 2 nk pa nc fo th tg nt tb4 te4 tk4 tt4 ex tc es wy ab re4 go4 be) ++ ([(ou, .inl (cJ, 1, .inr (.inl fz)))]))) := hD
      refine lv_istore (lv' := [(6, .int r_92), (5, .int 2), (0, .ref sb), (1, .ref (a 0)), (2, .ref (b 0)), (3, .ref ou), (4, .int (nI i))]) hx hb dL_law_539 hl (by decide) rfl (fun ls hl => ?_)
      refine lv_aload_n hx hb dL_law_541 rfl (lv_at hl 4 rfl) ?_
      have hPc := hP.sub (ws' := w4 b cI cZ 2 nk pa nc fo th tg nt tb4 te4 tk4 tt4 ex tc es wy ab re4 go4 be) [24, 25, 26, 27, 28, 29, 30, 31, 32, 33, 34, 35, 36] rfl
      refine va_calli (va_runV (As := []) (rest := []) ⟨hx, hb, hml, hown, hts⟩ (c_X4_thrown l dC dI cI cZ cJ b 2 nk pa nc fo th tg nt tb4 te4 tk4 tt4 ex tc es wy ab re4 go4 be ) (cwV 0 hts gL_law_X4_thrown rfl rfl rfl (by decide +kernel) ⟨Nat.le_of_ble_eq_true rfl, Nat.le_of_ble_eq_true rfl⟩) ⟨zPre_blind, va_recv hK hPc (ci := 4) (q0 := 0) rfl rfl, zPre_at hPc hK hn⟩ rfl rfl hl.1 rfl (lv_room (Nat.le_of_ble_eq_true rfl)) dL_law_542 ⟨by show _ ≤ 601024; omega, by show _ ≤ 7293034; omega⟩) hS (fun _ _ h => h.elim) (fun _ h => h.elim) (fun r_119 u_9 t H locs ht hvm hw hB hz1 hk1 hS => ?_)
      have hP := zkeep hP hk1
      subst hw
      refine lv_iload hx hb dL_law_545 (lv_at hl 1 rfl) ?_
      refine lv_icmp_eq (tgt := 552) hx hb dL_law_547 (by decide) (fun c_120 => ?_) (fun c_120 => ?_)
      · skip
        refine lv_iload hx hb dL_law_552 (lv_at hl 1 rfl) ?_
        refine lv_if_ne (tgt := 569) hx hb dL_law_554 (by decide) (fun c_121 => ?_) (fun c_121 => ?_)
        · skip
          refine lv_goto (tgt := 1475) hx hb dL_law_569 (by decide) ?_
          refine W.widen (k := k0 + 100) (n := n0 + 3000) (by omega) (by omega) ?_
          exact K nk pa fa nc fo th tg nt tb te tk tt nu ub ue uk ut re ro fu bl go ra rc ex tc es wy 2 tb4 te4 tk4 tt4 ab re4 go4 be fz T up _ _ _ (by first | assumption | omega) (by first | assumption | omega) (by first | assumption | omega) hP hD hS (lv_sub hl [2, 3, 4, 5, 6] rfl)
        · exact absurd c_121 (by decide)
      · exact absurd c_120 (by decide)
    · skip
      omega

set_option maxHeartbeats 4000000 in
set_option maxRecDepth 100000 in
theorem lk_7 {p : Program} {e : Env} {s : State} {m : MethodId} {below : List Frame} {meth : Method} {c : Code} {Q : State → Prop} (l : Launch) {sb L : Nat} {xs : Nat → Int32} (dC : Nat → ClassId) (dI : Nat → Nat → Nat) (cI cZ cJ : ClassId) (a b : Nat → Nat) (ou i k0 n0 : Nat) (hF0 : lwF p l s m c sb L xs dC dI cI cZ cJ) (hi : i + 5 ≤ L) (hk0 : k0 + 100 ≤ 601024) (hn0 : n0 + 3000 ≤ 7293034) (nk : Nat) (pa : Nat → Int32) (fa : Nat → Int32) (nc : Nat) (fo : Nat → Int32) (th : Nat → Int32) (tg : Nat → Int32) (nt : Nat) (tb : Nat → Int32) (te : Nat → Int32) (tk : Nat → Int32) (tt : Nat → Int32) (nu : Nat) (ub : Nat → Int32) (ue : Nat → Int32) (uk : Nat → Int32) (ut : Nat → Int32) (re : Nat → Int32) (ro : Nat → Int32) (fu : Nat → Int32) (bl : Nat → Int32) (go : Nat → Int32) (ra : Nat → Int32) (rc : Nat) (ex : Int32) (tc : Int32) (es : Int32) (wy : Int64) (tw : Int32) (tb4 : Nat → Int32) (te4 : Nat → Int32) (tk4 : Nat → Int32) (tt4 : Nat → Int32) (ab : Nat → Int32) (re4 : Nat → Int32) (go4 : Nat → Int32) (be : Nat → Int32) (fz : Nat → Int64) (T : Nat → Nat → Nat) (up : Nat → Nat → Bool) (hg : g3 nk fa up nt tb te tk tt T) (hg4 : g4 nk ab up nt tb4 te4 tk4 tt4 T) (hc : okC nk nc fo th tg) (H : Heap) (locs : List Loc) (ls : Array Slot) (hP : va_P (dC, dI) vwCl ((w3 a cI cZ nk pa fa nc fo th tg nt tb te tk tt nu ub ue uk ut re ro fu bl go ra rc ex tc es wy) ++ ((w4 b cI cZ tw nk pa nc fo th tg nt tb4 te4 tk4 tt4 ex tc es wy ab re4 go4 be) ++ ([(ou, .inl (cJ, 1, .inr (.inl fz)))]))) H) (hD : va_D (fun q => s.heap.size ≤ q) ((w3 a cI cZ nk pa fa nc fo th tg nt tb te tk tt nu ub ue uk ut re ro fu bl go ra rc ex tc es wy) ++ ((w4 b cI cZ tw nk pa nc fo th tg nt tb4 te4 tk4 tt4 ex tc es wy ab re4 go4 be) ++ ([(ou, .inl (cJ, 1, .inr (.inl fz)))])))) (hS : va_S (fun q => s.heap.size ≤ q) s.heap H locs) (hl : lv_has ls 9 [(0, .ref sb), (1, .ref (a 0)), (2, .ref (b 0)), (3, .ref ou), (4, .int (nI i))]) (K : ∀ (nk : Nat) (pa : Nat → Int32) (fa : Nat → Int32) (nc : Nat) (fo : Nat → Int32) (th : Nat → Int32) (tg : Nat → Int32) (nt : Nat) (tb : Nat → Int32) (te : Nat → Int32) (tk : Nat → Int32) (tt : Nat → Int32) (nu : Nat) (ub : Nat → Int32) (ue : Nat → Int32) (uk : Nat → Int32) (ut : Nat → Int32) (re : Nat → Int32) (ro : Nat → Int32) (fu : Nat → Int32) (bl : Nat → Int32) (go : Nat → Int32) (ra : Nat → Int32) (rc : Nat) (ex : Int32) (tc : Int32) (es : Int32) (wy : Int64) (tw : Int32) (tb4 : Nat → Int32) (te4 : Nat → Int32) (tk4 : Nat → Int32) (tt4 : Nat → Int32) (ab : Nat → Int32) (re4 : Nat → Int32) (go4 : Nat → Int32) (be : Nat → Int32) (fz : Nat → Int64) (T : Nat → Nat → Nat) (up : Nat → Nat → Bool) (H : Heap) (locs : List Loc) (ls : Array Slot), g3 nk fa up nt tb te tk tt T → g4 nk ab up nt tb4 te4 tk4 tt4 T → okC nk nc fo th tg → va_P (dC, dI) vwCl ((w3 a cI cZ nk pa fa nc fo th tg nt tb te tk tt nu ub ue uk ut re ro fu bl go ra rc ex tc es wy) ++ ((w4 b cI cZ tw nk pa nc fo th tg nt tb4 te4 tk4 tt4 ex tc es wy ab re4 go4 be) ++ ([(ou, .inl (cJ, 1, .inr (.inl fz)))]))) H → va_D (fun q => s.heap.size ≤ q) ((w3 a cI cZ nk pa fa nc fo th tg nt tb te tk tt nu ub ue uk ut re ro fu bl go ra rc ex tc es wy) ++ ((w4 b cI cZ tw nk pa nc fo th tg nt tb4 te4 tk4 tt4 ex tc es wy ab re4 go4 be) ++ ([(ou, .inl (cJ, 1, .inr (.inl fz)))]))) → va_S (fun q => s.heap.size ≤ q) s.heap H locs → lv_has ls 9 [(0, .ref sb), (1, .ref (a 0)), (2, .ref (b 0)), (3, .ref ou), (4, .int (nI i))] → W p l e room_1 s m #[Value.ref sb] below meth c H locs (k0 + 100) (n0 + 3000) Q (F0 m 1475 ls [])) : W p l e room_1 s m #[Value.ref sb] below meth c H locs k0 n0 Q (F0 m 572 ls []) := by
  obtain ⟨hx, hb, hml, hown, hts, hX, hbl, hL, hK, hn, hzt, hzu, hzc, hlt⟩ := id hF0
  obtain ⟨A, hAe⟩ : ∃ A : Nat → Prop, A = fun q => s.heap.size ≤ q := ⟨_, rfl⟩
  have hbA : ¬ A sb := by rw [hAe]; exact Nat.not_le.mpr hbl
  have hA : ∀ q : Nat, s.heap.size ≤ q → A q := fun q h => by rw [hAe]; exact h
  rw [← hAe] at hD hS hzu K
  refine lv_aload_n hx hb dL_law_572 rfl (lv_at hl 1 rfl) ?_
  refine lv_aload_n hx hb dL_law_573 rfl (lv_at hl 3 rfl) ?_
  have hPc := hP.sub (ws' := (w3 a cI cZ nk pa fa nc fo th tg nt tb te tk tt nu ub ue uk ut re ro fu bl go ra rc ex tc es wy) ++ ([(ou, .inl (cJ, 1, .inr (.inl fz)))])) [0, 1, 2, 3, 4, 5, 6, 7, 8, 9, 10, 11, 12, 13, 14, 15, 16, 17, 18, 19, 20, 21, 22, 23, 37] rfl
  have hDc := hD.sub (ws' := (w3 a cI cZ nk pa fa nc fo th tg nt tb te tk tt nu ub ue uk ut re ro fu bl go ra rc ex tc es wy) ++ ([(ou, .inl (cJ, 1, .inr (.inl fz)))])) [0, 1, 2, 3, 4, 5, 6, 7, 8, 9, 10, 11, 12, 13, 14, 15, 16, 17, 18, 19, 20, 21, 22, 23, 37] (by decide) rfl
  have hFc := va_free (wc := (w3 a cI cZ nk pa fa nc fo th tg nt tb te tk tt nu ub ue uk ut re ro fu bl go ra rc ex tc es wy) ++ ([(ou, .inl (cJ, 1, .inr (.inl fz)))])) hD hS hA [0, 1, 2, 3, 4, 5, 6, 7, 8, 9, 10, 11, 12, 13, 14, 15, 16, 17, 18, 19, 20, 21, 22, 23, 37] rfl
  refine va_calli (vx_runSW (As := [.ref (a 0), .ref ou]) (rest := []) ⟨hx, hb, hml, hown, hts⟩ (c_L_end l dC dI cI cZ cJ a nk pa fa nc fo th tg nt tb te tk tt nu ub ue uk ut re ro fu bl go ra rc ex tc es wy T up ou fz H.size hlt (by first | assumption | omega) (by first | assumption | omega)) (vx_cwSW 2 hts gL_law_L_end rfl rfl rfl (by decide +kernel) ⟨Nat.le_of_ble_eq_true rfl, Nat.le_of_ble_eq_true rfl⟩) ⟨zTl_blind, zTl_at hPc hK hn (hDc.weaken (fun _ _ _ _ => trivial)) hzt hzu hS hFc hzc⟩ rfl rfl hl.1 rfl (lv_room (Nat.le_of_ble_eq_true rfl)) dL_law_574 ⟨by show _ ≤ 601024; omega, by show _ ≤ 7293034; omega⟩) hS (fun q _ h => hFc q h) hFc (fun r_1 u_9 t H1 locs ht hvm hw hB hz1 hk1 hS => ?_)
  obtain ⟨v_c_1, v_cf_2, v_ct_3, v_cg_4, fz9_5⟩ := u_9
  dsimp only at hw hB
  obtain ⟨hP1, -, hD1⟩ := hB
  rw [ht] at hP1
  obtain ⟨hP, hD⟩ := va_join (wr := w4 b cI cZ tw nk pa nc fo th tg nt tb4 te4 tk4 tt4 ex tc es wy ab re4 go4 be) (w1 := (w3 a cI cZ nk pa fa v_c_1 v_cf_2 v_ct_3 v_cg_4 nt tb te tk tt nu ub ue uk ut re ro fu bl go ra rc ex tc es wy) ++ ([(ou, .inl (cJ, 1, .inr (.inl fz9_5)))])) hP hD [0, 1, 2, 3, 4, 5, 6, 7, 8, 9, 10, 11, 12, 13, 14, 15, 16, 17, 18, 19, 20, 21, 22, 23, 37] [24, 25, 26, 27, 28, 29, 30, 31, 32, 33, 34, 35, 36] rfl rfl (by decide) (by decide) hk1 hFc hP1 hD1
  generalize H1 = H at hP hS ⊢
  have hP := hP.sub (ws' := (w3 a cI cZ nk pa fa v_c_1 v_cf_2 v_ct_3 v_cg_4 nt tb te tk tt nu ub ue uk ut re ro fu bl go ra rc ex tc es wy) ++ ((w4 b cI cZ tw nk pa nc fo th tg nt tb4 te4 tk4 tt4 ex tc es wy ab re4 go4 be) ++ ([(ou, .inl (cJ, 1, .inr (.inl fz9_5)))]))) [13, 14, 15, 16, 17, 18, 19, 20, 21, 22, 23, 24, 25, 26, 27, 28, 29, 30, 31, 32, 33, 34, 35, 36, 0, 1, 2, 3, 4, 5, 6, 7, 8, 9, 10, 11, 12, 37] rfl
  have hD := hD.sub (ws' := (w3 a cI cZ nk pa fa v_c_1 v_cf_2 v_ct_3 v_cg_4 nt tb te tk tt nu ub ue uk ut re ro fu bl go ra rc ex tc es wy) ++ ((w4 b cI cZ tw nk pa nc fo th tg nt tb4 te4 tk4 tt4 ex tc es wy ab re4 go4 be) ++ ([(ou, .inl (cJ, 1, .inr (.inl fz9_5)))]))) [13, 14, 15, 16, 17, 18, 19, 20, 21, 22, 23, 24, 25, 26, 27, 28, 29, 30, 31, 32, 33, 34, 35, 36, 0, 1, 2, 3, 4, 5, 6, 7, 8, 9, 10, 11, 12, 37] (by decide) rfl
  have hP : va_P (dC, dI) vwCl ((w3 a cI cZ nk pa fa v_c_1 v_cf_2 v_ct_3 v_cg_4 nt tb te tk tt nu ub ue uk ut re ro fu bl go ra rc ex tc es wy) ++ ((w4 b cI cZ tw nk pa nc fo th tg nt tb4 te4 tk4 tt4 ex tc es wy ab re4 go4 be) ++ ([(ou, .inl (cJ, 1, .inr (.inl fz9_5)))]))) H := hP
  have hD : va_D A ((w3 a cI cZ nk pa fa v_c_1 v_cf_2 v_ct_3 v_cg_4 nt tb te tk tt nu ub ue uk ut re ro fu bl go ra rc ex tc es wy) ++ ((w4 b cI cZ tw nk pa nc fo th tg nt tb4 te4 tk4 tt4 ex tc es wy ab re4 go4 be) ++ ([(ou, .inl (cJ, 1, .inr (.inl fz9_5)))]))) := hD
  refine W.widen (k := k0 + 1) (n := n0 + 6) (by omega) (by omega) ?_
  rcases hw with ⟨h_7, h_8, h_9, h_10, h_11, h_12, ⟨h_13, h_14⟩⟩ | ⟨h_15, h_16, h_17, h_18, h_19, h_20, h_21⟩
  · skip
    replace h_7 := h_7.symm
    subst h_7
    replace h_8 := h_8.symm
    subst h_8
    replace h_9 := h_9.symm
    subst h_9
    replace h_10 := h_10.symm
    subst h_10
    replace h_11 := h_11.symm
    subst h_11
    replace h_12 := h_12.symm
    subst h_12
    have hP : va_P (dC, dI) vwCl ((w3 a cI cZ nk pa fa (nc + 1) (upd fo nc 3) (upd th nc 0) (upd tg nc (-1)) nt tb te tk tt nu ub ue uk ut re ro fu bl go ra rc ex tc es wy) ++ ((w4 b cI cZ tw nk pa nc fo th tg nt tb4 te4 tk4 tt4 ex tc es wy ab re4 go4 be) ++ ([(ou, .inl (cJ, 1, .inr (.inl (vp_updL fz 0 ((nI nc).toInt64)))))]))) H := hP
    have hD : va_D A ((w3 a cI cZ nk pa fa (nc + 1) (upd fo nc 3) (upd th nc 0) (upd tg nc (-1)) nt tb te tk tt nu ub ue uk ut re ro fu bl go ra rc ex tc es wy) ++ ((w4 b cI cZ tw nk pa nc fo th tg nt tb4 te4 tk4 tt4 ex tc es wy ab re4 go4 be) ++ ([(ou, .inl (cJ, 1, .inr (.inl (vp_updL fz 0 ((nI nc).toInt64)))))]))) := hD
    refine lv_istore (lv' := [(5, .int 0), (0, .ref sb), (1, .ref (a 0)), (2, .ref (b 0)), (3, .ref ou), (4, .int (nI i))]) hx hb dL_law_577 hl (by decide) rfl (fun ls hl => ?_)
    refine lv_aload_n hx hb dL_law_579 rfl (lv_at hl 3 rfl) ?_
    have hPc := hP.sub (ws' := w4 b cI cZ tw nk pa nc fo th tg nt tb4 te4 tk4 tt4 ex tc es wy ab re4 go4 be) [24, 25, 26, 27, 28, 29, 30, 31, 32, 33, 34, 35, 36] rfl
    have hDc := hD.sub (ws' := w4 b cI cZ tw nk pa nc fo th tg nt tb4 te4 tk4 tt4 ex tc es wy ab re4 go4 be) [24, 25, 26, 27, 28, 29, 30, 31, 32, 33, 34, 35, 36] (by decide) rfl
    have hFc := va_free (wc := w4 b cI cZ tw nk pa nc fo th tg nt tb4 te4 tk4 tt4 ex tc es wy ab re4 go4 be) hD hS hA [24, 25, 26, 27, 28, 29, 30, 31, 32, 33, 34, 35, 36] rfl
    refine va_calli (va_runV (As := []) (rest := []) ⟨hx, hb, hml, hown, hts⟩ (c_X4_end l dC dI cI cZ cJ b tw nk pa nc fo th tg nt tb4 te4 tk4 tt4 ex tc es wy ab re4 go4 be T up H.size (by first | assumption | omega) (by first | assumption | omega)) (cwV 0 hts gL_law_X4_end rfl rfl rfl (by decide +kernel) ⟨Nat.le_of_ble_eq_true rfl, Nat.le_of_ble_eq_true rfl⟩) ⟨zWr_blind, va_recv hK hPc (ci := 4) (q0 := 0) rfl rfl, zWr_at hPc hK hn (hDc.weaken (fun _ _ _ _ => trivial))⟩ rfl rfl hl.1 rfl (lv_room (Nat.le_of_ble_eq_true rfl)) dL_law_580 ⟨by show _ ≤ 601024; omega, by show _ ≤ 7293034; omega⟩) hS (fun q _ h => hFc q h) hFc (fun r_22 u_9 t H1 locs ht hvm hw hB hz1 hk1 hS => ?_)
    obtain ⟨tw9_22, nc9_23, fo9_24, th9_25, tg9_26⟩ := u_9
    dsimp only at hw hB
    obtain ⟨hP1, -, hD1⟩ := hB
    rw [ht] at hP1
    obtain ⟨hP, hD⟩ := va_join (wr := (w3 a cI cZ nk pa fa (nc + 1) (upd fo nc 3) (upd th nc 0) (upd tg nc (-1)) nt tb te tk tt nu ub ue uk ut re ro fu bl go ra rc ex tc es wy) ++ ([(ou, .inl (cJ, 1, .inr (.inl (vp_updL fz 0 ((nI nc).toInt64)))))])) (w1 := w4 b cI cZ tw9_22 nk pa nc9_23 fo9_24 th9_25 tg9_26 nt tb4 te4 tk4 tt4 ex tc es wy ab re4 go4 be) hP hD [24, 25, 26, 27, 28, 29, 30, 31, 32, 33, 34, 35, 36] [0, 1, 2, 3, 4, 5, 6, 7, 8, 9, 10, 11, 12, 13, 14, 15, 16, 17, 18, 19, 20, 21, 22, 23, 37] rfl rfl (by decide) (by decide) hk1 hFc hP1 hD1
    generalize H1 = H at hP hS ⊢
    have hP := hP.sub (ws' := (w3 a cI cZ nk pa fa (nc + 1) (upd fo nc 3) (upd th nc 0) (upd tg nc (-1)) nt tb te tk tt nu ub ue uk ut re ro fu bl go ra rc ex tc es wy) ++ ((w4 b cI cZ tw9_22 nk pa nc9_23 fo9_24 th9_25 tg9_26 nt tb4 te4 tk4 tt4 ex tc es wy ab re4 go4 be) ++ ([(ou, .inl (cJ, 1, .inr (.inl (vp_updL fz 0 ((nI nc).toInt64)))))]))) [0, 1, 2, 3, 4, 5, 6, 7, 8, 9, 10, 11, 12, 13, 14, 15, 16, 17, 18, 19, 20, 21, 22, 23, 25, 26, 27, 28, 29, 30, 31, 32, 33, 34, 35, 36, 37, 24] rfl
    have hD := hD.sub (ws' := (w3 a cI cZ nk pa fa (nc + 1) (upd fo nc 3) (upd th nc 0) (upd tg nc (-1)) nt tb te tk tt nu ub ue uk ut re ro fu bl go ra rc ex tc es wy) ++ ((w4 b cI cZ tw9_22 nk pa nc9_23 fo9_24 th9_25 tg9_26 nt tb4 te4 tk4 tt4 ex tc es wy ab re4 go4 be) ++ ([(ou, .inl (cJ, 1, .inr (.inl (vp_updL fz 0 ((nI nc).toInt64)))))]))) [0, 1, 2, 3, 4, 5, 6, 7, 8, 9, 10, 11, 12, 13, 14, 15, 16, 17, 18, 19, 20, 21, 22, 23, 25, 26, 27, 28, 29, 30, 31, 32, 33, 34, 35, 36, 37, 24] (by decide) rfl
    have hP : va_P (dC, dI) vwCl ((w3 a cI cZ nk pa fa (nc + 1) (upd fo nc 3) (upd th nc 0) (upd tg nc (-1)) nt tb te tk tt nu ub ue uk ut re ro fu bl go ra rc ex tc es wy) ++ ((w4 b cI cZ tw9_22 nk pa nc9_23 fo9_24 th9_25 tg9_26 nt tb4 te4 tk4 tt4 ex tc es wy ab re4 go4 be) ++ ([(ou, .inl (cJ, 1, .inr (.inl (vp_updL fz 0 ((nI nc).toInt64)))))]))) H := hP
    have hD : va_D A ((w3 a cI cZ nk pa fa (nc + 1) (upd fo nc 3) (upd th nc 0) (upd tg nc (-1)) nt tb te tk tt nu ub ue uk ut re ro fu bl go ra rc ex tc es wy) ++ ((w4 b cI cZ tw9_22 nk pa nc9_23 fo9_24 th9_25 tg9_26 nt tb4 te4 tk4 tt4 ex tc es wy ab re4 go4 be) ++ ([(ou, .inl (cJ, 1, .inr (.inl (vp_updL fz 0 ((nI nc).toInt64)))))]))) := hD
    rcases hw with ⟨h_28, h_29, h_30, h_31, h_32, h_33⟩ | ⟨h_34, h_35, h_36, h_37, h_38, h_39, h_40⟩
    · skip
      omega
    · skip
      replace h_35 := h_35.symm
      subst h_35
      replace h_36 := h_36.symm
      subst h_36
      replace h_37 := h_37.symm
      subst h_37
      replace h_38 := h_38.symm
      subst h_38
      replace h_39 := h_39.symm
      subst h_39
      replace h_40 := h_40.symm
      subst h_40
      have hP : va_P (dC, dI) vwCl ((w3 a cI cZ nk pa fa (nc + 1) (upd fo nc 3) (upd th nc 0) (upd tg nc (-1)) nt tb te tk tt nu ub ue uk ut re ro fu bl go ra rc ex tc es wy) ++ ((w4 b cI cZ 0 nk pa (nc + 1) (upd fo nc 3) (upd th nc 0) (upd tg nc (-1)) nt tb4 te4 tk4 tt4 ex tc es wy ab re4 go4 be) ++ ([(ou, .inl (cJ, 1, .inr (.inl (vp_updL fz 0 ((nI nc).toInt64)))))]))) H := hP
      have hD : va_D A ((w3 a cI cZ nk pa fa (nc + 1) (upd fo nc 3) (upd th nc 0) (upd tg nc (-1)) nt tb te tk tt nu ub ue uk ut re ro fu bl go ra rc ex tc es wy) ++ ((w4 b cI cZ 0 nk pa (nc + 1) (upd fo nc 3) (upd th nc 0) (upd tg nc (-1)) nt tb4 te4 tk4 tt4 ex tc es wy ab re4 go4 be) ++ ([(ou, .inl (cJ, 1, .inr (.inl (vp_updL fz 0 ((nI nc).toInt64)))))]))) := hD
      refine lv_istore (lv' := [(6, .int (nI nc)), (5, .int 0), (0, .ref sb), (1, .ref (a 0)), (2, .ref (b 0)), (3, .ref ou), (4, .int (nI i))]) hx hb dL_law_583 hl (by decide) rfl (fun ls hl => ?_)
      refine lv_aload_n hx hb dL_law_585 rfl (lv_at hl 4 rfl) ?_
      have hPc := hP.sub (ws' := w4 b cI cZ 0 nk pa (nc + 1) (upd fo nc 3) (upd th nc 0) (upd tg nc (-1)) nt tb4 te4 tk4 tt4 ex tc es wy ab re4 go4 be) [24, 25, 26, 27, 28, 29, 30, 31, 32, 33, 34, 35, 36] rfl
      refine va_calli (va_runV (As := []) (rest := []) ⟨hx, hb, hml, hown, hts⟩ (c_X4_thrown l dC dI cI cZ cJ b 0 nk pa (nc + 1) (upd fo nc 3) (upd th nc 0) (upd tg nc (-1)) nt tb4 te4 tk4 tt4 ex tc es wy ab re4 go4 be ) (cwV 0 hts gL_law_X4_thrown rfl rfl rfl (by decide +kernel) ⟨Nat.le_of_ble_eq_true rfl, Nat.le_of_ble_eq_true rfl⟩) ⟨zPre_blind, va_recv hK hPc (ci := 4) (q0 := 0) rfl rfl, zPre_at hPc hK hn⟩ rfl rfl hl.1 rfl (lv_room (Nat.le_of_ble_eq_true rfl)) dL_law_586 ⟨by show _ ≤ 601024; omega, by show _ ≤ 7293034; omega⟩) hS (fun _ _ h => h.elim) (fun _ h => h.elim) (fun r_41 u_9 t H locs ht hvm hw hB hz1 hk1 hS => ?_)
      have hP := zkeep hP hk1
      subst hw
      refine lv_iload hx hb dL_law_589 (lv_at hl 1 rfl) ?_
      refine lv_icmp_eq (tgt := 596) hx hb dL_law_591 (by decide) (fun c_42 => ?_) (fun c_42 => ?_)
      · skip
        refine lv_iload hx hb dL_law_596 (lv_at hl 1 rfl) ?_
        refine lv_if_ne (tgt := 613) hx hb dL_law_598 (by decide) (fun c_43 => ?_) (fun c_43 => ?_)
        · exact absurd c_43 (by decide)
        · skip
          refine lv_aload_n hx hb dL_law_601 rfl (lv_at hl 5 rfl) ?_
          refine lv_iconst (v := 0) hx hb dL_law_602 (by decide) ?_
          refine va_lald hx hb hK hP 37 2 rfl rfl (vp_in_nI (n := 0) (by omega) (by decide)) dL_law_603 ?_
          refine zz_topl (y := (vp_updL fz 0 ((nI nc).toInt64)) 0) (rfl) ?_
          refine lv_iload hx hb dL_law_604 (lv_at hl 0 rfl) ?_
          refine lv_i2l (v := (nI nc).toInt64) hx hb dL_law_606 rfl ?_
          refine W.lcmp hx hb dL_law_607 ?_
          refine lv_if_eq (tgt := 613) hx hb dL_law_608 (by decide) (fun c_44 => ?_) (fun c_44 => ?_)
          · skip
            skip
            refine lv_goto (tgt := 1475) hx hb dL_law_613 (by decide) ?_
            refine W.widen (k := k0 + 100) (n := n0 + 3000) (by omega) (by omega) ?_
            exact K nk pa fa (nc + 1) (upd fo nc 3) (upd th nc 0) (upd tg nc (-1)) nt tb te tk tt nu ub ue uk ut re ro fu bl go ra rc ex tc es wy 0 tb4 te4 tk4 tt4 ab re4 go4 be (vp_updL fz 0 ((nI nc).toInt64)) T up _ _ _ (by first | assumption | omega) (by first | assumption | omega) (by first | assumption | omega) hP hD hS (lv_sub hl [2, 3, 4, 5, 6] rfl)
          · exact absurd ((lg_cmp_eq _ _).mpr (by first | rfl | exact (bL_t hz9).symm | exact (bL_f hz9).symm)) c_44
      · exact absurd c_42 (by decide)
  · skip
    replace h_15 := h_15.symm
    subst h_15
    replace h_17 := h_17.symm
    subst h_17
    replace h_18 := h_18.symm
    subst h_18
    replace h_19 := h_19.symm
    subst h_19
    replace h_20 := h_20.symm
    subst h_20
    replace h_21 := h_21.symm
    subst h_21
    have hP : va_P (dC, dI) vwCl ((w3 a cI cZ nk pa fa nc fo th tg nt tb te tk tt nu ub ue uk ut re ro fu bl go ra rc ex tc es wy) ++ ((w4 b cI cZ tw nk pa nc fo th tg nt tb4 te4 tk4 tt4 ex tc es wy ab re4 go4 be) ++ ([(ou, .inl (cJ, 1, .inr (.inl fz)))]))) H := hP
    have hD : va_D A ((w3 a cI cZ nk pa fa nc fo th tg nt tb te tk tt nu ub ue uk ut re ro fu bl go ra rc ex tc es wy) ++ ((w4 b cI cZ tw nk pa nc fo th tg nt tb4 te4 tk4 tt4 ex tc es wy ab re4 go4 be) ++ ([(ou, .inl (cJ, 1, .inr (.inl fz)))]))) := hD
    refine lv_istore (lv' := [(5, .int 1), (0, .ref sb), (1, .ref (a 0)), (2, .ref (b 0)), (3, .ref ou), (4, .int (nI i))]) hx hb dL_law_577 hl (by decide) rfl (fun ls hl => ?_)
    refine lv_aload_n hx hb dL_law_579 rfl (lv_at hl 3 rfl) ?_
    have hPc := hP.sub (ws' := w4 b cI cZ tw nk pa nc fo th tg nt tb4 te4 tk4 tt4 ex tc es wy ab re4 go4 be) [24, 25, 26, 27, 28, 29, 30, 31, 32, 33, 34, 35, 36] rfl
    have hDc := hD.sub (ws' := w4 b cI cZ tw nk pa nc fo th tg nt tb4 te4 tk4 tt4 ex tc es wy ab re4 go4 be) [24, 25, 26, 27, 28, 29, 30, 31, 32, 33, 34, 35, 36] (by decide) rfl
    have hFc := va_free (wc := w4 b cI cZ tw nk pa nc fo th tg nt tb4 te4 tk4 tt4 ex tc es wy ab re4 go4 be) hD hS hA [24, 25, 26, 27, 28, 29, 30, 31, 32, 33, 34, 35, 36] rfl
    refine va_calli (va_runV (As := []) (rest := []) ⟨hx, hb, hml, hown, hts⟩ (c_X4_end l dC dI cI cZ cJ b tw nk pa nc fo th tg nt tb4 te4 tk4 tt4 ex tc es wy ab re4 go4 be T up H.size (by first | assumption | omega) (by first | assumption | omega)) (cwV 0 hts gL_law_X4_end rfl rfl rfl (by decide +kernel) ⟨Nat.le_of_ble_eq_true rfl, Nat.le_of_ble_eq_true rfl⟩) ⟨zWr_blind, va_recv hK hPc (ci := 4) (q0 := 0) rfl rfl, zWr_at hPc hK hn (hDc.weaken (fun _ _ _ _ => trivial))⟩ rfl rfl hl.1 rfl (lv_room (Nat.le_of_ble_eq_true rfl)) dL_law_580 ⟨by show _ ≤ 601024; omega, by show _ ≤ 7293034; omega⟩) hS (fun q _ h => hFc q h) hFc (fun r_45 u_9 t H1 locs ht hvm hw hB hz1 hk1 hS => ?_)
    obtain ⟨tw9_45, nc9_46, fo9_47, th9_48, tg9_49⟩ := u_9
    dsimp only at hw hB
    obtain ⟨hP1, -, hD1⟩ := hB
    rw [ht] at hP1
    obtain ⟨hP, hD⟩ := va_join (wr := (w3 a cI cZ nk pa fa nc fo th tg nt tb te tk tt nu ub ue uk ut re ro fu bl go ra rc ex tc es wy) ++ ([(ou, .inl (cJ, 1, .inr (.inl fz)))])) (w1 := w4 b cI cZ tw9_45 nk pa nc9_46 fo9_47 th9_48 tg9_49 nt tb4 te4 tk4 tt4 ex tc es wy ab re4 go4 be) hP hD [24, 25, 26, 27, 28, 29, 30, 31, 32, 33, 34, 35, 36] [0, 1, 2, 3, 4, 5, 6, 7, 8, 9, 10, 11, 12, 13, 14, 15, 16, 17, 18, 19, 20, 21, 22, 23, 37] rfl rfl (by decide) (by decide) hk1 hFc hP1 hD1
    generalize H1 = H at hP hS ⊢
    have hP := hP.sub (ws' := (w3 a cI cZ nk pa fa nc fo th tg nt tb te tk tt nu ub ue uk ut re ro fu bl go ra rc ex tc es wy) ++ ((w4 b cI cZ tw9_45 nk pa nc9_46 fo9_47 th9_48 tg9_49 nt tb4 te4 tk4 tt4 ex tc es wy ab re4 go4 be) ++ ([(ou, .inl (cJ, 1, .inr (.inl fz)))]))) [0, 1, 2, 3, 4, 5, 6, 7, 8, 9, 10, 11, 12, 13, 14, 15, 16, 17, 18, 19, 20, 21, 22, 23, 25, 26, 27, 28, 29, 30, 31, 32, 33, 34, 35, 36, 37, 24] rfl
    have hD := hD.sub (ws' := (w3 a cI cZ nk pa fa nc fo th tg nt tb te tk tt nu ub ue uk ut re ro fu bl go ra rc ex tc es wy) ++ ((w4 b cI cZ tw9_45 nk pa nc9_46 fo9_47 th9_48 tg9_49 nt tb4 te4 tk4 tt4 ex tc es wy ab re4 go4 be) ++ ([(ou, .inl (cJ, 1, .inr (.inl fz)))]))) [0, 1, 2, 3, 4, 5, 6, 7, 8, 9, 10, 11, 12, 13, 14, 15, 16, 17, 18, 19, 20, 21, 22, 23, 25, 26, 27, 28, 29, 30, 31, 32, 33, 34, 35, 36, 37, 24] (by decide) rfl
    have hP : va_P (dC, dI) vwCl ((w3 a cI cZ nk pa fa nc fo th tg nt tb te tk tt nu ub ue uk ut re ro fu bl go ra rc ex tc es wy) ++ ((w4 b cI cZ tw9_45 nk pa nc9_46 fo9_47 th9_48 tg9_49 nt tb4 te4 tk4 tt4 ex tc es wy ab re4 go4 be) ++ ([(ou, .inl (cJ, 1, .inr (.inl fz)))]))) H := hP
    have hD : va_D A ((w3 a cI cZ nk pa fa nc fo th tg nt tb te tk tt nu ub ue uk ut re ro fu bl go ra rc ex tc es wy) ++ ((w4 b cI cZ tw9_45 nk pa nc9_46 fo9_47 th9_48 tg9_49 nt tb4 te4 tk4 tt4 ex tc es wy ab re4 go4 be) ++ ([(ou, .inl (cJ, 1, .inr (.inl fz)))]))) := hD
    rcases hw with ⟨h_51, h_52, h_53, h_54, h_55, h_56⟩ | ⟨h_57, h_58, h_59, h_60, h_61, h_62, h_63⟩
    · skip
      replace h_52 := h_52.symm
      subst h_52
      replace h_53 := h_53.symm
      subst h_53
      replace h_54 := h_54.symm
      subst h_54
      replace h_55 := h_55.symm
      subst h_55
      replace h_56 := h_56.symm
      subst h_56
      have hP : va_P (dC, dI) vwCl ((w3 a cI cZ nk pa fa nc fo th tg nt tb te tk tt nu ub ue uk ut re ro fu bl go ra rc ex tc es wy) ++ ((w4 b cI cZ 1 nk pa nc fo th tg nt tb4 te4 tk4 tt4 ex tc es wy ab re4 go4 be) ++ ([(ou, .inl (cJ, 1, .inr (.inl fz)))]))) H := hP
      have hD : va_D A ((w3 a cI cZ nk pa fa nc fo th tg nt tb te tk tt nu ub ue uk ut re ro fu bl go ra rc ex tc es wy) ++ ((w4 b cI cZ 1 nk pa nc fo th tg nt tb4 te4 tk4 tt4 ex tc es wy ab re4 go4 be) ++ ([(ou, .inl (cJ, 1, .inr (.inl fz)))]))) := hD
      refine lv_istore (lv' := [(6, .int r_45), (5, .int 1), (0, .ref sb), (1, .ref (a 0)), (2, .ref (b 0)), (3, .ref ou), (4, .int (nI i))]) hx hb dL_law_583 hl (by decide) rfl (fun ls hl => ?_)
      refine lv_aload_n hx hb dL_law_585 rfl (lv_at hl 4 rfl) ?_
      have hPc := hP.sub (ws' := w4 b cI cZ 1 nk pa nc fo th tg nt tb4 te4 tk4 tt4 ex tc es wy ab re4 go4 be) [24, 25, 26, 27, 28, 29, 30, 31, 32, 33, 34, 35, 36] rfl
      refine va_calli (va_runV (As := []) (rest := []) ⟨hx, hb, hml, hown, hts⟩ (c_X4_thrown l dC dI cI cZ cJ b 1 nk pa nc fo th tg nt tb4 te4 tk4 tt4 ex tc es wy ab re4 go4 be ) (cwV 0 hts gL_law_X4_thrown rfl rfl rfl (by decide +kernel) ⟨Nat.le_of_ble_eq_true rfl, Nat.le_of_ble_eq_true rfl⟩) ⟨zPre_blind, va_recv hK hPc (ci := 4) (q0 := 0) rfl rfl, zPre_at hPc hK hn⟩ rfl rfl hl.1 rfl (lv_room (Nat.le_of_ble_eq_true rfl)) dL_law_586 ⟨by show _ ≤ 601024; omega, by show _ ≤ 7293034; omega⟩) hS (fun _ _ h => h.elim) (fun _ h => h.elim) (fun r_64 u_9 t H locs ht hvm hw hB hz1 hk1 hS => ?_)
      have hP := zkeep hP hk1
      subst hw
      refine lv_iload hx hb dL_law_589 (lv_at hl 1 rfl) ?_
      refine lv_icmp_eq (tgt := 596) hx hb dL_law_591 (by decide) (fun c_65 => ?_) (fun c_65 => ?_)
      · skip
        refine lv_iload hx hb dL_law_596 (lv_at hl 1 rfl) ?_
        refine lv_if_ne (tgt := 613) hx hb dL_law_598 (by decide) (fun c_66 => ?_) (fun c_66 => ?_)
        · skip
          refine lv_goto (tgt := 1475) hx hb dL_law_613 (by decide) ?_
          refine W.widen (k := k0 + 100) (n := n0 + 3000) (by omega) (by omega) ?_
          exact K nk pa fa nc fo th tg nt tb te tk tt nu ub ue uk ut re ro fu bl go ra rc ex tc es wy 1 tb4 te4 tk4 tt4 ab re4 go4 be fz T up _ _ _ (by first | assumption | omega) (by first | assumption | omega) (by first | assumption | omega) hP hD hS (lv_sub hl [2, 3, 4, 5, 6] rfl)
        · exact absurd c_66 (by decide)
      · exact absurd c_65 (by decide)
    · skip
      omega

set_option maxHeartbeats 4000000 in
set_option maxRecDepth 100000 in
theorem lk_0 {p : Program} {e : Env} {s : State} {m : MethodId} {below : List Frame} {meth : Method} {c : Code} {Q : State → Prop} (l : Launch) {sb L : Nat} {xs : Nat → Int32} (dC : Nat → ClassId) (dI : Nat → Nat → Nat) (cI cZ cJ : ClassId) (a b : Nat → Nat) (ou i k0 n0 : Nat) (hF0 : lwF p l s m c sb L xs dC dI cI cZ cJ) (hi : i + 5 ≤ L) (hk0 : k0 + 100 ≤ 601024) (hn0 : n0 + 3000 ≤ 7293034) (nk : Nat) (pa : Nat → Int32) (fa : Nat → Int32) (nc : Nat) (fo : Nat → Int32) (th : Nat → Int32) (tg : Nat → Int32) (nt : Nat) (tb : Nat → Int32) (te : Nat → Int32) (tk : Nat → Int32) (tt : Nat → Int32) (nu : Nat) (ub : Nat → Int32) (ue : Nat → Int32) (uk : Nat → Int32) (ut : Nat → Int32) (re : Nat → Int32) (ro : Nat → Int32) (fu : Nat → Int32) (bl : Nat → Int32) (go : Nat → Int32) (ra : Nat → Int32) (rc : Nat) (ex : Int32) (tc : Int32) (es : Int32) (wy : Int64) (tw : Int32) (tb4 : Nat → Int32) (te4 : Nat → Int32) (tk4 : Nat → Int32) (tt4 : Nat → Int32) (ab : Nat → Int32) (re4 : Nat → Int32) (go4 : Nat → Int32) (be : Nat → Int32) (fz : Nat → Int64) (T : Nat → Nat → Nat) (up : Nat → Nat → Bool) (hg : g3 nk fa up nt tb te tk tt T) (hg4 : g4 nk ab up nt tb4 te4 tk4 tt4 T) (hc : okC nk nc fo th tg) (H : Heap) (locs : List Loc) (ls : Array Slot) (hP : va_P (dC, dI) vwCl ((w3 a cI cZ nk pa fa nc fo th tg nt tb te tk tt nu ub ue uk ut re ro fu bl go ra rc ex tc es wy) ++ ((w4 b cI cZ tw nk pa nc fo th tg nt tb4 te4 tk4 tt4 ex tc es wy ab re4 go4 be) ++ ([(ou, .inl (cJ, 1, .inr (.inl fz)))]))) H) (hD : va_D (fun q => s.heap.size ≤ q) ((w3 a cI cZ nk pa fa nc fo th tg nt tb te tk tt nu ub ue uk ut re ro fu bl go ra rc ex tc es wy) ++ ((w4 b cI cZ tw nk pa nc fo th tg nt tb4 te4 tk4 tt4 ex tc es wy ab re4 go4 be) ++ ([(ou, .inl (cJ, 1, .inr (.inl fz)))])))) (hS : va_S (fun q => s.heap.size ≤ q) s.heap H locs) (hl : lv_has ls 9 [(0, .ref sb), (1, .ref (a 0)), (2, .ref (b 0)), (3, .ref ou), (4, .int (nI i))]) (K : ∀ (nk : Nat) (pa : Nat → Int32) (fa : Nat → Int32) (nc : Nat) (fo : Nat → Int32) (th : Nat → Int32) (tg : Nat → Int32) (nt : Nat) (tb : Nat → Int32) (te : Nat → Int32) (tk : Nat → Int32) (tt : Nat → Int32) (nu : Nat) (ub : Nat → Int32) (ue : Nat → Int32) (uk : Nat → Int32) (ut : Nat → Int32) (re : Nat → Int32) (ro : Nat → Int32) (fu : Nat → Int32) (bl : Nat → Int32) (go : Nat → Int32) (ra : Nat → Int32) (rc : Nat) (ex : Int32) (tc : Int32) (es : Int32) (wy : Int64) (tw : Int32) (tb4 : Nat → Int32) (te4 : Nat → Int32) (tk4 : Nat → Int32) (tt4 : Nat → Int32) (ab : Nat → Int32) (re4 : Nat → Int32) (go4 : Nat → Int32) (be : Nat → Int32) (fz : Nat → Int64) (T : Nat → Nat → Nat) (up : Nat → Nat → Bool) (H : Heap) (locs : List Loc) (ls : Array Slot), g3 nk fa up nt tb te tk tt T → g4 nk ab up nt tb4 te4 tk4 tt4 T → okC nk nc fo th tg → va_P (dC, dI) vwCl ((w3 a cI cZ nk pa fa nc fo th tg nt tb te tk tt nu ub ue uk ut re ro fu bl go ra rc ex tc es wy) ++ ((w4 b cI cZ tw nk pa nc fo th tg nt tb4 te4 tk4 tt4 ex tc es wy ab re4 go4 be) ++ ([(ou, .inl (cJ, 1, .inr (.inl fz)))]))) H → va_D (fun q => s.heap.size ≤ q) ((w3 a cI cZ nk pa fa nc fo th tg nt tb te tk tt nu ub ue uk ut re ro fu bl go ra rc ex tc es wy) ++ ((w4 b cI cZ tw nk pa nc fo th tg nt tb4 te4 tk4 tt4 ex tc es wy ab re4 go4 be) ++ ([(ou, .inl (cJ, 1, .inr (.inl fz)))]))) → va_S (fun q => s.heap.size ≤ q) s.heap H locs → lv_has ls 9 [(0, .ref sb), (1, .ref (a 0)), (2, .ref (b 0)), (3, .ref ou), (4, .int (nI i))] → W p l e room_1 s m #[Value.ref sb] below meth c H locs (k0 + 100) (n0 + 3000) Q (F0 m 1475 ls [])) : W p l e room_1 s m #[Value.ref sb] below meth c H locs k0 n0 Q (F0 m 180 ls []) := by
  obtain ⟨hx, hb, hml, hown, hts, hX, hbl, hL, hK, hn, hzt, hzu, hzc, hlt⟩ := id hF0
  obtain ⟨A, hAe⟩ : ∃ A : Nat → Prop, A = fun q => s.heap.size ≤ q := ⟨_, rfl⟩
  have hbA : ¬ A sb := by rw [hAe]; exact Nat.not_le.mpr hbl
  have hA : ∀ q : Nat, s.heap.size ≤ q → A q := fun q h => by rw [hAe]; exact h
  rw [← hAe] at hD hS hzu K
  refine lv_aload_n hx hb dL_law_180 rfl (lv_at hl 1 rfl) ?_
  refine lv_aload_n hx hb dL_law_181 rfl (lv_at hl 0 rfl) ?_
  refine lv_iload hx hb dL_law_182 (lv_at hl 4 rfl) ?_
  refine lv_iconst (v := 1) hx hb dL_law_184 (by decide) ?_
  refine lv_iadd hx hb dL_law_185 ?_
  refine zz_top (y := nI (i + 1)) (nI_add _ _) ?_
  refine va_sld hx hb hX hbl hbA hS (vp_in_nI (n := i + 1) (by omega) (by omega)) dL_law_186 ?_
  refine zz_top (y := xs (i + 1)) (congrArg _ (nI_clamp (by omega))) ?_
  refine lv_aload_n hx hb dL_law_187 rfl (lv_at hl 3 rfl) ?_
  have hPc := hP.sub (ws' := (w3 a cI cZ nk pa fa nc fo th tg nt tb te tk tt nu ub ue uk ut re ro fu bl go ra rc ex tc es wy) ++ ([(ou, .inl (cJ, 1, .inr (.inl fz)))])) [0, 1, 2, 3, 4, 5, 6, 7, 8, 9, 10, 11, 12, 13, 14, 15, 16, 17, 18, 19, 20, 21, 22, 23, 37] rfl
  have hDc := hD.sub (ws' := (w3 a cI cZ nk pa fa nc fo th tg nt tb te tk tt nu ub ue uk ut re ro fu bl go ra rc ex tc es wy) ++ ([(ou, .inl (cJ, 1, .inr (.inl fz)))])) [0, 1, 2, 3, 4, 5, 6, 7, 8, 9, 10, 11, 12, 13, 14, 15, 16, 17, 18, 19, 20, 21, 22, 23, 37] (by decide) rfl
  have hFc := va_free (wc := (w3 a cI cZ nk pa fa nc fo th tg nt tb te tk tt nu ub ue uk ut re ro fu bl go ra rc ex tc es wy) ++ ([(ou, .inl (cJ, 1, .inr (.inl fz)))])) hD hS hA [0, 1, 2, 3, 4, 5, 6, 7, 8, 9, 10, 11, 12, 13, 14, 15, 16, 17, 18, 19, 20, 21, 22, 23, 37] rfl
  refine va_calli (vx_runSW (As := [.ref (a 0), .int (xs (i + 1)), .ref ou]) (rest := []) ⟨hx, hb, hml, hown, hts⟩ (c_L_addKind l dC dI cI cZ cJ a nk pa fa nc fo th tg nt tb te tk tt nu ub ue uk ut re ro fu bl go ra rc ex tc es wy (xs (i + 1)) T up ou fz H.size hlt (by first | assumption | omega) (by first | assumption | omega)) (vx_cwSW 3 hts gL_law_L_addKind rfl rfl rfl (by decide +kernel) ⟨Nat.le_of_ble_eq_true rfl, Nat.le_of_ble_eq_true rfl⟩) ⟨zTl_blind, zTl_at hPc hK hn (hDc.weaken (fun _ _ _ _ => trivial)) hzt hzu hS hFc hzc⟩ rfl rfl hl.1 rfl (lv_room (Nat.le_of_ble_eq_true rfl)) dL_law_188 ⟨by show _ ≤ 601024; omega, by show _ ≤ 7293034; omega⟩) hS (fun q _ h => hFc q h) hFc (fun r_1 u_9 t H1 locs ht hvm hw hB hz1 hk1 hS => ?_)
  obtain ⟨v_k_1, v_kp_2, v_kf_3, fz9_4⟩ := u_9
  dsimp only at hw hB
  obtain ⟨hP1, -, hD1⟩ := hB
  rw [ht] at hP1
  obtain ⟨hP, hD⟩ := va_join (wr := w4 b cI cZ tw nk pa nc fo th tg nt tb4 te4 tk4 tt4 ex tc es wy ab re4 go4 be) (w1 := (w3 a cI cZ v_k_1 v_kp_2 v_kf_3 nc fo th tg nt tb te tk tt nu ub ue uk ut re ro fu bl go ra rc ex tc es wy) ++ ([(ou, .inl (cJ, 1, .inr (.inl fz9_4)))])) hP hD [0, 1, 2, 3, 4, 5, 6, 7, 8, 9, 10, 11, 12, 13, 14, 15, 16, 17, 18, 19, 20, 21, 22, 23, 37] [24, 25, 26, 27, 28, 29, 30, 31, 32, 33, 34, 35, 36] rfl rfl (by decide) (by decide) hk1 hFc hP1 hD1
  generalize H1 = H at hP hS ⊢
  have hP := hP.sub (ws' := (w3 a cI cZ v_k_1 v_kp_2 v_kf_3 nc fo th tg nt tb te tk tt nu ub ue uk ut re ro fu bl go ra rc ex tc es wy) ++ ((w4 b cI cZ tw nk pa nc fo th tg nt tb4 te4 tk4 tt4 ex tc es wy ab re4 go4 be) ++ ([(ou, .inl (cJ, 1, .inr (.inl fz9_4)))]))) [13, 14, 15, 16, 17, 18, 19, 20, 21, 22, 23, 24, 25, 26, 27, 28, 29, 30, 31, 32, 33, 34, 35, 36, 0, 1, 2, 3, 4, 5, 6, 7, 8, 9, 10, 11, 12, 37] rfl
  have hD := hD.sub (ws' := (w3 a cI cZ v_k_1 v_kp_2 v_kf_3 nc fo th tg nt tb te tk tt nu ub ue uk ut re ro fu bl go ra rc ex tc es wy) ++ ((w4 b cI cZ tw nk pa nc fo th tg nt tb4 te4 tk4 tt4 ex tc es wy ab re4 go4 be) ++ ([(ou, .inl (cJ, 1, .inr (.inl fz9_4)))]))) [13, 14, 15, 16, 17, 18, 19, 20, 21, 22, 23, 24, 25, 26, 27, 28, 29, 30, 31, 32, 33, 34, 35, 36, 0, 1, 2, 3, 4, 5, 6, 7, 8, 9, 10, 11, 12, 37] (by decide) rfl
  have hP : va_P (dC, dI) vwCl ((w3 a cI cZ v_k_1 v_kp_2 v_kf_3 nc fo th tg nt tb te tk tt nu ub ue uk ut re ro fu bl go ra rc ex tc es wy) ++ ((w4 b cI cZ tw nk pa nc fo th tg nt tb4 te4 tk4 tt4 ex tc es wy ab re4 go4 be) ++ ([(ou, .inl (cJ, 1, .inr (.inl fz9_4)))]))) H := hP
  have hD : va_D A ((w3 a cI cZ v_k_1 v_kp_2 v_kf_3 nc fo th tg nt tb te tk tt nu ub ue uk ut re ro fu bl go ra rc ex tc es wy) ++ ((w4 b cI cZ tw nk pa nc fo th tg nt tb4 te4 tk4 tt4 ex tc es wy ab re4 go4 be) ++ ([(ou, .inl (cJ, 1, .inr (.inl fz9_4)))]))) := hD
  refine W.widen (k := k0 + 2) (n := n0 + 12) (by omega) (by omega) ?_
  rcases hw with ⟨x_6, ⟨h_7, h_8, h_9, h_10, h_11, ⟨⟨h_12, h_13⟩, h_14, h_15⟩⟩⟩ | ⟨h_16, h_17, h_18, h_19, h_20, h_21⟩ | ⟨h_22, ⟨h_23, h_24⟩, h_25, h_26, h_27, h_28⟩
  · skip
    replace h_7 := h_7.symm
    subst h_7
    replace h_8 := h_8.symm
    subst h_8
    replace h_9 := h_9.symm
    subst h_9
    replace h_10 := h_10.symm
    subst h_10
    replace h_11 := h_11.symm
    subst h_11
    have hP : va_P (dC, dI) vwCl ((w3 a cI cZ (nk + 1) (upd pa nk (xs (i + 1))) x_6 nc fo th tg nt tb te tk tt nu ub ue uk ut re ro fu bl go ra rc ex tc es wy) ++ ((w4 b cI cZ tw nk pa nc fo th tg nt tb4 te4 tk4 tt4 ex tc es wy ab re4 go4 be) ++ ([(ou, .inl (cJ, 1, .inr (.inl (vp_updL fz 0 ((nI nk).toInt64)))))]))) H := hP
    have hD : va_D A ((w3 a cI cZ (nk + 1) (upd pa nk (xs (i + 1))) x_6 nc fo th tg nt tb te tk tt nu ub ue uk ut re ro fu bl go ra rc ex tc es wy) ++ ((w4 b cI cZ tw nk pa nc fo th tg nt tb4 te4 tk4 tt4 ex tc es wy ab re4 go4 be) ++ ([(ou, .inl (cJ, 1, .inr (.inl (vp_updL fz 0 ((nI nk).toInt64)))))]))) := hD
    refine lv_istore (lv' := [(5, .int 0), (0, .ref sb), (1, .ref (a 0)), (2, .ref (b 0)), (3, .ref ou), (4, .int (nI i))]) hx hb dL_law_191 hl (by decide) rfl (fun ls hl => ?_)
    refine lv_aload_n hx hb dL_law_193 rfl (lv_at hl 3 rfl) ?_
    refine lv_aload_n hx hb dL_law_194 rfl (lv_at hl 1 rfl) ?_
    refine lv_iload hx hb dL_law_195 (lv_at hl 5 rfl) ?_
    refine lv_iconst (v := 1) hx hb dL_law_197 (by decide) ?_
    refine lv_iadd hx hb dL_law_198 ?_
    refine zz_top (y := nI (i + 1)) (nI_add _ _) ?_
    refine va_sld hx hb hX hbl hbA hS (vp_in_nI (n := i + 1) (by omega) (by omega)) dL_law_199 ?_
    refine zz_top (y := xs (i + 1)) (congrArg _ (nI_clamp (by omega))) ?_
    have hPc := hP.sub (ws' := w4 b cI cZ tw nk pa nc fo th tg nt tb4 te4 tk4 tt4 ex tc es wy ab re4 go4 be) [24, 25, 26, 27, 28, 29, 30, 31, 32, 33, 34, 35, 36] rfl
    have hDc := hD.sub (ws' := w4 b cI cZ tw nk pa nc fo th tg nt tb4 te4 tk4 tt4 ex tc es wy ab re4 go4 be) [24, 25, 26, 27, 28, 29, 30, 31, 32, 33, 34, 35, 36] (by decide) rfl
    have hFc := va_free (wc := w4 b cI cZ tw nk pa nc fo th tg nt tb4 te4 tk4 tt4 ex tc es wy ab re4 go4 be) hD hS hA [24, 25, 26, 27, 28, 29, 30, 31, 32, 33, 34, 35, 36] rfl
    refine va_calli (va_runV (As := [.int (xs (i + 1))]) (rest := []) ⟨hx, hb, hml, hown, hts⟩ (c_X4_addKind l dC dI cI cZ cJ b tw nk pa nc fo th tg nt tb4 te4 tk4 tt4 ex tc es wy ab re4 go4 be (xs (i + 1)) T up H.size (by first | assumption | omega) (by first | assumption | omega)) (cwV 1 hts gL_law_X4_addKind rfl rfl rfl (by decide +kernel) ⟨Nat.le_of_ble_eq_true rfl, Nat.le_of_ble_eq_true rfl⟩) ⟨zWr_blind, va_recv hK hPc (ci := 4) (q0 := 0) rfl rfl, zWr_at hPc hK hn (hDc.weaken (fun _ _ _ _ => trivial))⟩ rfl rfl hl.1 rfl (lv_room (Nat.le_of_ble_eq_true rfl)) dL_law_200 ⟨by show _ ≤ 601024; omega, by show _ ≤ 7293034; omega⟩) hS (fun q _ h => hFc q h) hFc (fun r_29 u_9 t H1 locs ht hvm hw hB hz1 hk1 hS => ?_)
    obtain ⟨tw9_29, nk9_30, pa9_31, ab9_32⟩ := u_9
    dsimp only at hw hB
    obtain ⟨hP1, -, hD1⟩ := hB
    rw [ht] at hP1
    obtain ⟨hP, hD⟩ := va_join (wr := (w3 a cI cZ (nk + 1) (upd pa nk (xs (i + 1))) x_6 nc fo th tg nt tb te tk tt nu ub ue uk ut re ro fu bl go ra rc ex tc es wy) ++ ([(ou, .inl (cJ, 1, .inr (.inl (vp_updL fz 0 ((nI nk).toInt64)))))])) (w1 := w4 b cI cZ tw9_29 nk9_30 pa9_31 nc fo th tg nt tb4 te4 tk4 tt4 ex tc es wy ab9_32 re4 go4 be) hP hD [24, 25, 26, 27, 28, 29, 30, 31, 32, 33, 34, 35, 36] [0, 1, 2, 3, 4, 5, 6, 7, 8, 9, 10, 11, 12, 13, 14, 15, 16, 17, 18, 19, 20, 21, 22, 23, 37] rfl rfl (by decide) (by decide) hk1 hFc hP1 hD1
    generalize H1 = H at hP hS ⊢
    have hP := hP.sub (ws' := (w3 a cI cZ (nk + 1) (upd pa nk (xs (i + 1))) x_6 nc fo th tg nt tb te tk tt nu ub ue uk ut re ro fu bl go ra rc ex tc es wy) ++ ((w4 b cI cZ tw9_29 nk9_30 pa9_31 nc fo th tg nt tb4 te4 tk4 tt4 ex tc es wy ab9_32 re4 go4 be) ++ ([(ou, .inl (cJ, 1, .inr (.inl (vp_updL fz 0 ((nI nk).toInt64)))))]))) [0, 1, 2, 3, 4, 5, 6, 7, 8, 9, 10, 11, 12, 13, 14, 15, 16, 17, 18, 19, 20, 21, 22, 23, 25, 26, 27, 28, 29, 30, 31, 32, 33, 34, 35, 36, 37, 24] rfl
    have hD := hD.sub (ws' := (w3 a cI cZ (nk + 1) (upd pa nk (xs (i + 1))) x_6 nc fo th tg nt tb te tk tt nu ub ue uk ut re ro fu bl go ra rc ex tc es wy) ++ ((w4 b cI cZ tw9_29 nk9_30 pa9_31 nc fo th tg nt tb4 te4 tk4 tt4 ex tc es wy ab9_32 re4 go4 be) ++ ([(ou, .inl (cJ, 1, .inr (.inl (vp_updL fz 0 ((nI nk).toInt64)))))]))) [0, 1, 2, 3, 4, 5, 6, 7, 8, 9, 10, 11, 12, 13, 14, 15, 16, 17, 18, 19, 20, 21, 22, 23, 25, 26, 27, 28, 29, 30, 31, 32, 33, 34, 35, 36, 37, 24] (by decide) rfl
    have hP : va_P (dC, dI) vwCl ((w3 a cI cZ (nk + 1) (upd pa nk (xs (i + 1))) x_6 nc fo th tg nt tb te tk tt nu ub ue uk ut re ro fu bl go ra rc ex tc es wy) ++ ((w4 b cI cZ tw9_29 nk9_30 pa9_31 nc fo th tg nt tb4 te4 tk4 tt4 ex tc es wy ab9_32 re4 go4 be) ++ ([(ou, .inl (cJ, 1, .inr (.inl (vp_updL fz 0 ((nI nk).toInt64)))))]))) H := hP
    have hD : va_D A ((w3 a cI cZ (nk + 1) (upd pa nk (xs (i + 1))) x_6 nc fo th tg nt tb te tk tt nu ub ue uk ut re ro fu bl go ra rc ex tc es wy) ++ ((w4 b cI cZ tw9_29 nk9_30 pa9_31 nc fo th tg nt tb4 te4 tk4 tt4 ex tc es wy ab9_32 re4 go4 be) ++ ([(ou, .inl (cJ, 1, .inr (.inl (vp_updL fz 0 ((nI nk).toInt64)))))]))) := hD
    rcases hw with ⟨h_34, h_35, h_36, h_37, h_38⟩ | ⟨h_39, h_40, h_41, h_42, h_43, h_44⟩ | ⟨h_45, h_46, h_47, h_48, h_49, h_50, h_51, h_52⟩
    · skip
      exact absurd (h_12.symm.trans h_34) (by decide)
    · skip
      omega
    · skip
      replace h_47 := h_47.symm
      subst h_47
      replace h_48 := h_48.symm
      subst h_48
      replace h_49 := h_49.symm
      subst h_49
      replace h_50 := h_50.symm
      subst h_50
      have hP : va_P (dC, dI) vwCl ((w3 a cI cZ (nk + 1) (upd pa nk (xs (i + 1))) x_6 nc fo th tg nt tb te tk tt nu ub ue uk ut re ro fu bl go ra rc ex tc es wy) ++ ((w4 b cI cZ 0 (nk + 1) (upd pa nk (xs (i + 1))) nc fo th tg nt tb4 te4 tk4 tt4 ex tc es wy ab9_32 re4 go4 be) ++ ([(ou, .inl (cJ, 1, .inr (.inl (vp_updL fz 0 ((nI nk).toInt64)))))]))) H := hP
      have hD : va_D A ((w3 a cI cZ (nk + 1) (upd pa nk (xs (i + 1))) x_6 nc fo th tg nt tb te tk tt nu ub ue uk ut re ro fu bl go ra rc ex tc es wy) ++ ((w4 b cI cZ 0 (nk + 1) (upd pa nk (xs (i + 1))) nc fo th tg nt tb4 te4 tk4 tt4 ex tc es wy ab9_32 re4 go4 be) ++ ([(ou, .inl (cJ, 1, .inr (.inl (vp_updL fz 0 ((nI nk).toInt64)))))]))) := hD
      refine lv_istore (lv' := [(6, .int (nI nk)), (5, .int 0), (0, .ref sb), (1, .ref (a 0)), (2, .ref (b 0)), (3, .ref ou), (4, .int (nI i))]) hx hb dL_law_203 hl (by decide) rfl (fun ls hl => ?_)
      refine lv_aload_n hx hb dL_law_205 rfl (lv_at hl 4 rfl) ?_
      have hPc := hP.sub (ws' := w4 b cI cZ 0 (nk + 1) (upd pa nk (xs (i + 1))) nc fo th tg nt tb4 te4 tk4 tt4 ex tc es wy ab9_32 re4 go4 be) [24, 25, 26, 27, 28, 29, 30, 31, 32, 33, 34, 35, 36] rfl
      refine va_calli (va_runV (As := []) (rest := []) ⟨hx, hb, hml, hown, hts⟩ (c_X4_thrown l dC dI cI cZ cJ b 0 (nk + 1) (upd pa nk (xs (i + 1))) nc fo th tg nt tb4 te4 tk4 tt4 ex tc es wy ab9_32 re4 go4 be ) (cwV 0 hts gL_law_X4_thrown rfl rfl rfl (by decide +kernel) ⟨Nat.le_of_ble_eq_true rfl, Nat.le_of_ble_eq_true rfl⟩) ⟨zPre_blind, va_recv hK hPc (ci := 4) (q0 := 0) rfl rfl, zPre_at hPc hK hn⟩ rfl rfl hl.1 rfl (lv_room (Nat.le_of_ble_eq_true rfl)) dL_law_206 ⟨by show _ ≤ 601024; omega, by show _ ≤ 7293034; omega⟩) hS (fun _ _ h => h.elim) (fun _ h => h.elim) (fun r_53 u_9 t H locs ht hvm hw hB hz1 hk1 hS => ?_)
      have hP := zkeep hP hk1
      subst hw
      refine lv_iload hx hb dL_law_209 (lv_at hl 1 rfl) ?_
      refine lv_icmp_eq (tgt := 216) hx hb dL_law_211 (by decide) (fun c_54 => ?_) (fun c_54 => ?_)
      · skip
        refine lv_iload hx hb dL_law_216 (lv_at hl 1 rfl) ?_
        refine lv_if_ne (tgt := 233) hx hb dL_law_218 (by decide) (fun c_55 => ?_) (fun c_55 => ?_)
        · exact absurd c_55 (by decide)
        · skip
          refine lv_aload_n hx hb dL_law_221 rfl (lv_at hl 5 rfl) ?_
          refine lv_iconst (v := 0) hx hb dL_law_222 (by decide) ?_
          refine va_lald hx hb hK hP 37 2 rfl rfl (vp_in_nI (n := 0) (by omega) (by decide)) dL_law_223 ?_
          refine zz_topl (y := (vp_updL fz 0 ((nI nk).toInt64)) 0) (rfl) ?_
          refine lv_iload hx hb dL_law_224 (lv_at hl 0 rfl) ?_
          refine lv_i2l (v := (nI nk).toInt64) hx hb dL_law_226 rfl ?_
          refine W.lcmp hx hb dL_law_227 ?_
          refine lv_if_eq (tgt := 233) hx hb dL_law_228 (by decide) (fun c_56 => ?_) (fun c_56 => ?_)
          · skip
            skip
            refine lv_goto (tgt := 1475) hx hb dL_law_233 (by decide) ?_
            refine W.widen (k := k0 + 100) (n := n0 + 3000) (by omega) (by omega) ?_
            exact K (nk + 1) (upd pa nk (xs (i + 1))) x_6 nc fo th tg nt tb te tk tt nu ub ue uk ut re ro fu bl go ra rc ex tc es wy 0 tb4 te4 tk4 tt4 ab9_32 re4 go4 be (vp_updL fz 0 ((nI nk).toInt64)) T up _ _ _ (by first | assumption | omega) (by first | assumption | omega) (by first | assumption | omega) hP hD hS (lv_sub hl [2, 3, 4, 5, 6] rfl)
          · exact absurd ((lg_cmp_eq _ _).mpr (by first | rfl | exact (bL_t hz9).symm | exact (bL_f hz9).symm)) c_56
      · exact absurd c_54 (by decide)
  · skip
    replace h_16 := h_16.symm
    subst h_16
    replace h_18 := h_18.symm
    subst h_18
    replace h_19 := h_19.symm
    subst h_19
    replace h_20 := h_20.symm
    subst h_20
    replace h_21 := h_21.symm
    subst h_21
    have hP : va_P (dC, dI) vwCl ((w3 a cI cZ nk pa fa nc fo th tg nt tb te tk tt nu ub ue uk ut re ro fu bl go ra rc ex tc es wy) ++ ((w4 b cI cZ tw nk pa nc fo th tg nt tb4 te4 tk4 tt4 ex tc es wy ab re4 go4 be) ++ ([(ou, .inl (cJ, 1, .inr (.inl fz)))]))) H := hP
    have hD : va_D A ((w3 a cI cZ nk pa fa nc fo th tg nt tb te tk tt nu ub ue uk ut re ro fu bl go ra rc ex tc es wy) ++ ((w4 b cI cZ tw nk pa nc fo th tg nt tb4 te4 tk4 tt4 ex tc es wy ab re4 go4 be) ++ ([(ou, .inl (cJ, 1, .inr (.inl fz)))]))) := hD
    refine lv_istore (lv' := [(5, .int 1), (0, .ref sb), (1, .ref (a 0)), (2, .ref (b 0)), (3, .ref ou), (4, .int (nI i))]) hx hb dL_law_191 hl (by decide) rfl (fun ls hl => ?_)
    refine lv_aload_n hx hb dL_law_193 rfl (lv_at hl 3 rfl) ?_
    refine lv_aload_n hx hb dL_law_194 rfl (lv_at hl 1 rfl) ?_
    refine lv_iload hx hb dL_law_195 (lv_at hl 5 rfl) ?_
    refine lv_iconst (v := 1) hx hb dL_law_197 (by decide) ?_
    refine lv_iadd hx hb dL_law_198 ?_
    refine zz_top (y := nI (i + 1)) (nI_add _ _) ?_
    refine va_sld hx hb hX hbl hbA hS (vp_in_nI (n := i + 1) (by omega) (by omega)) dL_law_199 ?_
    refine zz_top (y := xs (i + 1)) (congrArg _ (nI_clamp (by omega))) ?_
    have hPc := hP.sub (ws' := w4 b cI cZ tw nk pa nc fo th tg nt tb4 te4 tk4 tt4 ex tc es wy ab re4 go4 be) [24, 25, 26, 27, 28, 29, 30, 31, 32, 33, 34, 35, 36] rfl
    have hDc := hD.sub (ws' := w4 b cI cZ tw nk pa nc fo th tg nt tb4 te4 tk4 tt4 ex tc es wy ab re4 go4 be) [24, 25, 26, 27, 28, 29, 30, 31, 32, 33, 34, 35, 36] (by decide) rfl
    have hFc := va_free (wc := w4 b cI cZ tw nk pa nc fo th tg nt tb4 te4 tk4 tt4 ex tc es wy ab re4 go4 be) hD hS hA [24, 25, 26, 27, 28, 29, 30, 31, 32, 33, 34, 35, 36] rfl
    refine va_calli (va_runV (As := [.int (xs (i + 1))]) (rest := []) ⟨hx, hb, hml, hown, hts⟩ (c_X4_addKind l dC dI cI cZ cJ b tw nk pa nc fo th tg nt tb4 te4 tk4 tt4 ex tc es wy ab re4 go4 be (xs (i + 1)) T up H.size (by first | assumption | omega) (by first | assumption | omega)) (cwV 1 hts gL_law_X4_addKind rfl rfl rfl (by decide +kernel) ⟨Nat.le_of_ble_eq_true rfl, Nat.le_of_ble_eq_true rfl⟩) ⟨zWr_blind, va_recv hK hPc (ci := 4) (q0 := 0) rfl rfl, zWr_at hPc hK hn (hDc.weaken (fun _ _ _ _ => trivial))⟩ rfl rfl hl.1 rfl (lv_room (Nat.le_of_ble_eq_true rfl)) dL_law_200 ⟨by show _ ≤ 601024; omega, by show _ ≤ 7293034; omega⟩) hS (fun q _ h => hFc q h) hFc (fun r_57 u_9 t H1 locs ht hvm hw hB hz1 hk1 hS => ?_)
    obtain ⟨tw9_57, nk9_58, pa9_59, ab9_60⟩ := u_9
    dsimp only at hw hB
    obtain ⟨hP1, -, hD1⟩ := hB
    rw [ht] at hP1
    obtain ⟨hP, hD⟩ := va_join (wr := (w3 a cI cZ nk pa fa nc fo th tg nt tb te tk tt nu ub ue uk ut re ro fu bl go ra rc ex tc es wy) ++ ([(ou, .inl (cJ, 1, .inr (.inl fz)))])) (w1 := w4 b cI cZ tw9_57 nk9_58 pa9_59 nc fo th tg nt tb4 te4 tk4 tt4 ex tc es wy ab9_60 re4 go4 be) hP hD [24, 25, 26, 27, 28, 29, 30, 31, 32, 33, 34, 35, 36] [0, 1, 2, 3, 4, 5, 6, 7, 8, 9, 10, 11, 12, 13, 14, 15, 16, 17, 18, 19, 20, 21, 22, 23, 37] rfl rfl (by decide) (by decide) hk1 hFc hP1 hD1
    generalize H1 = H at hP hS ⊢
    have hP := hP.sub (ws' := (w3 a cI cZ nk pa fa nc fo th tg nt tb te tk tt nu ub ue uk ut re ro fu bl go ra rc ex tc es wy) ++ ((w4 b cI cZ tw9_57 nk9_58 pa9_59 nc fo th tg nt tb4 te4 tk4 tt4 ex tc es wy ab9_60 re4 go4 be) ++ ([(ou, .inl (cJ, 1, .inr (.inl fz)))]))) [0, 1, 2, 3, 4, 5, 6, 7, 8, 9, 10, 11, 12, 13, 14, 15, 16, 17, 18, 19, 20, 21, 22, 23, 25, 26, 27, 28, 29, 30, 31, 32, 33, 34, 35, 36, 37, 24] rfl
    have hD := hD.sub (ws' := (w3 a cI cZ nk pa fa nc fo th tg nt tb te tk tt nu ub ue uk ut re ro fu bl go ra rc ex tc es wy) ++ ((w4 b cI cZ tw9_57 nk9_58 pa9_59 nc fo th tg nt tb4 te4 tk4 tt4 ex tc es wy ab9_60 re4 go4 be) ++ ([(ou, .inl (cJ, 1, .inr (.inl fz)))]))) [0, 1, 2, 3, 4, 5, 6, 7, 8, 9, 10, 11, 12, 13, 14, 15, 16, 17, 18, 19, 20, 21, 22, 23, 25, 26, 27, 28, 29, 30, 31, 32, 33, 34, 35, 36, 37, 24] (by decide) rfl
    have hP : va_P (dC, dI) vwCl ((w3 a cI cZ nk pa fa nc fo th tg nt tb te tk tt nu ub ue uk ut re ro fu bl go ra rc ex tc es wy) ++ ((w4 b cI cZ tw9_57 nk9_58 pa9_59 nc fo th tg nt tb4 te4 tk4 tt4 ex tc es wy ab9_60 re4 go4 be) ++ ([(ou, .inl (cJ, 1, .inr (.inl fz)))]))) H := hP
    have hD : va_D A ((w3 a cI cZ nk pa fa nc fo th tg nt tb te tk tt nu ub ue uk ut re ro fu bl go ra rc ex tc es wy) ++ ((w4 b cI cZ tw9_57 nk9_58 pa9_59 nc fo th tg nt tb4 te4 tk4 tt4 ex tc es wy ab9_60 re4 go4 be) ++ ([(ou, .inl (cJ, 1, .inr (.inl fz)))]))) := hD
    rcases hw with ⟨h_62, h_63, h_64, h_65, h_66⟩ | ⟨h_67, h_68, h_69, h_70, h_71, h_72⟩ | ⟨h_73, h_74, h_75, h_76, h_77, h_78, h_79, h_80⟩
    · skip
      replace h_63 := h_63.symm
      subst h_63
      replace h_64 := h_64.symm
      subst h_64
      replace h_65 := h_65.symm
      subst h_65
      replace h_66 := h_66.symm
      subst h_66
      have hP : va_P (dC, dI) vwCl ((w3 a cI cZ nk pa fa nc fo th tg nt tb te tk tt nu ub ue uk ut re ro fu bl go ra rc ex tc es wy) ++ ((w4 b cI cZ 1 nk pa nc fo th tg nt tb4 te4 tk4 tt4 ex tc es wy ab re4 go4 be) ++ ([(ou, .inl (cJ, 1, .inr (.inl fz)))]))) H := hP
      have hD : va_D A ((w3 a cI cZ nk pa fa nc fo th tg nt tb te tk tt nu ub ue uk ut re ro fu bl go ra rc ex tc es wy) ++ ((w4 b cI cZ 1 nk pa nc fo th tg nt tb4 te4 tk4 tt4 ex tc es wy ab re4 go4 be) ++ ([(ou, .inl (cJ, 1, .inr (.inl fz)))]))) := hD
      refine lv_istore (lv' := [(6, .int r_57), (5, .int 1), (0, .ref sb), (1, .ref (a 0)), (2, .ref (b 0)), (3, .ref ou), (4, .int (nI i))]) hx hb dL_law_203 hl (by decide) rfl (fun ls hl => ?_)
      refine lv_aload_n hx hb dL_law_205 rfl (lv_at hl 4 rfl) ?_
      have hPc := hP.sub (ws' := w4 b cI cZ 1 nk pa nc fo th tg nt tb4 te4 tk4 tt4 ex tc es wy ab re4 go4 be) [24, 25, 26, 27, 28, 29, 30, 31, 32, 33, 34, 35, 36] rfl
      refine va_calli (va_runV (As := []) (rest := []) ⟨hx, hb, hml, hown, hts⟩ (c_X4_thrown l dC dI cI cZ cJ b 1 nk pa nc fo th tg nt tb4 te4 tk4 tt4 ex tc es wy ab re4 go4 be ) (cwV 0 hts gL_law_X4_thrown rfl rfl rfl (by decide +kernel) ⟨Nat.le_of_ble_eq_true rfl, Nat.le_of_ble_eq_true rfl⟩) ⟨zPre_blind, va_recv hK hPc (ci := 4) (q0 := 0) rfl rfl, zPre_at hPc hK hn⟩ rfl rfl hl.1 rfl (lv_room (Nat.le_of_ble_eq_true rfl)) dL_law_206 ⟨by show _ ≤ 601024; omega, by show _ ≤ 7293034; omega⟩) hS (fun _ _ h => h.elim) (fun _ h => h.elim) (fun r_81 u_9 t H locs ht hvm hw hB hz1 hk1 hS => ?_)
      have hP := zkeep hP hk1
      subst hw
      refine lv_iload hx hb dL_law_209 (lv_at hl 1 rfl) ?_
      refine lv_icmp_eq (tgt := 216) hx hb dL_law_211 (by decide) (fun c_82 => ?_) (fun c_82 => ?_)
      · skip
        refine lv_iload hx hb dL_law_216 (lv_at hl 1 rfl) ?_
        refine lv_if_ne (tgt := 233) hx hb dL_law_218 (by decide) (fun c_83 => ?_) (fun c_83 => ?_)
        · skip
          refine lv_goto (tgt := 1475) hx hb dL_law_233 (by decide) ?_
          refine W.widen (k := k0 + 100) (n := n0 + 3000) (by omega) (by omega) ?_
          exact K nk pa fa nc fo th tg nt tb te tk tt nu ub ue uk ut re ro fu bl go ra rc ex tc es wy 1 tb4 te4 tk4 tt4 ab re4 go4 be fz T up _ _ _ (by first | assumption | omega) (by first | assumption | omega) (by first | assumption | omega) hP hD hS (lv_sub hl [2, 3, 4, 5, 6] rfl)
        · exact absurd c_83 (by decide)
      · exact absurd c_82 (by decide)
    · skip
      exact absurd (h_17.symm.trans h_67) (by decide)
    · skip
      exact absurd (h_17.symm.trans h_73) (by decide)
  · skip
    replace h_22 := h_22.symm
    subst h_22
    replace h_25 := h_25.symm
    subst h_25
    replace h_26 := h_26.symm
    subst h_26
    replace h_27 := h_27.symm
    subst h_27
    replace h_28 := h_28.symm
    subst h_28
    have hP : va_P (dC, dI) vwCl ((w3 a cI cZ nk pa fa nc fo th tg nt tb te tk tt nu ub ue uk ut re ro fu bl go ra rc ex tc es wy) ++ ((w4 b cI cZ tw nk pa nc fo th tg nt tb4 te4 tk4 tt4 ex tc es wy ab re4 go4 be) ++ ([(ou, .inl (cJ, 1, .inr (.inl fz)))]))) H := hP
    have hD : va_D A ((w3 a cI cZ nk pa fa nc fo th tg nt tb te tk tt nu ub ue uk ut re ro fu bl go ra rc ex tc es wy) ++ ((w4 b cI cZ tw nk pa nc fo th tg nt tb4 te4 tk4 tt4 ex tc es wy ab re4 go4 be) ++ ([(ou, .inl (cJ, 1, .inr (.inl fz)))]))) := hD
    refine lv_istore (lv' := [(5, .int 2), (0, .ref sb), (1, .ref (a 0)), (2, .ref (b 0)), (3, .ref ou), (4, .int (nI i))]) hx hb dL_law_191 hl (by decide) rfl (fun ls hl => ?_)
    refine lv_aload_n hx hb dL_law_193 rfl (lv_at hl 3 rfl) ?_
    refine lv_aload_n hx hb dL_law_194 rfl (lv_at hl 1 rfl) ?_
    refine lv_iload hx hb dL_law_195 (lv_at hl 5 rfl) ?_
    refine lv_iconst (v := 1) hx hb dL_law_197 (by decide) ?_
    refine lv_iadd hx hb dL_law_198 ?_
    refine zz_top (y := nI (i + 1)) (nI_add _ _) ?_
    refine va_sld hx hb hX hbl hbA hS (vp_in_nI (n := i + 1) (by omega) (by omega)) dL_law_199 ?_
    refine zz_top (y := xs (i + 1)) (congrArg _ (nI_clamp (by omega))) ?_
    have hPc := hP.sub (ws' := w4 b cI cZ tw nk pa nc fo th tg nt tb4 te4 tk4 tt4 ex tc es wy ab re4 go4 be) [24, 25, 26, 27, 28, 29, 30, 31, 32, 33, 34, 35, 36] rfl
    have hDc := hD.sub (ws' := w4 b cI cZ tw nk pa nc fo th tg nt tb4 te4 tk4 tt4 ex tc es wy ab re4 go4 be) [24, 25, 26, 27, 28, 29, 30, 31, 32, 33, 34, 35, 36] (by decide) rfl
    have hFc := va_free (wc := w4 b cI cZ tw nk pa nc fo th tg nt tb4 te4 tk4 tt4 ex tc es wy ab re4 go4 be) hD hS hA [24, 25, 26, 27, 28, 29, 30, 31, 32, 33, 34, 35, 36] rfl
    refine va_calli (va_runV (As := [.int (xs (i + 1))]) (rest := []) ⟨hx, hb, hml, hown, hts⟩ (c_X4_addKind l dC dI cI cZ cJ b tw nk pa nc fo th tg nt tb4 te4 tk4 tt4 ex tc es wy ab re4 go4 be (xs (i + 1)) T up H.size (by first | assumption | omega) (by first | assumption | omega)) (cwV 1 hts gL_law_X4_addKind rfl rfl rfl (by decide +kernel) ⟨Nat.le_of_ble_eq_true rfl, Nat.le_of_ble_eq_true rfl⟩) ⟨zWr_blind, va_recv hK hPc (ci := 4) (q0 := 0) rfl rfl, zWr_at hPc hK hn (hDc.weaken (fun _ _ _ _ => trivial))⟩ rfl rfl hl.1 rfl (lv_room (Nat.le_of_ble_eq_true rfl)) dL_law_200 ⟨by show _ ≤ 601024; omega, by show _ ≤ 7293034; omega⟩) hS (fun q _ h => hFc q h) hFc (fun r_84 u_9 t H1 locs ht hvm hw hB hz1 hk1 hS => ?_)
    obtain ⟨tw9_84, nk9_85, pa9_86, ab9_87⟩ := u_9
    dsimp only at hw hB
    obtain ⟨hP1, -, hD1⟩ := hB
    rw [ht] at hP1
    obtain ⟨hP, hD⟩ := va_join (wr := (w3 a cI cZ nk pa fa nc fo th tg nt tb te tk tt nu ub ue uk ut re ro fu bl go ra rc ex tc es wy) ++ ([(ou, .inl (cJ, 1, .inr (.inl fz)))])) (w1 := w4 b cI cZ tw9_84 nk9_85 pa9_86 nc fo th tg nt tb4 te4 tk4 tt4 ex tc es wy ab9_87 re4 go4 be) hP hD [24, 25, 26, 27, 28, 29, 30, 31, 32, 33, 34, 35, 36] [0, 1, 2, 3, 4, 5, 6, 7, 8, 9, 10, 11, 12, 13, 14, 15, 16, 17, 18, 19, 20, 21, 22, 23, 37] rfl rfl (by decide) (by decide) hk1 hFc hP1 hD1
    generalize H1 = H at hP hS ⊢
    have hP := hP.sub (ws' := (w3 a cI cZ nk pa fa nc fo th tg nt tb te tk tt nu ub ue uk ut re ro fu bl go ra rc ex tc es wy) ++ ((w4 b cI cZ tw9_84 nk9_85 pa9_86 nc fo th tg nt tb4 te4 tk4 tt4 ex tc es wy ab9_87 re4 go4 be) ++ ([(ou, .inl (cJ, 1, .inr (.inl fz)))]))) [0, 1, 2, 3, 4, 5, 6, 7, 8, 9, 10, 11, 12, 13, 14, 15, 16, 17, 18, 19, 20, 21, 22, 23, 25, 26, 27, 28, 29, 30, 31, 32, 33, 34, 35, 36, 37, 24] rfl
    have hD := hD.sub (ws' := (w3 a cI cZ nk pa fa nc fo th tg nt tb te tk tt nu ub ue uk ut re ro fu bl go ra rc ex tc es wy) ++ ((w4 b cI cZ tw9_84 nk9_85 pa9_86 nc fo th tg nt tb4 te4 tk4 tt4 ex tc es wy ab9_87 re4 go4 be) ++ ([(ou, .inl (cJ, 1, .inr (.inl fz)))]))) [0, 1, 2, 3, 4, 5, 6, 7, 8, 9, 10, 11, 12, 13, 14, 15, 16, 17, 18, 19, 20, 21, 22, 23, 25, 26, 27, 28, 29, 30, 31, 32, 33, 34, 35, 36, 37, 24] (by decide) rfl
    have hP : va_P (dC, dI) vwCl ((w3 a cI cZ nk pa fa nc fo th tg nt tb te tk tt nu ub ue uk ut re ro fu bl go ra rc ex tc es wy) ++ ((w4 b cI cZ tw9_84 nk9_85 pa9_86 nc fo th tg nt tb4 te4 tk4 tt4 ex tc es wy ab9_87 re4 go4 be) ++ ([(ou, .inl (cJ, 1, .inr (.inl fz)))]))) H := hP
    have hD : va_D A ((w3 a cI cZ nk pa fa nc fo th tg nt tb te tk tt nu ub ue uk ut re ro fu bl go ra rc ex tc es wy) ++ ((w4 b cI cZ tw9_84 nk9_85 pa9_86 nc fo th tg nt tb4 te4 tk4 tt4 ex tc es wy ab9_87 re4 go4 be) ++ ([(ou, .inl (cJ, 1, .inr (.inl fz)))]))) := hD
    rcases hw with ⟨h_89, h_90, h_91, h_92, h_93⟩ | ⟨h_94, h_95, h_96, h_97, h_98, h_99⟩ | ⟨h_100, h_101, h_102, h_103, h_104, h_105, h_106, h_107⟩
    · skip
      exact absurd (h_23.symm.trans h_89) (by decide)
    · skip
      replace h_96 := h_96.symm
      subst h_96
      replace h_97 := h_97.symm
      subst h_97
      replace h_98 := h_98.symm
      subst h_98
      replace h_99 := h_99.symm
      subst h_99
      have hP : va_P (dC, dI) vwCl ((w3 a cI cZ nk pa fa nc fo th tg nt tb te tk tt nu ub ue uk ut re ro fu bl go ra rc ex tc es wy) ++ ((w4 b cI cZ 2 nk pa nc fo th tg nt tb4 te4 tk4 tt4 ex tc es wy ab re4 go4 be) ++ ([(ou, .inl (cJ, 1, .inr (.inl fz)))]))) H := hP
      have hD : va_D A ((w3 a cI cZ nk pa fa nc fo th tg nt tb te tk tt nu ub ue uk ut re ro fu bl go ra rc ex tc es wy) ++ ((w4 b cI cZ 2 nk pa nc fo th tg nt tb4 te4 tk4 tt4 ex tc es wy ab re4 go4 be) ++ ([(ou, .inl (cJ, 1, .inr (.inl fz)))]))) := hD
      refine lv_istore (lv' := [(6, .int r_84), (5, .int 2), (0, .ref sb), (1, .ref (a 0)), (2, .ref (b 0)), (3, .ref ou), (4, .int (nI i))]) hx hb dL_law_203 hl (by decide) rfl (fun ls hl => ?_)
      refine lv_aload_n hx hb dL_law_205 rfl (lv_at hl 4 rfl) ?_
      have hPc := hP.sub (ws' := w4 b cI cZ 2 nk pa nc fo th tg nt tb4 te4 tk4 tt4 ex tc es wy ab re4 go4 be) [24, 25, 26, 27, 28, 29, 30, 31, 32, 33, 34, 35, 36] rfl
      refine va_calli (va_runV (As := []) (rest := []) ⟨hx, hb, hml, hown, hts⟩ (c_X4_thrown l dC dI cI cZ cJ b 2 nk pa nc fo th tg nt tb4 te4 tk4 tt4 ex tc es wy ab re4 go4 be ) (cwV 0 hts gL_law_X4_thrown rfl rfl rfl (by decide +kernel) ⟨Nat.le_of_ble_eq_true rfl, Nat.le_of_ble_eq_true rfl⟩) ⟨zPre_blind, va_recv hK hPc (ci := 4) (q0 := 0) rfl rfl, zPre_at hPc hK hn⟩ rfl rfl hl.1 rfl (lv_room (Nat.le_of_ble_eq_true rfl)) dL_law_206 ⟨by show _ ≤ 601024; omega, by show _ ≤ 7293034; omega⟩) hS (fun _ _ h => h.elim) (fun _ h => h.elim) (fun r_108 u_9 t H locs ht hvm hw hB hz1 hk1 hS => ?_)
      have hP := zkeep hP hk1
      subst hw
      refine lv_iload hx hb dL_law_209 (lv_at hl 1 rfl) ?_
      refine lv_icmp_eq (tgt := 216) hx hb dL_law_211 (by decide) (fun c_109 => ?_) (fun c_109 => ?_)
      · skip
        refine lv_iload hx hb dL_law_216 (lv_at hl 1 rfl) ?_
        refine lv_if_ne (tgt := 233) hx hb dL_law_218 (by decide) (fun c_110 => ?_) (fun c_110 => ?_)
        · skip
          refine lv_goto (tgt := 1475) hx hb dL_law_233 (by decide) ?_
          refine W.widen (k := k0 + 100) (n := n0 + 3000) (by omega) (by omega) ?_
          exact K nk pa fa nc fo th tg nt tb te tk tt nu ub ue uk ut re ro fu bl go ra rc ex tc es wy 2 tb4 te4 tk4 tt4 ab re4 go4 be fz T up _ _ _ (by first | assumption | omega) (by first | assumption | omega) (by first | assumption | omega) hP hD hS (lv_sub hl [2, 3, 4, 5, 6] rfl)
        · exact absurd c_110 (by decide)
      · exact absurd c_109 (by decide)
    · skip
      omega

set_option maxHeartbeats 4000000 in
set_option maxRecDepth 100000 in
theorem lk_1 {p : Program} {e : Env} {s : State} {m : MethodId} {below : List Frame} {meth : Method} {c : Code} {Q : State → Prop} (l : Launch) {sb L : Nat} {xs : Nat → Int32} (dC : Nat → ClassId) (dI : Nat → Nat → Nat) (cI cZ cJ : ClassId) (a b : Nat → Nat) (ou i k0 n0 : Nat) (hF0 : lwF p l s m c sb L xs dC dI cI cZ cJ) (hi : i + 5 ≤ L) (hk0 : k0 + 100 ≤ 601024) (hn0 : n0 + 3000 ≤ 7293034) (nk : Nat) (pa : Nat → Int32) (fa : Nat → Int32) (nc : Nat) (fo : Nat → Int32) (th : Nat → Int32) (tg : Nat → Int32) (nt : Nat) (tb : Nat → Int32) (te : Nat → Int32) (tk : Nat → Int32) (tt : Nat → Int32) (nu : Nat) (ub : Nat → Int32) (ue : Nat → Int32) (uk : Nat → Int32) (ut : Nat → Int32) (re : Nat → Int32) (ro : Nat → Int32) (fu : Nat → Int32) (bl : Nat → Int32) (go : Nat → Int32) (ra : Nat → Int32) (rc : Nat) (ex : Int32) (tc : Int32) (es : Int32) (wy : Int64) (tw : Int32) (tb4 : Nat → Int32) (te4 : Nat → Int32) (tk4 : Nat → Int32) (tt4 : Nat → Int32) (ab : Nat → Int32) (re4 : Nat → Int32) (go4 : Nat → Int32) (be : Nat → Int32) (fz : Nat → Int64) (T : Nat → Nat → Nat) (up : Nat → Nat → Bool) (hg : g3 nk fa up nt tb te tk tt T) (hg4 : g4 nk ab up nt tb4 te4 tk4 tt4 T) (hc : okC nk nc fo th tg) (H : Heap) (locs : List Loc) (ls : Array Slot) (hP : va_P (dC, dI) vwCl ((w3 a cI cZ nk pa fa nc fo th tg nt tb te tk tt nu ub ue uk ut re ro fu bl go ra rc ex tc es wy) ++ ((w4 b cI cZ tw nk pa nc fo th tg nt tb4 te4 tk4 tt4 ex tc es wy ab re4 go4 be) ++ ([(ou, .inl (cJ, 1, .inr (.inl fz)))]))) H) (hD : va_D (fun q => s.heap.size ≤ q) ((w3 a cI cZ nk pa fa nc fo th tg nt tb te tk tt nu ub ue uk ut re ro fu bl go ra rc ex tc es wy) ++ ((w4 b cI cZ tw nk pa nc fo th tg nt tb4 te4 tk4 tt4 ex tc es wy ab re4 go4 be) ++ ([(ou, .inl (cJ, 1, .inr (.inl fz)))])))) (hS : va_S (fun q => s.heap.size ≤ q) s.heap H locs) (hl : lv_has ls 9 [(0, .ref sb), (1, .ref (a 0)), (2, .ref (b 0)), (3, .ref ou), (4, .int (nI i))]) (K : ∀ (nk : Nat) (pa : Nat → Int32) (fa : Nat → Int32) (nc : Nat) (fo : Nat → Int32) (th : Nat → Int32) (tg : Nat → Int32) (nt : Nat) (tb : Nat → Int32) (te : Nat → Int32) (tk : Nat → Int32) (tt : Nat → Int32) (nu : Nat) (ub : Nat → Int32) (ue : Nat → Int32) (uk : Nat → Int32) (ut : Nat → Int32) (re : Nat → Int32) (ro : Nat → Int32) (fu : Nat → Int32) (bl : Nat → Int32) (go : Nat → Int32) (ra : Nat → Int32) (rc : Nat) (ex : Int32) (tc : Int32) (es : Int32) (wy : Int64) (tw : Int32) (tb4 : Nat → Int32) (te4 : Nat → Int32) (tk4 : Nat → Int32) (tt4 : Nat → Int32) (ab : Nat → Int32) (re4 : Nat → Int32) (go4 : Nat → Int32) (be : Nat → Int32) (fz : Nat → Int64) (T : Nat → Nat → Nat) (up : Nat → Nat → Bool) (H : Heap) (locs : List Loc) (ls : Array Slot), g3 nk fa up nt tb te tk tt T → g4 nk ab up nt tb4 te4 tk4 tt4 T → okC nk nc fo th tg → va_P (dC, dI) vwCl ((w3 a cI cZ nk pa fa nc fo th tg nt tb te tk tt nu ub ue uk ut re ro fu bl go ra rc ex tc es wy) ++ ((w4 b cI cZ tw nk pa nc fo th tg nt tb4 te4 tk4 tt4 ex tc es wy ab re4 go4 be) ++ ([(ou, .inl (cJ, 1, .inr (.inl fz)))]))) H → va_D (fun q => s.heap.size ≤ q) ((w3 a cI cZ nk pa fa nc fo th tg nt tb te tk tt nu ub ue uk ut re ro fu bl go ra rc ex tc es wy) ++ ((w4 b cI cZ tw nk pa nc fo th tg nt tb4 te4 tk4 tt4 ex tc es wy ab re4 go4 be) ++ ([(ou, .inl (cJ, 1, .inr (.inl fz)))]))) → va_S (fun q => s.heap.size ≤ q) s.heap H locs → lv_has ls 9 [(0, .ref sb), (1, .ref (a 0)), (2, .ref (b 0)), (3, .ref ou), (4, .int (nI i))] → W p l e room_1 s m #[Value.ref sb] below meth c H locs (k0 + 100) (n0 + 3000) Q (F0 m 1475 ls [])) : W p l e room_1 s m #[Value.ref sb] below meth c H locs k0 n0 Q (F0 m 236 ls []) := by
  obtain ⟨hx, hb, hml, hown, hts, hX, hbl, hL, hK, hn, hzt, hzu, hzc, hlt⟩ := id hF0
  obtain ⟨A, hAe⟩ : ∃ A : Nat → Prop, A = fun q => s.heap.size ≤ q := ⟨_, rfl⟩
  have hbA : ¬ A sb := by rw [hAe]; exact Nat.not_le.mpr hbl
  have hA : ∀ q : Nat, s.heap.size ≤ q → A q := fun q h => by rw [hAe]; exact h
  rw [← hAe] at hD hS hzu K
  refine lv_aload_n hx hb dL_law_236 rfl (lv_at hl 1 rfl) ?_
  have hPc := hP.sub (ws' := w3 a cI cZ nk pa fa nc fo th tg nt tb te tk tt nu ub ue uk ut re ro fu bl go ra rc ex tc es wy) [0, 1, 2, 3, 4, 5, 6, 7, 8, 9, 10, 11, 12, 13, 14, 15, 16, 17, 18, 19, 20, 21, 22, 23] rfl
  refine va_calli (va_runV (As := []) (rest := []) ⟨hx, hb, hml, hown, hts⟩ (c_X3_kindCount l dC dI cI cZ cJ a nk pa fa nc fo th tg nt tb te tk tt nu ub ue uk ut re ro fu bl go ra rc ex tc es wy ) (cwV 0 hts gL_law_X3_kindCount rfl rfl rfl (by decide +kernel) ⟨Nat.le_of_ble_eq_true rfl, Nat.le_of_ble_eq_true rfl⟩) ⟨zPre_blind, va_recv hK hPc (ci := 3) (q0 := 0) rfl rfl, zPre_at hPc hK hn⟩ rfl rfl hl.1 rfl (lv_room (Nat.le_of_ble_eq_true rfl)) dL_law_237 ⟨by show _ ≤ 601024; omega, by show _ ≤ 7293034; omega⟩) hS (fun _ _ h => h.elim) (fun _ h => h.elim) (fun r_1 u_9 t H locs ht hvm hw hB hz1 hk1 hS => ?_)
  have hP := zkeep hP hk1
  subst hw
  refine lv_aload_n hx hb dL_law_240 rfl (lv_at hl 2 rfl) ?_
  have hPc := hP.sub (ws' := w4 b cI cZ tw nk pa nc fo th tg nt tb4 te4 tk4 tt4 ex tc es wy ab re4 go4 be) [24, 25, 26, 27, 28, 29, 30, 31, 32, 33, 34, 35, 36] rfl
  have hDc := hD.sub (ws' := w4 b cI cZ tw nk pa nc fo th tg nt tb4 te4 tk4 tt4 ex tc es wy ab re4 go4 be) [24, 25, 26, 27, 28, 29, 30, 31, 32, 33, 34, 35, 36] (by decide) rfl
  have hFc := va_free (wc := w4 b cI cZ tw nk pa nc fo th tg nt tb4 te4 tk4 tt4 ex tc es wy ab re4 go4 be) hD hS hA [24, 25, 26, 27, 28, 29, 30, 31, 32, 33, 34, 35, 36] rfl
  refine va_calli (va_runV (As := []) (rest := [.int (nI nk)]) ⟨hx, hb, hml, hown, hts⟩ (c_X4_kindCount l dC dI cI cZ cJ b tw nk pa nc fo th tg nt tb4 te4 tk4 tt4 ex tc es wy ab re4 go4 be H.size ) (cwV 0 hts gL_law_X4_kindCount rfl rfl rfl (by decide +kernel) ⟨Nat.le_of_ble_eq_true rfl, Nat.le_of_ble_eq_true rfl⟩) ⟨zWr_blind, va_recv hK hPc (ci := 4) (q0 := 0) rfl rfl, zWr_at hPc hK hn (hDc.weaken (fun _ _ _ _ => trivial))⟩ rfl rfl hl.1 rfl (lv_room (Nat.le_of_ble_eq_true rfl)) dL_law_241 ⟨by show _ ≤ 601024; omega, by show _ ≤ 7293034; omega⟩) hS (fun q _ h => hFc q h) hFc (fun r_2 u_9 t H1 locs ht hvm hw hB hz1 hk1 hS => ?_)
  obtain ⟨hP1, -, hD1⟩ := hB
  rw [ht] at hP1
  obtain ⟨hP, hD⟩ := va_join (wr := (w3 a cI cZ nk pa fa nc fo th tg nt tb te tk tt nu ub ue uk ut re ro fu bl go ra rc ex tc es wy) ++ ([(ou, .inl (cJ, 1, .inr (.inl fz)))])) (w1 := w4 b cI cZ 0 nk pa nc fo th tg nt tb4 te4 tk4 tt4 ex tc es wy ab re4 go4 be) hP hD [24, 25, 26, 27, 28, 29, 30, 31, 32, 33, 34, 35, 36] [0, 1, 2, 3, 4, 5, 6, 7, 8, 9, 10, 11, 12, 13, 14, 15, 16, 17, 18, 19, 20, 21, 22, 23, 37] rfl rfl (by decide) (by decide) hk1 hFc hP1 hD1
  generalize H1 = H at hP hS ⊢
  have hP := hP.sub (ws' := (w3 a cI cZ nk pa fa nc fo th tg nt tb te tk tt nu ub ue uk ut re ro fu bl go ra rc ex tc es wy) ++ ((w4 b cI cZ 0 nk pa nc fo th tg nt tb4 te4 tk4 tt4 ex tc es wy ab re4 go4 be) ++ ([(ou, .inl (cJ, 1, .inr (.inl fz)))]))) [0, 1, 2, 3, 4, 5, 6, 7, 8, 9, 10, 11, 12, 13, 14, 15, 16, 17, 18, 19, 20, 21, 22, 23, 25, 26, 27, 28, 29, 30, 31, 32, 33, 34, 35, 36, 37, 24] rfl
  have hD := hD.sub (ws' := (w3 a cI cZ nk pa fa nc fo th tg nt tb te tk tt nu ub ue uk ut re ro fu bl go ra rc ex tc es wy) ++ ((w4 b cI cZ 0 nk pa nc fo th tg nt tb4 te4 tk4 tt4 ex tc es wy ab re4 go4 be) ++ ([(ou, .inl (cJ, 1, .inr (.inl fz)))]))) [0, 1, 2, 3, 4, 5, 6, 7, 8, 9, 10, 11, 12, 13, 14, 15, 16, 17, 18, 19, 20, 21, 22, 23, 25, 26, 27, 28, 29, 30, 31, 32, 33, 34, 35, 36, 37, 24] (by decide) rfl
  have hP : va_P (dC, dI) vwCl ((w3 a cI cZ nk pa fa nc fo th tg nt tb te tk tt nu ub ue uk ut re ro fu bl go ra rc ex tc es wy) ++ ((w4 b cI cZ 0 nk pa nc fo th tg nt tb4 te4 tk4 tt4 ex tc es wy ab re4 go4 be) ++ ([(ou, .inl (cJ, 1, .inr (.inl fz)))]))) H := hP
  have hD : va_D A ((w3 a cI cZ nk pa fa nc fo th tg nt tb te tk tt nu ub ue uk ut re ro fu bl go ra rc ex tc es wy) ++ ((w4 b cI cZ 0 nk pa nc fo th tg nt tb4 te4 tk4 tt4 ex tc es wy ab re4 go4 be) ++ ([(ou, .inl (cJ, 1, .inr (.inl fz)))]))) := hD
  subst hw
  refine lv_icmp_eq (tgt := 1475) hx hb dL_law_244 (by decide) (fun c_3 => ?_) (fun c_3 => ?_)
  · skip
    skip
    refine W.widen (k := k0 + 100) (n := n0 + 3000) (by omega) (by omega) ?_
    exact K nk pa fa nc fo th tg nt tb te tk tt nu ub ue uk ut re ro fu bl go ra rc ex tc es wy 0 tb4 te4 tk4 tt4 ab re4 go4 be fz T up _ _ _ (by first | assumption | omega) (by first | assumption | omega) (by first | assumption | omega) hP hD hS (lv_sub hl [0, 1, 2, 3, 4] rfl)
  · exact absurd rfl c_3

set_option maxHeartbeats 4000000 in
set_option maxRecDepth 100000 in
theorem lk_4 {p : Program} {e : Env} {s : State} {m : MethodId} {below : List Frame} {meth : Method} {c : Code} {Q : State → Prop} (l : Launch) {sb L : Nat} {xs : Nat → Int32} (dC : Nat → ClassId) (dI : Nat → Nat → Nat) (cI cZ cJ : ClassId) (a b : Nat → Nat) (ou i k0 n0 : Nat) (hF0 : lwF p l s m c sb L xs dC dI cI cZ cJ) (hi : i + 5 ≤ L) (hk0 : k0 + 100 ≤ 601024) (hn0 : n0 + 3000 ≤ 7293034) (nk : Nat) (pa : Nat → Int32) (fa : Nat → Int32) (nc : Nat) (fo : Nat → Int32) (th : Nat → Int32) (tg : Nat → Int32) (nt : Nat) (tb : Nat → Int32) (te : Nat → Int32) (tk : Nat → Int32) (tt : Nat → Int32) (nu : Nat) (ub : Nat → Int32) (ue : Nat → Int32) (uk : Nat → Int32) (ut : Nat → Int32) (re : Nat → Int32) (ro : Nat → Int32) (fu : Nat → Int32) (bl : Nat → Int32) (go : Nat → Int32) (ra : Nat → Int32) (rc : Nat) (ex : Int32) (tc : Int32) (es : Int32) (wy : Int64) (tw : Int32) (tb4 : Nat → Int32) (te4 : Nat → Int32) (tk4 : Nat → Int32) (tt4 : Nat → Int32) (ab : Nat → Int32) (re4 : Nat → Int32) (go4 : Nat → Int32) (be : Nat → Int32) (fz : Nat → Int64) (T : Nat → Nat → Nat) (up : Nat → Nat → Bool) (hg : g3 nk fa up nt tb te tk tt T) (hg4 : g4 nk ab up nt tb4 te4 tk4 tt4 T) (hc : okC nk nc fo th tg) (H : Heap) (locs : List Loc) (ls : Array Slot) (hP : va_P (dC, dI) vwCl ((w3 a cI cZ nk pa fa nc fo th tg nt tb te tk tt nu ub ue uk ut re ro fu bl go ra rc ex tc es wy) ++ ((w4 b cI cZ tw nk pa nc fo th tg nt tb4 te4 tk4 tt4 ex tc es wy ab re4 go4 be) ++ ([(ou, .inl (cJ, 1, .inr (.inl fz)))]))) H) (hD : va_D (fun q => s.heap.size ≤ q) ((w3 a cI cZ nk pa fa nc fo th tg nt tb te tk tt nu ub ue uk ut re ro fu bl go ra rc ex tc es wy) ++ ((w4 b cI cZ tw nk pa nc fo th tg nt tb4 te4 tk4 tt4 ex tc es wy ab re4 go4 be) ++ ([(ou, .inl (cJ, 1, .inr (.inl fz)))])))) (hS : va_S (fun q => s.heap.size ≤ q) s.heap H locs) (hl : lv_has ls 9 [(0, .ref sb), (1, .ref (a 0)), (2, .ref (b 0)), (3, .ref ou), (4, .int (nI i))]) (K : ∀ (nk : Nat) (pa : Nat → Int32) (fa : Nat → Int32) (nc : Nat) (fo : Nat → Int32) (th : Nat → Int32) (tg : Nat → Int32) (nt : Nat) (tb : Nat → Int32) (te : Nat → Int32) (tk : Nat → Int32) (tt : Nat → Int32) (nu : Nat) (ub : Nat → Int32) (ue : Nat → Int32) (uk : Nat → Int32) (ut : Nat → Int32) (re : Nat → Int32) (ro : Nat → Int32) (fu : Nat → Int32) (bl : Nat → Int32) (go : Nat → Int32) (ra : Nat → Int32) (rc : Nat) (ex : Int32) (tc : Int32) (es : Int32) (wy : Int64) (tw : Int32) (tb4 : Nat → Int32) (te4 : Nat → Int32) (tk4 : Nat → Int32) (tt4 : Nat → Int32) (ab : Nat → Int32) (re4 : Nat → Int32) (go4 : Nat → Int32) (be : Nat → Int32) (fz : Nat → Int64) (T : Nat → Nat → Nat) (up : Nat → Nat → Bool) (H : Heap) (locs : List Loc) (ls : Array Slot), g3 nk fa up nt tb te tk tt T → g4 nk ab up nt tb4 te4 tk4 tt4 T → okC nk nc fo th tg → va_P (dC, dI) vwCl ((w3 a cI cZ nk pa fa nc fo th tg nt tb te tk tt nu ub ue uk ut re ro fu bl go ra rc ex tc es wy) ++ ((w4 b cI cZ tw nk pa nc fo th tg nt tb4 te4 tk4 tt4 ex tc es wy ab re4 go4 be) ++ ([(ou, .inl (cJ, 1, .inr (.inl fz)))]))) H → va_D (fun q => s.heap.size ≤ q) ((w3 a cI cZ nk pa fa nc fo th tg nt tb te tk tt nu ub ue uk ut re ro fu bl go ra rc ex tc es wy) ++ ((w4 b cI cZ tw nk pa nc fo th tg nt tb4 te4 tk4 tt4 ex tc es wy ab re4 go4 be) ++ ([(ou, .inl (cJ, 1, .inr (.inl fz)))]))) → va_S (fun q => s.heap.size ≤ q) s.heap H locs → lv_has ls 9 [(0, .ref sb), (1, .ref (a 0)), (2, .ref (b 0)), (3, .ref ou), (4, .int (nI i))] → W p l e room_1 s m #[Value.ref sb] below meth c H locs (k0 + 100) (n0 + 3000) Q (F0 m 1475 ls [])) : W p l e room_1 s m #[Value.ref sb] below meth c H locs k0 n0 Q (F0 m 392 ls []) := by
  obtain ⟨hx, hb, hml, hown, hts, hX, hbl, hL, hK, hn, hzt, hzu, hzc, hlt⟩ := id hF0
  obtain ⟨A, hAe⟩ : ∃ A : Nat → Prop, A = fun q => s.heap.size ≤ q := ⟨_, rfl⟩
  have hbA : ¬ A sb := by rw [hAe]; exact Nat.not_le.mpr hbl
  have hA : ∀ q : Nat, s.heap.size ≤ q → A q := fun q h => by rw [hAe]; exact h
  rw [← hAe] at hD hS hzu K
  refine lv_aload_n hx hb dL_law_392 rfl (lv_at hl 1 rfl) ?_
  refine lv_aload_n hx hb dL_law_393 rfl (lv_at hl 0 rfl) ?_
  refine lv_iload hx hb dL_law_394 (lv_at hl 4 rfl) ?_
  refine lv_iconst (v := 1) hx hb dL_law_396 (by decide) ?_
  refine lv_iadd hx hb dL_law_397 ?_
  refine zz_top (y := nI (i + 1)) (nI_add _ _) ?_
  refine va_sld hx hb hX hbl hbA hS (vp_in_nI (n := i + 1) (by omega) (by omega)) dL_law_398 ?_
  refine zz_top (y := xs (i + 1)) (congrArg _ (nI_clamp (by omega))) ?_
  refine lv_aload_n hx hb dL_law_399 rfl (lv_at hl 3 rfl) ?_
  have hPc := hP.sub (ws' := (w3 a cI cZ nk pa fa nc fo th tg nt tb te tk tt nu ub ue uk ut re ro fu bl go ra rc ex tc es wy) ++ ([(ou, .inl (cJ, 1, .inr (.inl fz)))])) [0, 1, 2, 3, 4, 5, 6, 7, 8, 9, 10, 11, 12, 13, 14, 15, 16, 17, 18, 19, 20, 21, 22, 23, 37] rfl
  have hDc := hD.sub (ws' := (w3 a cI cZ nk pa fa nc fo th tg nt tb te tk tt nu ub ue uk ut re ro fu bl go ra rc ex tc es wy) ++ ([(ou, .inl (cJ, 1, .inr (.inl fz)))])) [0, 1, 2, 3, 4, 5, 6, 7, 8, 9, 10, 11, 12, 13, 14, 15, 16, 17, 18, 19, 20, 21, 22, 23, 37] (by decide) rfl
  have hFc := va_free (wc := (w3 a cI cZ nk pa fa nc fo th tg nt tb te tk tt nu ub ue uk ut re ro fu bl go ra rc ex tc es wy) ++ ([(ou, .inl (cJ, 1, .inr (.inl fz)))])) hD hS hA [0, 1, 2, 3, 4, 5, 6, 7, 8, 9, 10, 11, 12, 13, 14, 15, 16, 17, 18, 19, 20, 21, 22, 23, 37] rfl
  refine va_calli (vx_runSW (As := [.ref (a 0), .int (xs (i + 1)), .ref ou]) (rest := []) ⟨hx, hb, hml, hown, hts⟩ (c_L_step l dC dI cI cZ cJ a nk pa fa nc fo th tg nt tb te tk tt nu ub ue uk ut re ro fu bl go ra rc ex tc es wy (xs (i + 1)) T up ou fz H.size hlt (by first | assumption | omega) (by first | assumption | omega)) (vx_cwSW 3 hts gL_law_L_step rfl rfl rfl (by decide +kernel) ⟨Nat.le_of_ble_eq_true rfl, Nat.le_of_ble_eq_true rfl⟩) ⟨zTl_blind, zTl_at hPc hK hn (hDc.weaken (fun _ _ _ _ => trivial)) hzt hzu hS hFc hzc⟩ rfl rfl hl.1 rfl (lv_room (Nat.le_of_ble_eq_true rfl)) dL_law_400 ⟨by show _ ≤ 601024; omega, by show _ ≤ 7293034; omega⟩) hS (fun q _ h => hFc q h) hFc (fun r_1 u_9 t H1 locs ht hvm hw hB hz1 hk1 hS => ?_)
  obtain ⟨v_c_1, v_cf_2, v_ct_3, v_cg_4, fz9_5⟩ := u_9
  dsimp only at hw hB
  obtain ⟨hP1, -, hD1⟩ := hB
  rw [ht] at hP1
  obtain ⟨hP, hD⟩ := va_join (wr := w4 b cI cZ tw nk pa nc fo th tg nt tb4 te4 tk4 tt4 ex tc es wy ab re4 go4 be) (w1 := (w3 a cI cZ nk pa fa v_c_1 v_cf_2 v_ct_3 v_cg_4 nt tb te tk tt nu ub ue uk ut re ro fu bl go ra rc ex tc es wy) ++ ([(ou, .inl (cJ, 1, .inr (.inl fz9_5)))])) hP hD [0, 1, 2, 3, 4, 5, 6, 7, 8, 9, 10, 11, 12, 13, 14, 15, 16, 17, 18, 19, 20, 21, 22, 23, 37] [24, 25, 26, 27, 28, 29, 30, 31, 32, 33, 34, 35, 36] rfl rfl (by decide) (by decide) hk1 hFc hP1 hD1
  generalize H1 = H at hP hS ⊢
  have hP := hP.sub (ws' := (w3 a cI cZ nk pa fa v_c_1 v_cf_2 v_ct_3 v_cg_4 nt tb te tk tt nu ub ue uk ut re ro fu bl go ra rc ex tc es wy) ++ ((w4 b cI cZ tw nk pa nc fo th tg nt tb4 te4 tk4 tt4 ex tc es wy ab re4 go4 be) ++ ([(ou, .inl (cJ, 1, .inr (.inl fz9_5)))]))) [13, 14, 15, 16, 17, 18, 19, 20, 21, 22, 23, 24, 25, 26, 27, 28, 29, 30, 31, 32, 33, 34, 35, 36, 0, 1, 2, 3, 4, 5, 6, 7, 8, 9, 10, 11, 12, 37] rfl
  have hD := hD.sub (ws' := (w3 a cI cZ nk pa fa v_c_1 v_cf_2 v_ct_3 v_cg_4 nt tb te tk tt nu ub ue uk ut re ro fu bl go ra rc ex tc es wy) ++ ((w4 b cI cZ tw nk pa nc fo th tg nt tb4 te4 tk4 tt4 ex tc es wy ab re4 go4 be) ++ ([(ou, .inl (cJ, 1, .inr (.inl fz9_5)))]))) [13, 14, 15, 16, 17, 18, 19, 20, 21, 22, 23, 24, 25, 26, 27, 28, 29, 30, 31, 32, 33, 34, 35, 36, 0, 1, 2, 3, 4, 5, 6, 7, 8, 9, 10, 11, 12, 37] (by decide) rfl
  have hP : va_P (dC, dI) vwCl ((w3 a cI cZ nk pa fa v_c_1 v_cf_2 v_ct_3 v_cg_4 nt tb te tk tt nu ub ue uk ut re ro fu bl go ra rc ex tc es wy) ++ ((w4 b cI cZ tw nk pa nc fo th tg nt tb4 te4 tk4 tt4 ex tc es wy ab re4 go4 be) ++ ([(ou, .inl (cJ, 1, .inr (.inl fz9_5)))]))) H := hP
  have hD : va_D A ((w3 a cI cZ nk pa fa v_c_1 v_cf_2 v_ct_3 v_cg_4 nt tb te tk tt nu ub ue uk ut re ro fu bl go ra rc ex tc es wy) ++ ((w4 b cI cZ tw nk pa nc fo th tg nt tb4 te4 tk4 tt4 ex tc es wy ab re4 go4 be) ++ ([(ou, .inl (cJ, 1, .inr (.inl fz9_5)))]))) := hD
  refine W.widen (k := k0 + 2) (n := n0 + 12) (by omega) (by omega) ?_
  rcases hw with ⟨h_7, h_8, h_9, h_10, h_11, h_12, ⟨⟨h_13, h_14⟩, h_15⟩⟩ | ⟨h_16, h_17, h_18, h_19, h_20, h_21, h_22⟩ | ⟨h_23, ⟨h_24, h_25⟩, h_26, h_27, h_28, h_29, h_30⟩
  · skip
    replace h_7 := h_7.symm
    subst h_7
    replace h_8 := h_8.symm
    subst h_8
    replace h_9 := h_9.symm
    subst h_9
    replace h_10 := h_10.symm
    subst h_10
    replace h_11 := h_11.symm
    subst h_11
    replace h_12 := h_12.symm
    subst h_12
    have hP : va_P (dC, dI) vwCl ((w3 a cI cZ nk pa fa (nc + 1) (upd fo nc 0) (upd th nc (xs (i + 1))) (upd tg nc (-1)) nt tb te tk tt nu ub ue uk ut re ro fu bl go ra rc ex tc es wy) ++ ((w4 b cI cZ tw nk pa nc fo th tg nt tb4 te4 tk4 tt4 ex tc es wy ab re4 go4 be) ++ ([(ou, .inl (cJ, 1, .inr (.inl (vp_updL fz 0 ((nI nc).toInt64)))))]))) H := hP
    have hD : va_D A ((w3 a cI cZ nk pa fa (nc + 1) (upd fo nc 0) (upd th nc (xs (i + 1))) (upd tg nc (-1)) nt tb te tk tt nu ub ue uk ut re ro fu bl go ra rc ex tc es wy) ++ ((w4 b cI cZ tw nk pa nc fo th tg nt tb4 te4 tk4 tt4 ex tc es wy ab re4 go4 be) ++ ([(ou, .inl (cJ, 1, .inr (.inl (vp_updL fz 0 ((nI nc).toInt64)))))]))) := hD
    refine lv_istore (lv' := [(5, .int 0), (0, .ref sb), (1, .ref (a 0)), (2, .ref (b 0)), (3, .ref ou), (4, .int (nI i))]) hx hb dL_law_403 hl (by decide) rfl (fun ls hl => ?_)
    refine lv_aload_n hx hb dL_law_405 rfl (lv_at hl 3 rfl) ?_
    refine lv_aload_n hx hb dL_law_406 rfl (lv_at hl 1 rfl) ?_
    refine lv_iload hx hb dL_law_407 (lv_at hl 5 rfl) ?_
    refine lv_iconst (v := 1) hx hb dL_law_409 (by decide) ?_
    refine lv_iadd hx hb dL_law_410 ?_
    refine zz_top (y := nI (i + 1)) (nI_add _ _) ?_
    refine va_sld hx hb hX hbl hbA hS (vp_in_nI (n := i + 1) (by omega) (by omega)) dL_law_411 ?_
    refine zz_top (y := xs (i + 1)) (congrArg _ (nI_clamp (by omega))) ?_
    have hPc := hP.sub (ws' := w4 b cI cZ tw nk pa nc fo th tg nt tb4 te4 tk4 tt4 ex tc es wy ab re4 go4 be) [24, 25, 26, 27, 28, 29, 30, 31, 32, 33, 34, 35, 36] rfl
    have hDc := hD.sub (ws' := w4 b cI cZ tw nk pa nc fo th tg nt tb4 te4 tk4 tt4 ex tc es wy ab re4 go4 be) [24, 25, 26, 27, 28, 29, 30, 31, 32, 33, 34, 35, 36] (by decide) rfl
    have hFc := va_free (wc := w4 b cI cZ tw nk pa nc fo th tg nt tb4 te4 tk4 tt4 ex tc es wy ab re4 go4 be) hD hS hA [24, 25, 26, 27, 28, 29, 30, 31, 32, 33, 34, 35, 36] rfl
    refine va_calli (va_runV (As := [.int (xs (i + 1))]) (rest := []) ⟨hx, hb, hml, hown, hts⟩ (c_X4_step l dC dI cI cZ cJ b tw nk pa nc fo th tg nt tb4 te4 tk4 tt4 ex tc es wy ab re4 go4 be (xs (i + 1)) T up H.size (by first | assumption | omega) (by first | assumption | omega)) (cwV 1 hts gL_law_X4_step rfl rfl rfl (by decide +kernel) ⟨Nat.le_of_ble_eq_true rfl, Nat.le_of_ble_eq_true rfl⟩) ⟨zWr_blind, va_recv hK hPc (ci := 4) (q0 := 0) rfl rfl, zWr_at hPc hK hn (hDc.weaken (fun _ _ _ _ => trivial))⟩ rfl rfl hl.1 rfl (lv_room (Nat.le_of_ble_eq_true rfl)) dL_law_412 ⟨by show _ ≤ 601024; omega, by show _ ≤ 7293034; omega⟩) hS (fun q _ h => hFc q h) hFc (fun r_31 u_9 t H1 locs ht hvm hw hB hz1 hk1 hS => ?_)
    obtain ⟨tw9_31, nc9_32, fo9_33, th9_34, tg9_35⟩ := u_9
    dsimp only at hw hB
    obtain ⟨hP1, -, hD1⟩ := hB
    rw [ht] at hP1
    obtain ⟨hP, hD⟩ := va_join (wr := (w3 a cI cZ nk pa fa (nc + 1) (upd fo nc 0) (upd th nc (xs (i + 1))) (upd tg nc (-1)) nt tb te tk tt nu ub ue uk ut re ro fu bl go ra rc ex tc es wy) ++ ([(ou, .inl (cJ, 1, .inr (.inl (vp_updL fz 0 ((nI nc).toInt64)))))])) (w1 := w4 b cI cZ tw9_31 nk pa nc9_32 fo9_33 th9_34 tg9_35 nt tb4 te4 tk4 tt4 ex tc es wy ab re4 go4 be) hP hD [24, 25, 26, 27, 28, 29, 30, 31, 32, 33, 34, 35, 36] [0, 1, 2, 3, 4, 5, 6, 7, 8, 9, 10, 11, 12, 13, 14, 15, 16, 17, 18, 19, 20, 21, 22, 23, 37] rfl rfl (by decide) (by decide) hk1 hFc hP1 hD1
    generalize H1 = H at hP hS ⊢
    have hP := hP.sub (ws' := (w3 a cI cZ nk pa fa (nc + 1) (upd fo nc 0) (upd th nc (xs (i + 1))) (upd tg nc (-1)) nt tb te tk tt nu ub ue uk ut re ro fu bl go ra rc ex tc es wy) ++ ((w4 b cI cZ tw9_31 nk pa nc9_32 fo9_33 th9_34 tg9_35 nt tb4 te4 tk4 tt4 ex tc es wy ab re4 go4 be) ++ ([(ou, .inl (cJ, 1, .inr (.inl (vp_updL fz 0 ((nI nc).toInt64)))))]))) [0, 1, 2, 3, 4, 5, 6, 7, 8, 9, 10, 11, 12, 13, 14, 15, 16, 17, 18, 19, 20, 21, 22, 23, 25, 26, 27, 28, 29, 30, 31, 32, 33, 34, 35, 36, 37, 24] rfl
    have hD := hD.sub (ws' := (w3 a cI cZ nk pa fa (nc + 1) (upd fo nc 0) (upd th nc (xs (i + 1))) (upd tg nc (-1)) nt tb te tk tt nu ub ue uk ut re ro fu bl go ra rc ex tc es wy) ++ ((w4 b cI cZ tw9_31 nk pa nc9_32 fo9_33 th9_34 tg9_35 nt tb4 te4 tk4 tt4 ex tc es wy ab re4 go4 be) ++ ([(ou, .inl (cJ, 1, .inr (.inl (vp_updL fz 0 ((nI nc).toInt64)))))]))) [0, 1, 2, 3, 4, 5, 6, 7, 8, 9, 10, 11, 12, 13, 14, 15, 16, 17, 18, 19, 20, 21, 22, 23, 25, 26, 27, 28, 29, 30, 31, 32, 33, 34, 35, 36, 37, 24] (by decide) rfl
    have hP : va_P (dC, dI) vwCl ((w3 a cI cZ nk pa fa (nc + 1) (upd fo nc 0) (upd th nc (xs (i + 1))) (upd tg nc (-1)) nt tb te tk tt nu ub ue uk ut re ro fu bl go ra rc ex tc es wy) ++ ((w4 b cI cZ tw9_31 nk pa nc9_32 fo9_33 th9_34 tg9_35 nt tb4 te4 tk4 tt4 ex tc es wy ab re4 go4 be) ++ ([(ou, .inl (cJ, 1, .inr (.inl (vp_updL fz 0 ((nI nc).toInt64)))))]))) H := hP
    have hD : va_D A ((w3 a cI cZ nk pa fa (nc + 1) (upd fo nc 0) (upd th nc (xs (i + 1))) (upd tg nc (-1)) nt tb te tk tt nu ub ue uk ut re ro fu bl go ra rc ex tc es wy) ++ ((w4 b cI cZ tw9_31 nk pa nc9_32 fo9_33 th9_34 tg9_35 nt tb4 te4 tk4 tt4 ex tc es wy ab re4 go4 be) ++ ([(ou, .inl (cJ, 1, .inr (.inl (vp_updL fz 0 ((nI nc).toInt64)))))]))) := hD
    rcases hw with ⟨h_37, h_38, h_39, h_40, h_41, h_42⟩ | ⟨h_43, h_44, h_45, h_46, h_47, h_48, h_49⟩ | ⟨h_50, h_51, h_52, h_53, h_54, h_55, h_56, h_57⟩
    · skip
      exact absurd (h_13.symm.trans h_37) (by decide)
    · skip
      omega
    · skip
      replace h_52 := h_52.symm
      subst h_52
      replace h_53 := h_53.symm
      subst h_53
      replace h_54 := h_54.symm
      subst h_54
      replace h_55 := h_55.symm
      subst h_55
      replace h_56 := h_56.symm
      subst h_56
      replace h_57 := h_57.symm
      subst h_57
      have hP : va_P (dC, dI) vwCl ((w3 a cI cZ nk pa fa (nc + 1) (upd fo nc 0) (upd th nc (xs (i + 1))) (upd tg nc (-1)) nt tb te tk tt nu ub ue uk ut re ro fu bl go ra rc ex tc es wy) ++ ((w4 b cI cZ 0 nk pa (nc + 1) (upd fo nc 0) (upd th nc (xs (i + 1))) (upd tg nc (-1)) nt tb4 te4 tk4 tt4 ex tc es wy ab re4 go4 be) ++ ([(ou, .inl (cJ, 1, .inr (.inl (vp_updL fz 0 ((nI nc).toInt64)))))]))) H := hP
      have hD : va_D A ((w3 a cI cZ nk pa fa (nc + 1) (upd fo nc 0) (upd th nc (xs (i + 1))) (upd tg nc (-1)) nt tb te tk tt nu ub ue uk ut re ro fu bl go ra rc ex tc es wy) ++ ((w4 b cI cZ 0 nk pa (nc + 1) (upd fo nc 0) (upd th nc (xs (i + 1))) (upd tg nc (-1)) nt tb4 te4 tk4 tt4 ex tc es wy ab re4 go4 be) ++ ([(ou, .inl (cJ, 1, .inr (.inl (vp_updL fz 0 ((nI nc).toInt64)))))]))) := hD
      refine lv_istore (lv' := [(6, .int (nI nc)), (5, .int 0), (0, .ref sb), (1, .ref (a 0)), (2, .ref (b 0)), (3, .ref ou), (4, .int (nI i))]) hx hb dL_law_415 hl (by decide) rfl (fun ls hl => ?_)
      refine lv_aload_n hx hb dL_law_417 rfl (lv_at hl 4 rfl) ?_
      have hPc := hP.sub (ws' := w4 b cI cZ 0 nk pa (nc + 1) (upd fo nc 0) (upd th nc (xs (i + 1))) (upd tg nc (-1)) nt tb4 te4 tk4 tt4 ex tc es wy ab re4 go4 be) [24, 25, 26, 27, 28, 29, 30, 31, 32, 33, 34, 35, 36] rfl
      refine va_calli (va_runV (As := []) (rest := []) ⟨hx, hb, hml, hown, hts⟩ (c_X4_thrown l dC dI cI cZ cJ b 0 nk pa (nc + 1) (upd fo nc 0) (upd th nc (xs (i + 1))) (upd tg nc (-1)) nt tb4 te4 tk4 tt4 ex tc es wy ab re4 go4 be ) (cwV 0 hts gL_law_X4_thrown rfl rfl rfl (by decide +kernel) ⟨Nat.le_of_ble_eq_true rfl, Nat.le_of_ble_eq_true rfl⟩) ⟨zPre_blind, va_recv hK hPc (ci := 4) (q0 := 0) rfl rfl, zPre_at hPc hK hn⟩ rfl rfl hl.1 rfl (lv_room (Nat.le_of_ble_eq_true rfl)) dL_law_418 ⟨by show _ ≤ 601024; omega, by show _ ≤ 7293034; omega⟩) hS (fun _ _ h => h.elim) (fun _ h => h.elim) (fun r_58 u_9 t H locs ht hvm hw hB hz1 hk1 hS => ?_)
      have hP := zkeep hP hk1
      subst hw
      refine lv_iload hx hb dL_law_421 (lv_at hl 1 rfl) ?_
      refine lv_icmp_eq (tgt := 428) hx hb dL_law_423 (by decide) (fun c_59 => ?_) (fun c_59 => ?_)
      · skip
        refine lv_iload hx hb dL_law_428 (lv_at hl 1 rfl) ?_
        refine lv_if_ne (tgt := 445) hx hb dL_law_430 (by decide) (fun c_60 => ?_) (fun c_60 => ?_)
        · exact absurd c_60 (by decide)
        · skip
          refine lv_aload_n hx hb dL_law_433 rfl (lv_at hl 5 rfl) ?_
          refine lv_iconst (v := 0) hx hb dL_law_434 (by decide) ?_
          refine va_lald hx hb hK hP 37 2 rfl rfl (vp_in_nI (n := 0) (by omega) (by decide)) dL_law_435 ?_
          refine zz_topl (y := (vp_updL fz 0 ((nI nc).toInt64)) 0) (rfl) ?_
          refine lv_iload hx hb dL_law_436 (lv_at hl 0 rfl) ?_
          refine lv_i2l (v := (nI nc).toInt64) hx hb dL_law_438 rfl ?_
          refine W.lcmp hx hb dL_law_439 ?_
          refine lv_if_eq (tgt := 445) hx hb dL_law_440 (by decide) (fun c_61 => ?_) (fun c_61 => ?_)
          · skip
            skip
            refine lv_goto (tgt := 1475) hx hb dL_law_445 (by decide) ?_
            refine W.widen (k := k0 + 100) (n := n0 + 3000) (by omega) (by omega) ?_
            exact K nk pa fa (nc + 1) (upd fo nc 0) (upd th nc (xs (i + 1))) (upd tg nc (-1)) nt tb te tk tt nu ub ue uk ut re ro fu bl go ra rc ex tc es wy 0 tb4 te4 tk4 tt4 ab re4 go4 be (vp_updL fz 0 ((nI nc).toInt64)) T up _ _ _ (by first | assumption | omega) (by first | assumption | omega) (by first | assumption | omega) hP hD hS (lv_sub hl [2, 3, 4, 5, 6] rfl)
          · exact absurd ((lg_cmp_eq _ _).mpr (by first | rfl | exact (bL_t hz9).symm | exact (bL_f hz9).symm)) c_61
      · exact absurd c_59 (by decide)
  · skip
    replace h_16 := h_16.symm
    subst h_16
    replace h_18 := h_18.symm
    subst h_18
    replace h_19 := h_19.symm
    subst h_19
    replace h_20 := h_20.symm
    subst h_20
    replace h_21 := h_21.symm
    subst h_21
    replace h_22 := h_22.symm
    subst h_22
    have hP : va_P (dC, dI) vwCl ((w3 a cI cZ nk pa fa nc fo th tg nt tb te tk tt nu ub ue uk ut re ro fu bl go ra rc ex tc es wy) ++ ((w4 b cI cZ tw nk pa nc fo th tg nt tb4 te4 tk4 tt4 ex tc es wy ab re4 go4 be) ++ ([(ou, .inl (cJ, 1, .inr (.inl fz)))]))) H := hP
    have hD : va_D A ((w3 a cI cZ nk pa fa nc fo th tg nt tb te tk tt nu ub ue uk ut re ro fu bl go ra rc ex tc es wy) ++ ((w4 b cI cZ tw nk pa nc fo th tg nt tb4 te4 tk4 tt4 ex tc es wy ab re4 go4 be) ++ ([(ou, .inl (cJ, 1, .inr (.inl fz)))]))) := hD
    refine lv_istore (lv' := [(5, .int 1), (0, .ref sb), (1, .ref (a 0)), (2, .ref (b 0)), (3, .ref ou), (4, .int (nI i))]) hx hb dL_law_403 hl (by decide) rfl (fun ls hl => ?_)
    refine lv_aload_n hx hb dL_law_405 rfl (lv_at hl 3 rfl) ?_
    refine lv_aload_n hx hb dL_law_406 rfl (lv_at hl 1 rfl) ?_
    refine lv_iload hx hb dL_law_407 (lv_at hl 5 rfl) ?_
    refine lv_iconst (v := 1) hx hb dL_law_409 (by decide) ?_
    refine lv_iadd hx hb dL_law_410 ?_
    refine zz_top (y := nI (i + 1)) (nI_add _ _) ?_
    refine va_sld hx hb hX hbl hbA hS (vp_in_nI (n := i + 1) (by omega) (by omega)) dL_law_411 ?_
    refine zz_top (y := xs (i + 1)) (congrArg _ (nI_clamp (by omega))) ?_
    have hPc := hP.sub (ws' := w4 b cI cZ tw nk pa nc fo th tg nt tb4 te4 tk4 tt4 ex tc es wy ab re4 go4 be) [24, 25, 26, 27, 28, 29, 30, 31, 32, 33, 34, 35, 36] rfl
    have hDc := hD.sub (ws' := w4 b cI cZ tw nk pa nc fo th tg nt tb4 te4 tk4 tt4 ex tc es wy ab re4 go4 be) [24, 25, 26, 27, 28, 29, 30, 31, 32, 33, 34, 35, 36] (by decide) rfl
    have hFc := va_free (wc := w4 b cI cZ tw nk pa nc fo th tg nt tb4 te4 tk4 tt4 ex tc es wy ab re4 go4 be) hD hS hA [24, 25, 26, 27, 28, 29, 30, 31, 32, 33, 34, 35, 36] rfl
    refine va_calli (va_runV (As := [.int (xs (i + 1))]) (rest := []) ⟨hx, hb, hml, hown, hts⟩ (c_X4_step l dC dI cI cZ cJ b tw nk pa nc fo th tg nt tb4 te4 tk4 tt4 ex tc es wy ab re4 go4 be (xs (i + 1)) T up H.size (by first | assumption | omega) (by first | assumption | omega)) (cwV 1 hts gL_law_X4_step rfl rfl rfl (by decide +kernel) ⟨Nat.le_of_ble_eq_true rfl, Nat.le_of_ble_eq_true rfl⟩) ⟨zWr_blind, va_recv hK hPc (ci := 4) (q0 := 0) rfl rfl, zWr_at hPc hK hn (hDc.weaken (fun _ _ _ _ => trivial))⟩ rfl rfl hl.1 rfl (lv_room (Nat.le_of_ble_eq_true rfl)) dL_law_412 ⟨by show _ ≤ 601024; omega, by show _ ≤ 7293034; omega⟩) hS (fun q _ h => hFc q h) hFc (fun r_62 u_9 t H1 locs ht hvm hw hB hz1 hk1 hS => ?_)
    obtain ⟨tw9_62, nc9_63, fo9_64, th9_65, tg9_66⟩ := u_9
    dsimp only at hw hB
    obtain ⟨hP1, -, hD1⟩ := hB
    rw [ht] at hP1
    obtain ⟨hP, hD⟩ := va_join (wr := (w3 a cI cZ nk pa fa nc fo th tg nt tb te tk tt nu ub ue uk ut re ro fu bl go ra rc ex tc es wy) ++ ([(ou, .inl (cJ, 1, .inr (.inl fz)))])) (w1 := w4 b cI cZ tw9_62 nk pa nc9_63 fo9_64 th9_65 tg9_66 nt tb4 te4 tk4 tt4 ex tc es wy ab re4 go4 be) hP hD [24, 25, 26, 27, 28, 29, 30, 31, 32, 33, 34, 35, 36] [0, 1, 2, 3, 4, 5, 6, 7, 8, 9, 10, 11, 12, 13, 14, 15, 16, 17, 18, 19, 20, 21, 22, 23, 37] rfl rfl (by decide) (by decide) hk1 hFc hP1 hD1
    generalize H1 = H at hP hS ⊢
    have hP := hP.sub (ws' := (w3 a cI cZ nk pa fa nc fo th tg nt tb te tk tt nu ub ue uk ut re ro fu bl go ra rc ex tc es wy) ++ ((w4 b cI cZ tw9_62 nk pa nc9_63 fo9_64 th9_65 tg9_66 nt tb4 te4 tk4 tt4 ex tc es wy ab re4 go4 be) ++ ([(ou, .inl (cJ, 1, .inr (.inl fz)))]))) [0, 1, 2, 3, 4, 5, 6, 7, 8, 9, 10, 11, 12, 13, 14, 15, 16, 17, 18, 19, 20, 21, 22, 23, 25, 26, 27, 28, 29, 30, 31, 32, 33, 34, 35, 36, 37, 24] rfl
    have hD := hD.sub (ws' := (w3 a cI cZ nk pa fa nc fo th tg nt tb te tk tt nu ub ue uk ut re ro fu bl go ra rc ex tc es wy) ++ ((w4 b cI cZ tw9_62 nk pa nc9_63 fo9_64 th9_65 tg9_66 nt tb4 te4 tk4 tt4 ex tc es wy ab re4 go4 be) ++ ([(ou, .inl (cJ, 1, .inr (.inl fz)))]))) [0, 1, 2, 3, 4, 5, 6, 7, 8, 9, 10, 11, 12, 13, 14, 15, 16, 17, 18, 19, 20, 21, 22, 23, 25, 26, 27, 28, 29, 30, 31, 32, 33, 34, 35, 36, 37, 24] (by decide) rfl
    have hP : va_P (dC, dI) vwCl ((w3 a cI cZ nk pa fa nc fo th tg nt tb te tk tt nu ub ue uk ut re ro fu bl go ra rc ex tc es wy) ++ ((w4 b cI cZ tw9_62 nk pa nc9_63 fo9_64 th9_65 tg9_66 nt tb4 te4 tk4 tt4 ex tc es wy ab re4 go4 be) ++ ([(ou, .inl (cJ, 1, .inr (.inl fz)))]))) H := hP
    have hD : va_D A ((w3 a cI cZ nk pa fa nc fo th tg nt tb te tk tt nu ub ue uk ut re ro fu bl go ra rc ex tc es wy) ++ ((w4 b cI cZ tw9_62 nk pa nc9_63 fo9_64 th9_65 tg9_66 nt tb4 te4 tk4 tt4 ex tc es wy ab re4 go4 be) ++ ([(ou, .inl (cJ, 1, .inr (.inl fz)))]))) := hD
    rcases hw with ⟨h_68, h_69, h_70, h_71, h_72, h_73⟩ | ⟨h_74, h_75, h_76, h_77, h_78, h_79, h_80⟩ | ⟨h_81, h_82, h_83, h_84, h_85, h_86, h_87, h_88⟩
    · skip
      replace h_69 := h_69.symm
      subst h_69
      replace h_70 := h_70.symm
      subst h_70
      replace h_71 := h_71.symm
      subst h_71
      replace h_72 := h_72.symm
      subst h_72
      replace h_73 := h_73.symm
      subst h_73
      have hP : va_P (dC, dI) vwCl ((w3 a cI cZ nk pa fa nc fo th tg nt tb te tk tt nu ub ue uk ut re ro fu bl go ra rc ex tc es wy) ++ ((w4 b cI cZ 1 nk pa nc fo th tg nt tb4 te4 tk4 tt4 ex tc es wy ab re4 go4 be) ++ ([(ou, .inl (cJ, 1, .inr (.inl fz)))]))) H := hP
      have hD : va_D A ((w3 a cI cZ nk pa fa nc fo th tg nt tb te tk tt nu ub ue uk ut re ro fu bl go ra rc ex tc es wy) ++ ((w4 b cI cZ 1 nk pa nc fo th tg nt tb4 te4 tk4 tt4 ex tc es wy ab re4 go4 be) ++ ([(ou, .inl (cJ, 1, .inr (.inl fz)))]))) := hD
      refine lv_istore (lv' := [(6, .int r_62), (5, .int 1), (0, .ref sb), (1, .ref (a 0)), (2, .ref (b 0)), (3, .ref ou), (4, .int (nI i))]) hx hb dL_law_415 hl (by decide) rfl (fun ls hl => ?_)
      refine lv_aload_n hx hb dL_law_417 rfl (lv_at hl 4 rfl) ?_
      have hPc := hP.sub (ws' := w4 b cI cZ 1 nk pa nc fo th tg nt tb4 te4 tk4 tt4 ex tc es wy ab re4 go4 be) [24, 25, 26, 27, 28, 29, 30, 31, 32, 33, 34, 35, 36] rfl
      refine va_calli (va_runV (As := []) (rest := []) ⟨hx, hb, hml, hown, hts⟩ (c_X4_thrown l dC dI cI cZ cJ b 1 nk pa nc fo th tg nt tb4 te4 tk4 tt4 ex tc es wy ab re4 go4 be ) (cwV 0 hts gL_law_X4_thrown rfl rfl rfl (by decide +kernel) ⟨Nat.le_of_ble_eq_true rfl, Nat.le_of_ble_eq_true rfl⟩) ⟨zPre_blind, va_recv hK hPc (ci := 4) (q0 := 0) rfl rfl, zPre_at hPc hK hn⟩ rfl rfl hl.1 rfl (lv_room (Nat.le_of_ble_eq_true rfl)) dL_law_418 ⟨by show _ ≤ 601024; omega, by show _ ≤ 7293034; omega⟩) hS (fun _ _ h => h.elim) (fun _ h => h.elim) (fun r_89 u_9 t H locs ht hvm hw hB hz1 hk1 hS => ?_)
      have hP := zkeep hP hk1
      subst hw
      refine lv_iload hx hb dL_law_421 (lv_at hl 1 rfl) ?_
      refine lv_icmp_eq (tgt := 428) hx hb dL_law_423 (by decide) (fun c_90 => ?_) (fun c_90 => ?_)
      · skip
        refine lv_iload hx hb dL_law_428 (lv_at hl 1 rfl) ?_
        refine lv_if_ne (tgt := 445) hx hb dL_law_430 (by decide) (fun c_91 => ?_) (fun c_91 => ?_)
        · skip
          refine lv_goto (tgt := 1475) hx hb dL_law_445 (by decide) ?_
          refine W.widen (k := k0 + 100) (n := n0 + 3000) (by omega) (by omega) ?_
          exact K nk pa fa nc fo th tg nt tb te tk tt nu ub ue uk ut re ro fu bl go ra rc ex tc es wy 1 tb4 te4 tk4 tt4 ab re4 go4 be fz T up _ _ _ (by first | assumption | omega) (by first | assumption | omega) (by first | assumption | omega) hP hD hS (lv_sub hl [2, 3, 4, 5, 6] rfl)
        · exact absurd c_91 (by decide)
      · exact absurd c_90 (by decide)
    · skip
      exact absurd (h_17.symm.trans h_74) (by decide)
    · skip
      exact absurd (h_17.symm.trans h_81) (by decide)
  · skip
    replace h_23 := h_23.symm
    subst h_23
    replace h_26 := h_26.symm
    subst h_26
    replace h_27 := h_27.symm
    subst h_27
    replace h_28 := h_28.symm
    subst h_28
    replace h_29 := h_29.symm
    subst h_29
    replace h_30 := h_30.symm
    subst h_30
    have hP : va_P (dC, dI) vwCl ((w3 a cI cZ nk pa fa nc fo th tg nt tb te tk tt nu ub ue uk ut re ro fu bl go ra rc ex tc es wy) ++ ((w4 b cI cZ tw nk pa nc fo th tg nt tb4 te4 tk4 tt4 ex tc es wy ab re4 go4 be) ++ ([(ou, .inl (cJ, 1, .inr (.inl fz)))]))) H := hP
    have hD : va_D A ((w3 a cI cZ nk pa fa nc fo th tg nt tb te tk tt nu ub ue uk ut re ro fu bl go ra rc ex tc es wy) ++ ((w4 b cI cZ tw nk pa nc fo th tg nt tb4 te4 tk4 tt4 ex tc es wy ab re4 go4 be) ++ ([(ou, .inl (cJ, 1, .inr (.inl fz)))]))) := hD
    refine lv_istore (lv' := [(5, .int 2), (0, .ref sb), (1, .ref (a 0)), (2, .ref (b 0)), (3, .ref ou), (4, .int (nI i))]) hx hb dL_law_403 hl (by decide) rfl (fun ls hl => ?_)
    refine lv_aload_n hx hb dL_law_405 rfl (lv_at hl 3 rfl) ?_
    refine lv_aload_n hx hb dL_law_406 rfl (lv_at hl 1 rfl) ?_
    refine lv_iload hx hb dL_law_407 (lv_at hl 5 rfl) ?_
    refine lv_iconst (v := 1) hx hb dL_law_409 (by decide) ?_
    refine lv_iadd hx hb dL_law_410 ?_
    refine zz_top (y := nI (i + 1)) (nI_add _ _) ?_
    refine va_sld hx hb hX hbl hbA hS (vp_in_nI (n := i + 1) (by omega) (by omega)) dL_law_411 ?_
    refine zz_top (y := xs (i + 1)) (congrArg _ (nI_clamp (by omega))) ?_
    have hPc := hP.sub (ws' := w4 b cI cZ tw nk pa nc fo th tg nt tb4 te4 tk4 tt4 ex tc es wy ab re4 go4 be) [24, 25, 26, 27, 28, 29, 30, 31, 32, 33, 34, 35, 36] rfl
    have hDc := hD.sub (ws' := w4 b cI cZ tw nk pa nc fo th tg nt tb4 te4 tk4 tt4 ex tc es wy ab re4 go4 be) [24, 25, 26, 27, 28, 29, 30, 31, 32, 33, 34, 35, 36] (by decide) rfl
    have hFc := va_free (wc := w4 b cI cZ tw nk pa nc fo th tg nt tb4 te4 tk4 tt4 ex tc es wy ab re4 go4 be) hD hS hA [24, 25, 26, 27, 28, 29, 30, 31, 32, 33, 34, 35, 36] rfl
    refine va_calli (va_runV (As := [.int (xs (i + 1))]) (rest := []) ⟨hx, hb, hml, hown, hts⟩ (c_X4_step l dC dI cI cZ cJ b tw nk pa nc fo th tg nt tb4 te4 tk4 tt4 ex tc es wy ab re4 go4 be (xs (i + 1)) T up H.size (by first | assumption | omega) (by first | assumption | omega)) (cwV 1 hts gL_law_X4_step rfl rfl rfl (by decide +kernel) ⟨Nat.le_of_ble_eq_true rfl, Nat.le_of_ble_eq_true rfl⟩) ⟨zWr_blind, va_recv hK hPc (ci := 4) (q0 := 0) rfl rfl, zWr_at hPc hK hn (hDc.weaken (fun _ _ _ _ => trivial))⟩ rfl rfl hl.1 rfl (lv_room (Nat.le_of_ble_eq_true rfl)) dL_law_412 ⟨by show _ ≤ 601024; omega, by show _ ≤ 7293034; omega⟩) hS (fun q _ h => hFc q h) hFc (fun r_92 u_9 t H1 locs ht hvm hw hB hz1 hk1 hS => ?_)
    obtain ⟨tw9_92, nc9_93, fo9_94, th9_95, tg9_96⟩ := u_9
    dsimp only at hw hB
    obtain ⟨hP1, -, hD1⟩ := hB
    rw [ht] at hP1
    obtain ⟨hP, hD⟩ := va_join (wr := (w3 a cI cZ nk pa fa nc fo th tg nt tb te tk tt nu ub ue uk ut re ro fu bl go ra rc ex tc es wy) ++ ([(ou, .inl (cJ, 1, .inr (.inl fz)))])) (w1 := w4 b cI cZ tw9_92 nk pa nc9_93 fo9_94 th9_95 tg9_96 nt tb4 te4 tk4 tt4 ex tc es wy ab re4 go4 be) hP hD [24, 25, 26, 27, 28, 29, 30, 31, 32, 33, 34, 35, 36] [0, 1, 2, 3, 4, 5, 6, 7, 8, 9, 10, 11, 12, 13, 14, 15, 16, 17, 18, 19, 20, 21, 22, 23, 37] rfl rfl (by decide) (by decide) hk1 hFc hP1 hD1
    generalize H1 = H at hP hS ⊢
    have hP := hP.sub (ws' := (w3 a cI cZ nk pa fa nc fo th tg nt tb te tk tt nu ub ue uk ut re ro fu bl go ra rc ex tc es wy) ++ ((w4 b cI cZ tw9_92 nk pa nc9_93 fo9_94 th9_95 tg9_96 nt tb4 te4 tk4 tt4 ex tc es wy ab re4 go4 be) ++ ([(ou, .inl (cJ, 1, .inr (.inl fz)))]))) [0, 1, 2, 3, 4, 5, 6, 7, 8, 9, 10, 11, 12, 13, 14, 15, 16, 17, 18, 19, 20, 21, 22, 23, 25, 26, 27, 28, 29, 30, 31, 32, 33, 34, 35, 36, 37, 24] rfl
    have hD := hD.sub (ws' := (w3 a cI cZ nk pa fa nc fo th tg nt tb te tk tt nu ub ue uk ut re ro fu bl go ra rc ex tc es wy) ++ ((w4 b cI cZ tw9_92 nk pa nc9_93 fo9_94 th9_95 tg9_96 nt tb4 te4 tk4 tt4 ex tc es wy ab re4 go4 be) ++ ([(ou, .inl (cJ, 1, .inr (.inl fz)))]))) [0, 1, 2, 3, 4, 5, 6, 7, 8, 9, 10, 11, 12, 13, 14, 15, 16, 17, 18, 19, 20, 21, 22, 23, 25, 26, 27, 28, 29, 30, 31, 32, 33, 34, 35, 36, 37, 24] (by decide) rfl
    have hP : va_P (dC, dI) vwCl ((w3 a cI cZ nk pa fa nc fo th tg nt tb te tk tt nu ub ue uk ut re ro fu bl go ra rc ex tc es wy) ++ ((w4 b cI cZ tw9_92 nk pa nc9_93 fo9_94 th9_95 tg9_96 nt tb4 te4 tk4 tt4 ex tc es wy ab re4 go4 be) ++ ([(ou, .inl (cJ, 1, .inr (.inl fz)))]))) H := hP
    have hD : va_D A ((w3 a cI cZ nk pa fa nc fo th tg nt tb te tk tt nu ub ue uk ut re ro fu bl go ra rc ex tc es wy) ++ ((w4 b cI cZ tw9_92 nk pa nc9_93 fo9_94 th9_95 tg9_96 nt tb4 te4 tk4 tt4 ex tc es wy ab re4 go4 be) ++ ([(ou, .inl (cJ, 1, .inr (.inl fz)))]))) := hD
    rcases hw with ⟨h_98, h_99, h_100, h_101, h_102, h_103⟩ | ⟨h_104, h_105, h_106, h_107, h_108, h_109, h_110⟩ | ⟨h_111, h_112, h_113, h_114, h_115, h_116, h_117, h_118⟩
    · skip
      exact absurd (h_24.symm.trans h_98) (by decide)
    · skip
      replace h_106 := h_106.symm
      subst h_106
      replace h_107 := h_107.symm
      subst h_107
      replace h_108 := h_108.symm
      subst h_108
      replace h_109 := h_109.symm
      subst h_109
      replace h_110 := h_110.symm
      subst h_110
      have hP : va_P (dC, dI) vwCl ((w3 a cI cZ nk pa fa nc fo th tg nt tb te tk tt nu ub ue uk ut re ro fu bl go ra rc ex tc es wy) ++ ((w4 b cI cZ 2 nk pa nc fo th tg nt tb4 te4 tk4 tt4 ex tc es wy ab re4 go4 be) ++ ([(ou, .inl (cJ, 1, .inr (.inl fz)))]))) H := hP
      have hD : va_D A ((w3 a cI cZ nk pa fa nc fo th tg nt tb te tk tt nu ub ue uk ut re ro fu bl go ra rc ex tc es wy) ++ ((w4 b cI cZ 2 nk pa nc fo th tg nt tb4 te4 tk4 tt4 ex tc es wy ab re4 go4 be) ++ ([(ou, .inl (cJ, 1, .inr (.inl fz)))]))) := hD
      refine lv_istore (lv' := [(6, .int r_92), (5, .int 2), (0, .ref sb), (1, .ref (a 0)), (2, .ref (b 0)), (3, .ref ou), (4, .int (nI i))]) hx hb dL_law_415 hl (by decide) rfl (fun ls hl => ?_)
      refine lv_aload_n hx hb dL_law_417 rfl (lv_at hl 4 rfl) ?_
      have hPc := hP.sub (ws' := w4 b cI cZ 2 nk pa nc fo th tg nt tb4 te4 tk4 tt4 ex tc es wy ab re4 go4 be) [24, 25, 26, 27, 28, 29, 30, 31, 32, 33, 34, 35, 36] rfl
      refine va_calli (va_runV (As := []) (rest := []) ⟨hx, hb, hml, hown, hts⟩ (c_X4_thrown l dC dI cI cZ cJ b 2 nk pa nc fo th tg nt tb4 te4 tk4 tt4 ex tc es wy ab re4 go4 be ) (cwV 0 hts gL_law_X4_thrown rfl rfl rfl (by decide +kernel) ⟨Nat.le_of_ble_eq_true rfl, Nat.le_of_ble_eq_true rfl⟩) ⟨zPre_blind, va_recv hK hPc (ci := 4) (q0 := 0) rfl rfl, zPre_at hPc hK hn⟩ rfl rfl hl.1 rfl (lv_room (Nat.le_of_ble_eq_true rfl)) dL_law_418 ⟨by show _ ≤ 601024; omega, by show _ ≤ 7293034; omega⟩) hS (fun _ _ h => h.elim) (fun _ h => h.elim) (fun r_119 u_9 t H locs ht hvm hw hB hz1 hk1 hS => ?_)
      have hP := zkeep hP hk1
      subst hw
      refine lv_iload hx hb dL_law_421 (lv_at hl 1 rfl) ?_
      refine lv_icmp_eq (tgt := 428) hx hb dL_law_423 (by decide) (fun c_120 => ?_) (fun c_120 => ?_)
      · skip
        refine lv_iload hx hb dL_law_428 (lv_at hl 1 rfl) ?_
        refine lv_if_ne (tgt := 445) hx hb dL_law_430 (by decide) (fun c_121 => ?_) (fun c_121 => ?_)
        · skip
          refine lv_goto (tgt := 1475) hx hb dL_law_445 (by decide) ?_
          refine W.widen (k := k0 + 100) (n := n0 + 3000) (by omega) (by omega) ?_
          exact K nk pa fa nc fo th tg nt tb te tk tt nu ub ue uk ut re ro fu bl go ra rc ex tc es wy 2 tb4 te4 tk4 tt4 ab re4 go4 be fz T up _ _ _ (by first | assumption | omega) (by first | assumption | omega) (by first | assumption | omega) hP hD hS (lv_sub hl [2, 3, 4, 5, 6] rfl)
        · exact absurd c_121 (by decide)
      · exact absurd c_120 (by decide)
    · skip
      omega

set_option maxHeartbeats 4000000 in
set_option maxRecDepth 100000 in
theorem lk_21 {p : Program} {e : Env} {s : State} {m : MethodId} {below : List Frame} {meth : Method} {c : Code} {Q : State → Prop} (l : Launch) {sb L : Nat} {xs : Nat → Int32} (dC : Nat → ClassId) (dI : Nat → Nat → Nat) (cI cZ cJ : ClassId) (a b : Nat → Nat) (ou i k0 n0 : Nat) (hF0 : lwF p l s m c sb L xs dC dI cI cZ cJ) (hi : i + 5 ≤ L) (hk0 : k0 + 100 ≤ 601024) (hn0 : n0 + 3000 ≤ 7293034) (nk : Nat) (pa : Nat → Int32) (fa : Nat → Int32) (nc : Nat) (fo : Nat → Int32) (th : Nat → Int32) (tg : Nat → Int32) (nt : Nat) (tb : Nat → Int32) (te : Nat → Int32) (tk : Nat → Int32) (tt : Nat → Int32) (nu : Nat) (ub : Nat → Int32) (ue : Nat → Int32) (uk : Nat → Int32) (ut : Nat → Int32) (re : Nat → Int32) (ro : Nat → Int32) (fu : Nat → Int32) (bl : Nat → Int32) (go : Nat → Int32) (ra : Nat → Int32) (rc : Nat) (ex : Int32) (tc : Int32) (es : Int32) (wy : Int64) (tw : Int32) (tb4 : Nat → Int32) (te4 : Nat → Int32) (tk4 : Nat → Int32) (tt4 : Nat → Int32) (ab : Nat → Int32) (re4 : Nat → Int32) (go4 : Nat → Int32) (be : Nat → Int32) (fz : Nat → Int64) (T : Nat → Nat → Nat) (up : Nat → Nat → Bool) (hg : g3 nk fa up nt tb te tk tt T) (hg4 : g4 nk ab up nt tb4 te4 tk4 tt4 T) (hc : okC nk nc fo th tg) (H : Heap) (locs : List Loc) (ls : Array Slot) (hP : va_P (dC, dI) vwCl ((w3 a cI cZ nk pa fa nc fo th tg nt tb te tk tt nu ub ue uk ut re ro fu bl go ra rc ex tc es wy) ++ ((w4 b cI cZ tw nk pa nc fo th tg nt tb4 te4 tk4 tt4 ex tc es wy ab re4 go4 be) ++ ([(ou, .inl (cJ, 1, .inr (.inl fz)))]))) H) (hD : va_D (fun q => s.heap.size ≤ q) ((w3 a cI cZ nk pa fa nc fo th tg nt tb te tk tt nu ub ue uk ut re ro fu bl go ra rc ex tc es wy) ++ ((w4 b cI cZ tw nk pa nc fo th tg nt tb4 te4 tk4 tt4 ex tc es wy ab re4 go4 be) ++ ([(ou, .inl (cJ, 1, .inr (.inl fz)))])))) (hS : va_S (fun q => s.heap.size ≤ q) s.heap H locs) (hl : lv_has ls 9 [(0, .ref sb), (1, .ref (a 0)), (2, .ref (b 0)), (3, .ref ou), (4, .int (nI i))]) (K : ∀ (nk : Nat) (pa : Nat → Int32) (fa : Nat → Int32) (nc : Nat) (fo : Nat → Int32) (th : Nat → Int32) (tg : Nat → Int32) (nt : Nat) (tb : Nat → Int32) (te : Nat → Int32) (tk : Nat → Int32) (tt : Nat → Int32) (nu : Nat) (ub : Nat → Int32) (ue : Nat → Int32) (uk : Nat → Int32) (ut : Nat → Int32) (re : Nat → Int32) (ro : Nat → Int32) (fu : Nat → Int32) (bl : Nat → Int32) (go : Nat → Int32) (ra : Nat → Int32) (rc : Nat) (ex : Int32) (tc : Int32) (es : Int32) (wy : Int64) (tw : Int32) (tb4 : Nat → Int32) (te4 : Nat → Int32) (tk4 : Nat → Int32) (tt4 : Nat → Int32) (ab : Nat → Int32) (re4 : Nat → Int32) (go4 : Nat → Int32) (be : Nat → Int32) (fz : Nat → Int64) (T : Nat → Nat → Nat) (up : Nat → Nat → Bool) (H : Heap) (locs : List Loc) (ls : Array Slot), g3 nk fa up nt tb te tk tt T → g4 nk ab up nt tb4 te4 tk4 tt4 T → okC nk nc fo th tg → va_P (dC, dI) vwCl ((w3 a cI cZ nk pa fa nc fo th tg nt tb te tk tt nu ub ue uk ut re ro fu bl go ra rc ex tc es wy) ++ ((w4 b cI cZ tw nk pa nc fo th tg nt tb4 te4 tk4 tt4 ex tc es wy ab re4 go4 be) ++ ([(ou, .inl (cJ, 1, .inr (.inl fz)))]))) H → va_D (fun q => s.heap.size ≤ q) ((w3 a cI cZ nk pa fa nc fo th tg nt tb te tk tt nu ub ue uk ut re ro fu bl go ra rc ex tc es wy) ++ ((w4 b cI cZ tw nk pa nc fo th tg nt tb4 te4 tk4 tt4 ex tc es wy ab re4 go4 be) ++ ([(ou, .inl (cJ, 1, .inr (.inl fz)))]))) → va_S (fun q => s.heap.size ≤ q) s.heap H locs → lv_has ls 9 [(0, .ref sb), (1, .ref (a 0)), (2, .ref (b 0)), (3, .ref ou), (4, .int (nI i))] → W p l e room_1 s m #[Value.ref sb] below meth c H locs (k0 + 100) (n0 + 3000) Q (F0 m 1475 ls [])) : W p l e room_1 s m #[Value.ref sb] below meth c H locs k0 n0 Q (F0 m 1243 ls []) := by
  obtain ⟨hx, hb, hml, hown, hts, hX, hbl, hL, hK, hn, hzt, hzu, hzc, hlt⟩ := id hF0
  obtain ⟨A, hAe⟩ : ∃ A : Nat → Prop, A = fun q => s.heap.size ≤ q := ⟨_, rfl⟩
  have hbA : ¬ A sb := by rw [hAe]; exact Nat.not_le.mpr hbl
  have hA : ∀ q : Nat, s.heap.size ≤ q → A q := fun q h => by rw [hAe]; exact h
  rw [← hAe] at hD hS hzu K
  refine lv_aload_n hx hb dL_law_1243 rfl (lv_at hl 1 rfl) ?_
  have hPc := hP.sub (ws' := w3 a cI cZ nk pa fa nc fo th tg nt tb te tk tt nu ub ue uk ut re ro fu bl go ra rc ex tc es wy) [0, 1, 2, 3, 4, 5, 6, 7, 8, 9, 10, 11, 12, 13, 14, 15, 16, 17, 18, 19, 20, 21, 22, 23] rfl
  have hDc := hD.sub (ws' := w3 a cI cZ nk pa fa nc fo th tg nt tb te tk tt nu ub ue uk ut re ro fu bl go ra rc ex tc es wy) [0, 1, 2, 3, 4, 5, 6, 7, 8, 9, 10, 11, 12, 13, 14, 15, 16, 17, 18, 19, 20, 21, 22, 23] (by decide) rfl
  have hFc := va_free (wc := w3 a cI cZ nk pa fa nc fo th tg nt tb te tk tt nu ub ue uk ut re ro fu bl go ra rc ex tc es wy) hD hS hA [0, 1, 2, 3, 4, 5, 6, 7, 8, 9, 10, 11, 12, 13, 14, 15, 16, 17, 18, 19, 20, 21, 22, 23] rfl
  refine va_calli (va_runV (As := []) (rest := []) ⟨hx, hb, hml, hown, hts⟩ (c_X3_drop l dC dI cI cZ cJ a nk pa fa nc fo th tg nt tb te tk tt nu ub ue uk ut re ro fu bl go ra rc ex tc es wy T up H.size (by first | assumption | omega) (by first | assumption | omega)) (cwV 0 hts gL_law_X3_drop rfl rfl rfl (by decide +kernel) ⟨Nat.le_of_ble_eq_true rfl, Nat.le_of_ble_eq_true rfl⟩) ⟨zWr_blind, va_recv hK hPc (ci := 3) (q0 := 0) rfl rfl, zWr_at hPc hK hn (hDc.weaken (fun _ _ _ _ => trivial))⟩ rfl rfl hl.1 rfl (lv_room (Nat.le_of_ble_eq_true rfl)) dL_law_1244 ⟨by show _ ≤ 601024; omega, by show _ ≤ 7293034; omega⟩) hS (fun q _ h => hFc q h) hFc (fun r_1 u_9 t H1 locs ht hvm hw hB hz1 hk1 hS => ?_)
  obtain ⟨re9_1, ro9_2, rc9_3, fu9_4, bl9_5, nt9_6, tb9_7, te9_8, tk9_9, tt9_10⟩ := u_9
  dsimp only at hw hB
  obtain ⟨hP1, -, hD1⟩ := hB
  rw [ht] at hP1
  obtain ⟨hP, hD⟩ := va_join (wr := (w4 b cI cZ tw nk pa nc fo th tg nt tb4 te4 tk4 tt4 ex tc es wy ab re4 go4 be) ++ ([(ou, .inl (cJ, 1, .inr (.inl fz)))])) (w1 := w3 a cI cZ nk pa fa nc fo th tg nt9_6 tb9_7 te9_8 tk9_9 tt9_10 nu ub ue uk ut re9_1 ro9_2 fu9_4 bl9_5 go ra rc9_3 ex tc es wy) hP hD [0, 1, 2, 3, 4, 5, 6, 7, 8, 9, 10, 11, 12, 13, 14, 15, 16, 17, 18, 19, 20, 21, 22, 23] [24, 25, 26, 27, 28, 29, 30, 31, 32, 33, 34, 35, 36, 37] rfl rfl (by decide) (by decide) hk1 hFc hP1 hD1
  generalize H1 = H at hP hS ⊢
  have hP := hP.sub (ws' := (w3 a cI cZ nk pa fa nc fo th tg nt9_6 tb9_7 te9_8 tk9_9 tt9_10 nu ub ue uk ut re9_1 ro9_2 fu9_4 bl9_5 go ra rc9_3 ex tc es wy) ++ ((w4 b cI cZ tw nk pa nc fo th tg nt tb4 te4 tk4 tt4 ex tc es wy ab re4 go4 be) ++ ([(ou, .inl (cJ, 1, .inr (.inl fz)))]))) [14, 15, 16, 17, 18, 19, 20, 21, 22, 23, 24, 25, 26, 27, 28, 29, 30, 31, 32, 33, 34, 35, 36, 37, 0, 1, 2, 3, 4, 5, 6, 7, 8, 9, 10, 11, 12, 13] rfl
  have hD := hD.sub (ws' := (w3 a cI cZ nk pa fa nc fo th tg nt9_6 tb9_7 te9_8 tk9_9 tt9_10 nu ub ue uk ut re9_1 ro9_2 fu9_4 bl9_5 go ra rc9_3 ex tc es wy) ++ ((w4 b cI cZ tw nk pa nc fo th tg nt tb4 te4 tk4 tt4 ex tc es wy ab re4 go4 be) ++ ([(ou, .inl (cJ, 1, .inr (.inl fz)))]))) [14, 15, 16, 17, 18, 19, 20, 21, 22, 23, 24, 25, 26, 27, 28, 29, 30, 31, 32, 33, 34, 35, 36, 37, 0, 1, 2, 3, 4, 5, 6, 7, 8, 9, 10, 11, 12, 13] (by decide) rfl
  have hP : va_P (dC, dI) vwCl ((w3 a cI cZ nk pa fa nc fo th tg nt9_6 tb9_7 te9_8 tk9_9 tt9_10 nu ub ue uk ut re9_1 ro9_2 fu9_4 bl9_5 go ra rc9_3 ex tc es wy) ++ ((w4 b cI cZ tw nk pa nc fo th tg nt tb4 te4 tk4 tt4 ex tc es wy ab re4 go4 be) ++ ([(ou, .inl (cJ, 1, .inr (.inl fz)))]))) H := hP
  have hD : va_D A ((w3 a cI cZ nk pa fa nc fo th tg nt9_6 tb9_7 te9_8 tk9_9 tt9_10 nu ub ue uk ut re9_1 ro9_2 fu9_4 bl9_5 go ra rc9_3 ex tc es wy) ++ ((w4 b cI cZ tw nk pa nc fo th tg nt tb4 te4 tk4 tt4 ex tc es wy ab re4 go4 be) ++ ([(ou, .inl (cJ, 1, .inr (.inl fz)))]))) := hD
  obtain ⟨hw0, hw⟩ := hw
  subst hw0
  rcases hw with ⟨h_12, h_13⟩
  replace h_12 := h_12.symm
  subst h_12
  have hP : va_P (dC, dI) vwCl ((w3 a cI cZ nk pa fa nc fo th tg ((dR nk nc fo th tg up (T, nt)).2) tb9_7 te9_8 tk9_9 tt9_10 nu ub ue uk ut re9_1 ro9_2 fu9_4 bl9_5 go ra rc9_3 ex tc es wy) ++ ((w4 b cI cZ tw nk pa nc fo th tg nt tb4 te4 tk4 tt4 ex tc es wy ab re4 go4 be) ++ ([(ou, .inl (cJ, 1, .inr (.inl fz)))]))) H := hP
  have hD : va_D A ((w3 a cI cZ nk pa fa nc fo th tg ((dR nk nc fo th tg up (T, nt)).2) tb9_7 te9_8 tk9_9 tt9_10 nu ub ue uk ut re9_1 ro9_2 fu9_4 bl9_5 go ra rc9_3 ex tc es wy) ++ ((w4 b cI cZ tw nk pa nc fo th tg nt tb4 te4 tk4 tt4 ex tc es wy ab re4 go4 be) ++ ([(ou, .inl (cJ, 1, .inr (.inl fz)))]))) := hD
  refine lv_aload_n hx hb dL_law_1247 rfl (lv_at hl 2 rfl) ?_
  have hPc := hP.sub (ws' := w4 b cI cZ tw nk pa nc fo th tg nt tb4 te4 tk4 tt4 ex tc es wy ab re4 go4 be) [24, 25, 26, 27, 28, 29, 30, 31, 32, 33, 34, 35, 36] rfl
  have hDc := hD.sub (ws' := w4 b cI cZ tw nk pa nc fo th tg nt tb4 te4 tk4 tt4 ex tc es wy ab re4 go4 be) [24, 25, 26, 27, 28, 29, 30, 31, 32, 33, 34, 35, 36] (by decide) rfl
  have hFc := va_free (wc := w4 b cI cZ tw nk pa nc fo th tg nt tb4 te4 tk4 tt4 ex tc es wy ab re4 go4 be) hD hS hA [24, 25, 26, 27, 28, 29, 30, 31, 32, 33, 34, 35, 36] rfl
  refine va_calli (va_runV (As := []) (rest := [.int (nI (nt - (dR nk nc fo th tg up (T, nt)).2))]) ⟨hx, hb, hml, hown, hts⟩ (c_X4_drop l dC dI cI cZ cJ b tw nk pa nc fo th tg nt tb4 te4 tk4 tt4 ex tc es wy ab re4 go4 be T up H.size (by first | assumption | omega) (by first | assumption | omega)) (cwV 0 hts gL_law_X4_drop rfl rfl rfl (by decide +kernel) ⟨Nat.le_of_ble_eq_true rfl, Nat.le_of_ble_eq_true rfl⟩) ⟨zWr_blind, va_recv hK hPc (ci := 4) (q0 := 0) rfl rfl, zWr_at hPc hK hn (hDc.weaken (fun _ _ _ _ => trivial))⟩ rfl rfl hl.1 rfl (lv_room (Nat.le_of_ble_eq_true rfl)) dL_law_1248 ⟨by show _ ≤ 601024; omega, by show _ ≤ 7293034; omega⟩) hS (fun q _ h => hFc q h) hFc (fun r_14 u_9 t H1 locs ht hvm hw hB hz1 hk1 hS => ?_)
  obtain ⟨re9_14, nt9_15, tb9_16, te9_17, tk9_18, tt9_19⟩ := u_9
  dsimp only at hw hB
  obtain ⟨hP1, -, hD1⟩ := hB
  rw [ht] at hP1
  obtain ⟨hP, hD⟩ := va_join (wr := (w3 a cI cZ nk pa fa nc fo th tg ((dR nk nc fo th tg up (T, nt)).2) tb9_7 te9_8 tk9_9 tt9_10 nu ub ue uk ut re9_1 ro9_2 fu9_4 bl9_5 go ra rc9_3 ex tc es wy) ++ ([(ou, .inl (cJ, 1, .inr (.inl fz)))])) (w1 := w4 b cI cZ 0 nk pa nc fo th tg nt9_15 tb9_16 te9_17 tk9_18 tt9_19 ex tc es wy ab re9_14 go4 be) hP hD [24, 25, 26, 27, 28, 29, 30, 31, 32, 33, 34, 35, 36] [0, 1, 2, 3, 4, 5, 6, 7, 8, 9, 10, 11, 12, 13, 14, 15, 16, 17, 18, 19, 20, 21, 22, 23, 37] rfl rfl (by decide) (by decide) hk1 hFc hP1 hD1
  generalize H1 = H at hP hS ⊢
  have hP := hP.sub (ws' := (w3 a cI cZ nk pa fa nc fo th tg ((dR nk nc fo th tg up (T, nt)).2) tb9_7 te9_8 tk9_9 tt9_10 nu ub ue uk ut re9_1 ro9_2 fu9_4 bl9_5 go ra rc9_3 ex tc es wy) ++ ((w4 b cI cZ 0 nk pa nc fo th tg nt9_15 tb9_16 te9_17 tk9_18 tt9_19 ex tc es wy ab re9_14 go4 be) ++ ([(ou, .inl (cJ, 1, .inr (.inl fz)))]))) [0, 1, 2, 3, 4, 5, 6, 7, 8, 9, 10, 11, 12, 13, 14, 15, 16, 17, 18, 19, 20, 21, 22, 23, 25, 26, 27, 28, 29, 30, 31, 32, 33, 34, 35, 36, 37, 24] rfl
  have hD := hD.sub (ws' := (w3 a cI cZ nk pa fa nc fo th tg ((dR nk nc fo th tg up (T, nt)).2) tb9_7 te9_8 tk9_9 tt9_10 nu ub ue uk ut re9_1 ro9_2 fu9_4 bl9_5 go ra rc9_3 ex tc es wy) ++ ((w4 b cI cZ 0 nk pa nc fo th tg nt9_15 tb9_16 te9_17 tk9_18 tt9_19 ex tc es wy ab re9_14 go4 be) ++ ([(ou, .inl (cJ, 1, .inr (.inl fz)))]))) [0, 1, 2, 3, 4, 5, 6, 7, 8, 9, 10, 11, 12, 13, 14, 15, 16, 17, 18, 19, 20, 21, 22, 23, 25, 26, 27, 28, 29, 30, 31, 32, 33, 34, 35, 36, 37, 24] (by decide) rfl
  have hP : va_P (dC, dI) vwCl ((w3 a cI cZ nk pa fa nc fo th tg ((dR nk nc fo th tg up (T, nt)).2) tb9_7 te9_8 tk9_9 tt9_10 nu ub ue uk ut re9_1 ro9_2 fu9_4 bl9_5 go ra rc9_3 ex tc es wy) ++ ((w4 b cI cZ 0 nk pa nc fo th tg nt9_15 tb9_16 te9_17 tk9_18 tt9_19 ex tc es wy ab re9_14 go4 be) ++ ([(ou, .inl (cJ, 1, .inr (.inl fz)))]))) H := hP
  have hD : va_D A ((w3 a cI cZ nk pa fa nc fo th tg ((dR nk nc fo th tg up (T, nt)).2) tb9_7 te9_8 tk9_9 tt9_10 nu ub ue uk ut re9_1 ro9_2 fu9_4 bl9_5 go ra rc9_3 ex tc es wy) ++ ((w4 b cI cZ 0 nk pa nc fo th tg nt9_15 tb9_16 te9_17 tk9_18 tt9_19 ex tc es wy ab re9_14 go4 be) ++ ([(ou, .inl (cJ, 1, .inr (.inl fz)))]))) := hD
  refine W.widen (k := k0 + 1) (n := n0 + 24) (by omega) (by omega) ?_
  obtain ⟨hw0, hw⟩ := hw
  subst hw0
  rcases hw with ⟨h_21, h_22⟩
  replace h_21 := h_21.symm
  subst h_21
  have hP : va_P (dC, dI) vwCl ((w3 a cI cZ nk pa fa nc fo th tg ((dR nk nc fo th tg up (T, nt)).2) tb9_7 te9_8 tk9_9 tt9_10 nu ub ue uk ut re9_1 ro9_2 fu9_4 bl9_5 go ra rc9_3 ex tc es wy) ++ ((w4 b cI cZ 0 nk pa nc fo th tg ((dR nk nc fo th tg up (T, nt)).2) tb9_16 te9_17 tk9_18 tt9_19 ex tc es wy ab re9_14 go4 be) ++ ([(ou, .inl (cJ, 1, .inr (.inl fz)))]))) H := hP
  have hD : va_D A ((w3 a cI cZ nk pa fa nc fo th tg ((dR nk nc fo th tg up (T, nt)).2) tb9_7 te9_8 tk9_9 tt9_10 nu ub ue uk ut re9_1 ro9_2 fu9_4 bl9_5 go ra rc9_3 ex tc es wy) ++ ((w4 b cI cZ 0 nk pa nc fo th tg ((dR nk nc fo th tg up (T, nt)).2) tb9_16 te9_17 tk9_18 tt9_19 ex tc es wy ab re9_14 go4 be) ++ ([(ou, .inl (cJ, 1, .inr (.inl fz)))]))) := hD
  refine lv_icmp_eq (tgt := 1475) hx hb dL_law_1251 (by decide) (fun c_23 => ?_) (fun c_23 => ?_)
  · skip
    skip
    refine W.widen (k := k0 + 100) (n := n0 + 3000) (by omega) (by omega) ?_
    exact K nk pa fa nc fo th tg ((dR nk nc fo th tg up (T, nt)).2) tb9_7 te9_8 tk9_9 tt9_10 nu ub ue uk ut re9_1 ro9_2 fu9_4 bl9_5 go ra rc9_3 ex tc es wy 0 tb9_16 te9_17 tk9_18 tt9_19 ab re9_14 go4 be fz T up _ _ _ (by first | assumption | omega) (by first | assumption | omega) (by first | assumption | omega) hP hD hS (lv_sub hl [0, 1, 2, 3, 4] rfl)
  · exact absurd rfl c_23

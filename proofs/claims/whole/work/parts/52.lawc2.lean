set_option maxHeartbeats 4000000 in
set_option maxRecDepth 100000 in
theorem lk_8 {p : Program} {e : Env} {s : State} {m : MethodId} {below : List Frame} {meth : Method} {c : Code} {Q : State → Prop} (l : Launch) {sb L : Nat} {xs : Nat → Int32} (dC : Nat → ClassId) (dI : Nat → Nat → Nat) (cI cZ cJ : ClassId) (a b : Nat → Nat) (ou i k0 n0 : Nat) (hF0 : lwF p l s m c sb L xs dC dI cI cZ cJ) (hi : i + 5 ≤ L) (hk0 : k0 + 100 ≤ 601024) (hn0 : n0 + 3000 ≤ 7293034) (nk : Nat) (pa : Nat → Int32) (fa : Nat → Int32) (nc : Nat) (fo : Nat → Int32) (th : Nat → Int32) (tg : Nat → Int32) (nt : Nat) (tb : Nat → Int32) (te : Nat → Int32) (tk : Nat → Int32) (tt : Nat → Int32) (nu : Nat) (ub : Nat → Int32) (ue : Nat → Int32) (uk : Nat → Int32) (ut : Nat → Int32) (re : Nat → Int32) (ro : Nat → Int32) (fu : Nat → Int32) (bl : Nat → Int32) (go : Nat → Int32) (ra : Nat → Int32) (rc : Nat) (ex : Int32) (tc : Int32) (es : Int32) (wy : Int64) (tw : Int32) (tb4 : Nat → Int32) (te4 : Nat → Int32) (tk4 : Nat → Int32) (tt4 : Nat → Int32) (ab : Nat → Int32) (re4 : Nat → Int32) (go4 : Nat → Int32) (be : Nat → Int32) (fz : Nat → Int64) (T : Nat → Nat → Nat) (up : Nat → Nat → Bool) (hg : g3 nk fa up nt tb te tk tt T) (hg4 : g4 nk ab up nt tb4 te4 tk4 tt4 T) (hc : okC nk nc fo th tg) (H : Heap) (locs : List Loc) (ls : Array Slot) (hP : va_P (dC, dI) vwCl ((w3 a cI cZ nk pa fa nc fo th tg nt tb te tk tt nu ub ue uk ut re ro fu bl go ra rc ex tc es wy) ++ ((w4 b cI cZ tw nk pa nc fo th tg nt tb4 te4 tk4 tt4 ex tc es wy ab re4 go4 be) ++ ([(ou, .inl (cJ, 1, .inr (.inl fz)))]))) H) (hD : va_D (fun q => s.heap.size ≤ q) ((w3 a cI cZ nk pa fa nc fo th tg nt tb te tk tt nu ub ue uk ut re ro fu bl go ra rc ex tc es wy) ++ ((w4 b cI cZ tw nk pa nc fo th tg nt tb4 te4 tk4 tt4 ex tc es wy ab re4 go4 be) ++ ([(ou, .inl (cJ, 1, .inr (.inl fz)))])))) (hS : va_S (fun q => s.heap.size ≤ q) s.heap H locs) (hl : lv_has ls 9 [(0, .ref sb), (1, .ref (a 0)), (2, .ref (b 0)), (3, .ref ou), (4, .int (nI i))]) (K : ∀ (nk : Nat) (pa : Nat → Int32) (fa : Nat → Int32) (nc : Nat) (fo : Nat → Int32) (th : Nat → Int32) (tg : Nat → Int32) (nt : Nat) (tb : Nat → Int32) (te : Nat → Int32) (tk : Nat → Int32) (tt : Nat → Int32) (nu : Nat) (ub : Nat → Int32) (ue : Nat → Int32) (uk : Nat → Int32) (ut : Nat → Int32) (re : Nat → Int32) (ro : Nat → Int32) (fu : Nat → Int32) (bl : Nat → Int32) (go : Nat → Int32) (ra : Nat → Int32) (rc : Nat) (ex : Int32) (tc : Int32) (es : Int32) (wy : Int64) (tw : Int32) (tb4 : Nat → Int32) (te4 : Nat → Int32) (tk4 : Nat → Int32) (tt4 : Nat → Int32) (ab : Nat → Int32) (re4 : Nat → Int32) (go4 : Nat → Int32) (be : Nat → Int32) (fz : Nat → Int64) (T : Nat → Nat → Nat) (up : Nat → Nat → Bool) (H : Heap) (locs : List Loc) (ls : Array Slot), g3 nk fa up nt tb te tk tt T → g4 nk ab up nt tb4 te4 tk4 tt4 T → okC nk nc fo th tg → va_P (dC, dI) vwCl ((w3 a cI cZ nk pa fa nc fo th tg nt tb te tk tt nu ub ue uk ut re ro fu bl go ra rc ex tc es wy) ++ ((w4 b cI cZ tw nk pa nc fo th tg nt tb4 te4 tk4 tt4 ex tc es wy ab re4 go4 be) ++ ([(ou, .inl (cJ, 1, .inr (.inl fz)))]))) H → va_D (fun q => s.heap.size ≤ q) ((w3 a cI cZ nk pa fa nc fo th tg nt tb te tk tt nu ub ue uk ut re ro fu bl go ra rc ex tc es wy) ++ ((w4 b cI cZ tw nk pa nc fo th tg nt tb4 te4 tk4 tt4 ex tc es wy ab re4 go4 be) ++ ([(ou, .inl (cJ, 1, .inr (.inl fz)))]))) → va_S (fun q => s.heap.size ≤ q) s.heap H locs → lv_has ls 9 [(0, .ref sb), (1, .ref (a 0)), (2, .ref (b 0)), (3, .ref ou), (4, .int (nI i))] → W p l e room_1 s m #[Value.ref sb] below meth c H locs (k0 + 100) (n0 + 3000) Q (F0 m 1475 ls [])) : W p l e room_1 s m #[Value.ref sb] below meth c H locs k0 n0 Q (F0 m 616 ls []) := by
  obtain ⟨hx, hb, hml, hown, hts, hX, hbl, hL, hK, hn, hzt, hzu, hzc, hlt⟩ := id hF0
  obtain ⟨A, hAe⟩ : ∃ A : Nat → Prop, A = fun q => s.heap.size ≤ q := ⟨_, rfl⟩
  have hbA : ¬ A sb := by rw [hAe]; exact Nat.not_le.mpr hbl
  have hA : ∀ q : Nat, s.heap.size ≤ q → A q := fun q h => by rw [hAe]; exact h
  rw [← hAe] at hD hS hzu K
  refine lv_aload_n hx hb dL_law_616 rfl (lv_at hl 1 rfl) ?_
  refine lv_aload_n hx hb dL_law_617 rfl (lv_at hl 0 rfl) ?_
  refine lv_iload hx hb dL_law_618 (lv_at hl 4 rfl) ?_
  refine lv_iconst (v := 1) hx hb dL_law_620 (by decide) ?_
  refine lv_iadd hx hb dL_law_621 ?_
  refine zz_top (y := nI (i + 1)) (nI_add _ _) ?_
  refine va_sld hx hb hX hbl hbA hS (vp_in_nI (n := i + 1) (by omega) (by omega)) dL_law_622 ?_
  refine zz_top (y := xs (i + 1)) (congrArg _ (nI_clamp (by omega))) ?_
  refine lv_aload_n hx hb dL_law_623 rfl (lv_at hl 3 rfl) ?_
  have hPc := hP.sub (ws' := (w3 a cI cZ nk pa fa nc fo th tg nt tb te tk tt nu ub ue uk ut re ro fu bl go ra rc ex tc es wy) ++ ([(ou, .inl (cJ, 1, .inr (.inl fz)))])) [0, 1, 2, 3, 4, 5, 6, 7, 8, 9, 10, 11, 12, 13, 14, 15, 16, 17, 18, 19, 20, 21, 22, 23, 37] rfl
  have hDc := hD.sub (ws' := (w3 a cI cZ nk pa fa nc fo th tg nt tb te tk tt nu ub ue uk ut re ro fu bl go ra rc ex tc es wy) ++ ([(ou, .inl (cJ, 1, .inr (.inl fz)))])) [0, 1, 2, 3, 4, 5, 6, 7, 8, 9, 10, 11, 12, 13, 14, 15, 16, 17, 18, 19, 20, 21, 22, 23, 37] (by decide) rfl
  have hFc := va_free (wc := (w3 a cI cZ nk pa fa nc fo th tg nt tb te tk tt nu ub ue uk ut re ro fu bl go ra rc ex tc es wy) ++ ([(ou, .inl (cJ, 1, .inr (.inl fz)))])) hD hS hA [0, 1, 2, 3, 4, 5, 6, 7, 8, 9, 10, 11, 12, 13, 14, 15, 16, 17, 18, 19, 20, 21, 22, 23, 37] rfl
  refine va_calli (vx_runSW (As := [.ref (a 0), .int (xs (i + 1)), .ref ou]) (rest := []) ⟨hx, hb, hml, hown, hts⟩ (c_L_raise l dC dI cI cZ cJ a nk pa fa nc fo th tg nt tb te tk tt nu ub ue uk ut re ro fu bl go ra rc ex tc es wy (xs (i + 1)) T up ou fz H.size hlt (by first | assumption | omega) (by first | assumption | omega)) (vx_cwSW 3 hts gL_law_L_raise rfl rfl rfl (by decide +kernel) ⟨Nat.le_of_ble_eq_true rfl, Nat.le_of_ble_eq_true rfl⟩) ⟨zTl_blind, zTl_at hPc hK hn (hDc.weaken (fun _ _ _ _ => trivial)) hzt hzu hS hFc hzc⟩ rfl rfl hl.1 rfl (lv_room (Nat.le_of_ble_eq_true rfl)) dL_law_624 ⟨by show _ ≤ 601024; omega, by show _ ≤ 7293034; omega⟩) hS (fun q _ h => hFc q h) hFc (fun r_1 u_9 t H1 locs ht hvm hw hB hz1 hk1 hS => ?_)
  obtain ⟨v_c_1, v_cf_2, v_ct_3, v_cg_4, fz9_5⟩ := u_9
  dsimp only at hw hB
  obtain ⟨hP1, -, hD1⟩ := hB
  rw [ht] at hP1
  obtain ⟨hP, hD⟩ := va_join (wr := w4 b cI cZ tw nk pa nc fo th tg nt tb4 te4 tk4 tt4 ex tc es wy ab re4 go4 be) (w1 := (w3 a cI cZ nk pa fa v_c_1 v_cf_2 v_ct_3 v_cg_4 nt tb te tk tt nu ub ue uk ut re ro fu bl go ra rc ex tc es wy) ++ ([(ou, .inl (cJ, 1, .inr (.inl fz9_5)))])) hP hD [0, 1, 2, 3, 4, 5, 6, 7, 8, 9, 10, 11, 12, 13, 14, 15, 16, 17, 18, 19, 20, 21, 22, 23, 37] [24, 25, 26, 27, 28, 29, 30, 31, 32, 33, 34, 35, 36] rfl rfl (by decide) (by decide) hk1 hFc hP1 hD1
  generalize H1 = H at hP hS ⊢
  have hP := hP.sub (ws' := (w3 a cI cZ nk pa fa v_c_1 v_cf_2 v_ct_3 v_cg_4 nt tb te tk tt nu ub ue uk ut re ro fu bl go ra rc ex tc es wy) ++ ((w4 b cI cZ tw nk pa nc fo th tg nt tb4 te4 tk4 tt4 ex tc es wy ab re4 go4 be) ++ ([(ou, .inl (cJ, 1, .inr (.inl fz9_5)))]))) [13, 14, 15, 16, 17, 18, 19, 20, 21, 22, 23, 24, 25, 26, 27, 28, 29, 30, 31, 32, 33, 34, 35, 36, 0, 1, 2, 3, 4, 5, 6, 7, 8, 9, 10, 11, 12, 37] rfl
  have hD := hD.sub (ws' := (w3 a cI cZ nk pa fa v_c_1 v_cf_2 v_ct_3 v_cg_4 nt tb te tk tt nu ub ue uk ut re ro fu bl go ra rc ex tc es wy) ++ ((w4 b cI cZ tw nk pa nc fo th tg nt tb4 te4 tk4 tt4 ex tc es wy ab re4 go4 be) ++ ([(ou, .inl (cJ, 1, .inr (.inl fz9_5)))]))) [13, 14, 15, 16, 17, 18, 19, 20, 21, 22, 23, 24, 25, 26, 27, 28, 29, 30, 31, 32, 33, 34, 35, 36, 0, 1, 2, 3, 4, 5, 6, 7, 8, 9, 10, 11, 12, 37] (by decide) rfl
  have hP : va_P (dC, dI) vwCl ((w3 a cI cZ nk pa fa v_c_1 v_cf_2 v_ct_3 v_cg_4 nt tb te tk tt nu ub ue uk ut re ro fu bl go ra rc ex tc es wy) ++ ((w4 b cI cZ tw nk pa nc fo th tg nt tb4 te4 tk4 tt4 ex tc es wy ab re4 go4 be) ++ ([(ou, .inl (cJ, 1, .inr (.inl fz9_5)))]))) H := hP
  have hD : va_D A ((w3 a cI cZ nk pa fa v_c_1 v_cf_2 v_ct_3 v_cg_4 nt tb te tk tt nu ub ue uk ut re ro fu bl go ra rc ex tc es wy) ++ ((w4 b cI cZ tw nk pa nc fo th tg nt tb4 te4 tk4 tt4 ex tc es wy ab re4 go4 be) ++ ([(ou, .inl (cJ, 1, .inr (.inl fz9_5)))]))) := hD
  refine W.widen (k := k0 + 2) (n := n0 + 12) (by omega) (by omega) ?_
  rcases hw with ⟨h_7, h_8, h_9, h_10, h_11, h_12, ⟨⟨h_13, h_14⟩, h_15⟩⟩ | ⟨h_16, h_17, h_18, h_19, h_20, h_21, h_22⟩ | ⟨h_23, ⟨h_24, h_25⟩, h_26, h_27, h_28, h_29, h_30⟩
  · skip
    replace h_7 := h_7.symm
    subst h_7
    replace h_8 := h_8.symm
    subst h_8
    replace h_9 := h_9.symm
    subst h_9
    replace h_10 := h_10.symm
    subst h_10
    replace h_11 := h_11.symm
    subst h_11
    replace h_12 := h_12.symm
    subst h_12
    have hP : va_P (dC, dI) vwCl ((w3 a cI cZ nk pa fa (nc + 1) (upd fo nc 4) (upd th nc (1 <<< ((xs (i + 1)) &&& 31))) (upd tg nc (-1)) nt tb te tk tt nu ub ue uk ut re ro fu bl go ra rc ex tc es wy) ++ ((w4 b cI cZ tw nk pa nc fo th tg nt tb4 te4 tk4 tt4 ex tc es wy ab re4 go4 be) ++ ([(ou, .inl (cJ, 1, .inr (.inl (vp_updL fz 0 ((nI nc).toInt64)))))]))) H := hP
    have hD : va_D A ((w3 a cI cZ nk pa fa (nc + 1) (upd fo nc 4) (upd th nc (1 <<< ((xs (i + 1)) &&& 31))) (upd tg nc (-1)) nt tb te tk tt nu ub ue uk ut re ro fu bl go ra rc ex tc es wy) ++ ((w4 b cI cZ tw nk pa nc fo th tg nt tb4 te4 tk4 tt4 ex tc es wy ab re4 go4 be) ++ ([(ou, .inl (cJ, 1, .inr (.inl (vp_updL fz 0 ((nI nc).toInt64)))))]))) := hD
    refine lv_istore (lv' := [(5, .int 0), (0, .ref sb), (1, .ref (a 0)), (2, .ref (b 0)), (3, .ref ou), (4, .int (nI i))]) hx hb dL_law_627 hl (by decide) rfl (fun ls hl => ?_)
    refine lv_aload_n hx hb dL_law_629 rfl (lv_at hl 3 rfl) ?_
    refine lv_aload_n hx hb dL_law_630 rfl (lv_at hl 1 rfl) ?_
    refine lv_iload hx hb dL_law_631 (lv_at hl 5 rfl) ?_
    refine lv_iconst (v := 1) hx hb dL_law_633 (by decide) ?_
    refine lv_iadd hx hb dL_law_634 ?_
    refine zz_top (y := nI (i + 1)) (nI_add _ _) ?_
    refine va_sld hx hb hX hbl hbA hS (vp_in_nI (n := i + 1) (by omega) (by omega)) dL_law_635 ?_
    refine zz_top (y := xs (i + 1)) (congrArg _ (nI_clamp (by omega))) ?_
    have hPc := hP.sub (ws' := w4 b cI cZ tw nk pa nc fo th tg nt tb4 te4 tk4 tt4 ex tc es wy ab re4 go4 be) [24, 25, 26, 27, 28, 29, 30, 31, 32, 33, 34, 35, 36] rfl
    have hDc := hD.sub (ws' := w4 b cI cZ tw nk pa nc fo th tg nt tb4 te4 tk4 tt4 ex tc es wy ab re4 go4 be) [24, 25, 26, 27, 28, 29, 30, 31, 32, 33, 34, 35, 36] (by decide) rfl
    have hFc := va_free (wc := w4 b cI cZ tw nk pa nc fo th tg nt tb4 te4 tk4 tt4 ex tc es wy ab re4 go4 be) hD hS hA [24, 25, 26, 27, 28, 29, 30, 31, 32, 33, 34, 35, 36] rfl
    refine va_calli (va_runV (As := [.int (xs (i + 1))]) (rest := []) ⟨hx, hb, hml, hown, hts⟩ (c_X4_raise l dC dI cI cZ cJ b tw nk pa nc fo th tg nt tb4 te4 tk4 tt4 ex tc es wy ab re4 go4 be (xs (i + 1)) T up H.size (by first | assumption | omega) (by first | assumption | omega)) (cwV 1 hts gL_law_X4_raise rfl rfl rfl (by decide +kernel) ⟨Nat.le_of_ble_eq_true rfl, Nat.le_of_ble_eq_true rfl⟩) ⟨zWr_blind, va_recv hK hPc (ci := 4) (q0 := 0) rfl rfl, zWr_at hPc hK hn (hDc.weaken (fun _ _ _ _ => trivial))⟩ rfl rfl hl.1 rfl (lv_room (Nat.le_of_ble_eq_true rfl)) dL_law_636 ⟨by show _ ≤ 601024; omega, by show _ ≤ 7293034; omega⟩) hS (fun q _ h => hFc q h) hFc (fun r_31 u_9 t H1 locs ht hvm hw hB hz1 hk1 hS => ?_)
    obtain ⟨tw9_31, nc9_32, fo9_33, th9_34, tg9_35⟩ := u_9
    dsimp only at hw hB
    obtain ⟨hP1, -, hD1⟩ := hB
    rw [ht] at hP1
    obtain ⟨hP, hD⟩ := va_join (wr := (w3 a cI cZ nk pa fa (nc + 1) (upd fo nc 4) (upd th nc (1 <<< ((xs (i + 1)) &&& 31))) (upd tg nc (-1)) nt tb te tk tt nu ub ue uk ut re ro fu bl go ra rc ex tc es wy) ++ ([(ou, .inl (cJ, 1, .inr (.inl (vp_updL fz 0 ((nI nc).toInt64)))))])) (w1 := w4 b cI cZ tw9_31 nk pa nc9_32 fo9_33 th9_34 tg9_35 nt tb4 te4 tk4 tt4 ex tc es wy ab re4 go4 be) hP hD [24, 25, 26, 27, 28, 29, 30, 31, 32, 33, 34, 35, 36] [0, 1, 2, 3, 4, 5, 6, 7, 8, 9, 10, 11, 12, 13, 14, 15, 16, 17, 18, 19, 20, 21, 22, 23, 37] rfl rfl (by decide) (by decide) hk1 hFc hP1 hD1
    generalize H1 = H at hP hS ⊢
    have hP := hP.sub (ws' := (w3 a cI cZ nk pa fa (nc + 1) (upd fo nc 4) (upd th nc (1 <<< ((xs (i + 1)) &&& 31))) (upd tg nc (-1)) nt tb te tk tt nu ub ue uk ut re ro fu bl go ra rc ex tc es wy) ++ ((w4 b cI cZ tw9_31 nk pa nc9_32 fo9_33 th9_34 tg9_35 nt tb4 te4 tk4 tt4 ex tc es wy ab re4 go4 be) ++ ([(ou, .inl (cJ, 1, .inr (.inl (vp_updL fz 0 ((nI nc).toInt64)))))]))) [0, 1, 2, 3, 4, 5, 6, 7, 8, 9, 10, 11, 12, 13, 14, 15, 16, 17, 18, 19, 20, 21, 22, 23, 25, 26, 27, 28, 29, 30, 31, 32, 33, 34, 35, 36, 37, 24] rfl
    have hD := hD.sub (ws' := (w3 a cI cZ nk pa fa (nc + 1) (upd fo nc 4) (upd th nc (1 <<< ((xs (i + 1)) &&& 31))) (upd tg nc (-1)) nt tb te tk tt nu ub ue uk ut re ro fu bl go ra rc ex tc es wy) ++ ((w4 b cI cZ tw9_31 nk pa nc9_32 fo9_33 th9_34 tg9_35 nt tb4 te4 tk4 tt4 ex tc es wy ab re4 go4 be) ++ ([(ou, .inl (cJ, 1, .inr (.inl (vp_updL fz 0 ((nI nc).toInt64)))))]))) [0, 1, 2, 3, 4, 5, 6, 7, 8, 9, 10, 11, 12, 13, 14, 15, 16, 17, 18, 19, 20, 21, 22, 23, 25, 26, 27, 28, 29, 30, 31, 32, 33, 34, 35, 36, 37, 24] (by decide) rfl
    have hP : va_P (dC, dI) vwCl ((w3 a cI cZ nk pa fa (nc + 1) (upd fo nc 4) (upd th nc (1 <<< ((xs (i + 1)) &&& 31))) (upd tg nc (-1)) nt tb te tk tt nu ub ue uk ut re ro fu bl go ra rc ex tc es wy) ++ ((w4 b cI cZ tw9_31 nk pa nc9_32 fo9_33 th9_34 tg9_35 nt tb4 te4 tk4 tt4 ex tc es wy ab re4 go4 be) ++ ([(ou, .inl (cJ, 1, .inr (.inl (vp_updL fz 0 ((nI nc).toInt64)))))]))) H := hP
    have hD : va_D A ((w3 a cI cZ nk pa fa (nc + 1) (upd fo nc 4) (upd th nc (1 <<< ((xs (i + 1)) &&& 31))) (upd tg nc (-1)) nt tb te tk tt nu ub ue uk ut re ro fu bl go ra rc ex tc es wy) ++ ((w4 b cI cZ tw9_31 nk pa nc9_32 fo9_33 th9_34 tg9_35 nt tb4 te4 tk4 tt4 ex tc es wy ab re4 go4 be) ++ ([(ou, .inl (cJ, 1, .inr (.inl (vp_updL fz 0 ((nI nc).toInt64)))))]))) := hD
    rcases hw with ⟨h_37, h_38, h_39, h_40, h_41, h_42⟩ | ⟨h_43, h_44, h_45, h_46, h_47, h_48, h_49⟩ | ⟨h_50, h_51, h_52, h_53, h_54, h_55, h_56, h_57⟩
    · skip
      exact absurd (h_13.symm.trans h_37) (by decide)
    · skip
      omega
    · skip
      replace h_52 := h_52.symm
      subst h_52
      replace h_53 := h_53.symm
      subst h_53
      replace h_54 := h_54.symm
      subst h_54
      replace h_55 := h_55.symm
      subst h_55
      replace h_56 := h_56.symm
      subst h_56
      replace h_57 := h_57.symm
      subst h_57
      have hP : va_P (dC, dI) vwCl ((w3 a cI cZ nk pa fa (nc + 1) (upd fo nc 4) (upd th nc (1 <<< ((xs (i + 1)) &&& 31))) (upd tg nc (-1)) nt tb te tk tt nu ub ue uk ut re ro fu bl go ra rc ex tc es wy) ++ ((w4 b cI cZ 0 nk pa (nc + 1) (upd fo nc 4) (upd th nc (1 <<< ((xs (i + 1)) &&& 31))) (upd tg nc (-1)) nt tb4 te4 tk4 tt4 ex tc es wy ab re4 go4 be) ++ ([(ou, .inl (cJ, 1, .inr (.inl (vp_updL fz 0 ((nI nc).toInt64)))))]))) H := hP
      have hD : va_D A ((w3 a cI cZ nk pa fa (nc + 1) (upd fo nc 4) (upd th nc (1 <<< ((xs (i + 1)) &&& 31))) (upd tg nc (-1)) nt tb te tk tt nu ub ue uk ut re ro fu bl go ra rc ex tc es wy) ++ ((w4 b cI cZ 0 nk pa (nc + 1) (upd fo nc 4) (upd th nc (1 <<< ((xs (i + 1)) &&& 31))) (upd tg nc (-1)) nt tb4 te4 tk4 tt4 ex tc es wy ab re4 go4 be) ++ ([(ou, .inl (cJ, 1, .inr (.inl (vp_updL fz 0 ((nI nc).toInt64)))))]))) := hD
      refine lv_istore (lv' := [(6, .int (nI nc)), (5, .int 0), (0, .ref sb), (1, .ref (a 0)), (2, .ref (b 0)), (3, .ref ou), (4, .int (nI i))]) hx hb dL_law_639 hl (by decide) rfl (fun ls hl => ?_)
      refine lv_aload_n hx hb dL_law_641 rfl (lv_at hl 4 rfl) ?_
      have hPc := hP.sub (ws' := w4 b cI cZ 0 nk pa (nc + 1) (upd fo nc 4) (upd th nc (1 <<< ((xs (i + 1)) &&& 31))) (upd tg nc (-1)) nt tb4 te4 tk4 tt4 ex tc es wy ab re4 go4 be) [24, 25, 26, 27, 28, 29, 30, 31, 32, 33, 34, 35, 36] rfl
      refine va_calli (va_runV (As := []) (rest := []) ⟨hx, hb, hml, hown, hts⟩ (c_X4_thrown l dC dI cI cZ cJ b 0 nk pa (nc + 1) (upd fo nc 4) (upd th nc (1 <<< ((xs (i + 1)) &&& 31))) (upd tg nc (-1)) nt tb4 te4 tk4 tt4 ex tc es wy ab re4 go4 be ) (cwV 0 hts gL_law_X4_thrown rfl rfl rfl (by decide +kernel) ⟨Nat.le_of_ble_eq_true rfl, Nat.le_of_ble_eq_true rfl⟩) ⟨zPre_blind, va_recv hK hPc (ci := 4) (q0 := 0) rfl rfl, zPre_at hPc hK hn⟩ rfl rfl hl.1 rfl (lv_room (Nat.le_of_ble_eq_true rfl)) dL_law_642 ⟨by show _ ≤ 601024; omega, by show _ ≤ 7293034; omega⟩) hS (fun _ _ h => h.elim) (fun _ h => h.elim) (fun r_58 u_9 t H locs ht hvm hw hB hz1 hk1 hS => ?_)
      have hP := zkeep hP hk1
      subst hw
      refine lv_iload hx hb dL_law_645 (lv_at hl 1 rfl) ?_
      refine lv_icmp_eq (tgt := 652) hx hb dL_law_647 (by decide) (fun c_59 => ?_) (fun c_59 => ?_)
      · skip
        refine lv_iload hx hb dL_law_652 (lv_at hl 1 rfl) ?_
        refine lv_if_ne (tgt := 669) hx hb dL_law_654 (by decide) (fun c_60 => ?_) (fun c_60 => ?_)
        · exact absurd c_60 (by decide)
        · skip
          refine lv_aload_n hx hb dL_law_657 rfl (lv_at hl 5 rfl) ?_
          refine lv_iconst (v := 0) hx hb dL_law_658 (by decide) ?_
          refine va_lald hx hb hK hP 37 2 rfl rfl (vp_in_nI (n := 0) (by omega) (by decide)) dL_law_659 ?_
          refine zz_topl (y := (vp_updL fz 0 ((nI nc).toInt64)) 0) (rfl) ?_
          refine lv_iload hx hb dL_law_660 (lv_at hl 0 rfl) ?_
          refine lv_i2l (v := (nI nc).toInt64) hx hb dL_law_662 rfl ?_
          refine W.lcmp hx hb dL_law_663 ?_
          refine lv_if_eq (tgt := 669) hx hb dL_law_664 (by decide) (fun c_61 => ?_) (fun c_61 => ?_)
          · skip
            skip
            refine lv_goto (tgt := 1475) hx hb dL_law_669 (by decide) ?_
            refine W.widen (k := k0 + 100) (n := n0 + 3000) (by omega) (by omega) ?_
            exact K nk pa fa (nc + 1) (upd fo nc 4) (upd th nc (1 <<< ((xs (i + 1)) &&& 31))) (upd tg nc (-1)) nt tb te tk tt nu ub ue uk ut re ro fu bl go ra rc ex tc es wy 0 tb4 te4 tk4 tt4 ab re4 go4 be (vp_updL fz 0 ((nI nc).toInt64)) T up _ _ _ (by first | assumption | omega) (by first | assumption | omega) (by first | assumption | omega) hP hD hS (lv_sub hl [2, 3, 4, 5, 6] rfl)
          · exact absurd ((lg_cmp_eq _ _).mpr (by first | rfl | exact (bL_t hz9).symm | exact (bL_f hz9).symm)) c_61
      · exact absurd c_59 (by decide)
  · skip
    replace h_16 := h_16.symm
    subst h_16
    replace h_18 := h_18.symm
    subst h_18
    replace h_19 := h_19.symm
    subst h_19
    replace h_20 := h_20.symm
    subst h_20
    replace h_21 := h_21.symm
    subst h_21
    replace h_22 := h_22.symm
    subst h_22
    have hP : va_P (dC, dI) vwCl ((w3 a cI cZ nk pa fa nc fo th tg nt tb te tk tt nu ub ue uk ut re ro fu bl go ra rc ex tc es wy) ++ ((w4 b cI cZ tw nk pa nc fo th tg nt tb4 te4 tk4 tt4 ex tc es wy ab re4 go4 be) ++ ([(ou, .inl (cJ, 1, .inr (.inl fz)))]))) H := hP
    have hD : va_D A ((w3 a cI cZ nk pa fa nc fo th tg nt tb te tk tt nu ub ue uk ut re ro fu bl go ra rc ex tc es wy) ++ ((w4 b cI cZ tw nk pa nc fo th tg nt tb4 te4 tk4 tt4 ex tc es wy ab re4 go4 be) ++ ([(ou, .inl (cJ, 1, .inr (.inl fz)))]))) := hD
    refine lv_istore (lv' := [(5, .int 1), (0, .ref sb), (1, .ref (a 0)), (2, .ref (b 0)), (3, .ref ou), (4, .int (nI i))]) hx hb dL_law_627 hl (by decide) rfl (fun ls hl => ?_)
    refine lv_aload_n hx hb dL_law_629 rfl (lv_at hl 3 rfl) ?_
    refine lv_aload_n hx hb dL_law_630 rfl (lv_at hl 1 rfl) ?_
    refine lv_iload hx hb dL_law_631 (lv_at hl 5 rfl) ?_
    refine lv_iconst (v := 1) hx hb dL_law_633 (by decide) ?_
    refine lv_iadd hx hb dL_law_634 ?_
    refine zz_top (y := nI (i + 1)) (nI_add _ _) ?_
    refine va_sld hx hb hX hbl hbA hS (vp_in_nI (n := i + 1) (by omega) (by omega)) dL_law_635 ?_
    refine zz_top (y := xs (i + 1)) (congrArg _ (nI_clamp (by omega))) ?_
    have hPc := hP.sub (ws' := w4 b cI cZ tw nk pa nc fo th tg nt tb4 te4 tk4 tt4 ex tc es wy ab re4 go4 be) [24, 25, 26, 27, 28, 29, 30, 31, 32, 33, 34, 35, 36] rfl
    have hDc := hD.sub (ws' := w4 b cI cZ tw nk pa nc fo th tg nt tb4 te4 tk4 tt4 ex tc es wy ab re4 go4 be) [24, 25, 26, 27, 28, 29, 30, 31, 32, 33, 34, 35, 36] (by decide) rfl
    have hFc := va_free (wc := w4 b cI cZ tw nk pa nc fo th tg nt tb4 te4 tk4 tt4 ex tc es wy ab re4 go4 be) hD hS hA [24, 25, 26, 27, 28, 29, 30, 31, 32, 33, 34, 35, 36] rfl
    refine va_calli (va_runV (As := [.int (xs (i + 1))]) (rest := []) ⟨hx, hb, hml, hown, hts⟩ (c_X4_raise l dC dI cI cZ cJ b tw nk pa nc fo th tg nt tb4 te4 tk4 tt4 ex tc es wy ab re4 go4 be (xs (i + 1)) T up H.size (by first | assumption | omega) (by first | assumption | omega)) (cwV 1 hts gL_law_X4_raise rfl rfl rfl (by decide +kernel) ⟨Nat.le_of_ble_eq_true rfl, Nat.le_of_ble_eq_true rfl⟩) ⟨zWr_blind, va_recv hK hPc (ci := 4) (q0 := 0) rfl rfl, zWr_at hPc hK hn (hDc.weaken (fun _ _ _ _ => trivial))⟩ rfl rfl hl.1 rfl (lv_room (Nat.le_of_ble_eq_true rfl)) dL_law_636 ⟨by show _ ≤ 601024; omega, by show _ ≤ 7293034; omega⟩) hS (fun q _ h => hFc q h) hFc (fun r_62 u_9 t H1 locs ht hvm hw hB hz1 hk1 hS => ?_)
    obtain ⟨tw9_62, nc9_63, fo9_64, th9_65, tg9_66⟩ := u_9
    dsimp only at hw hB
    obtain ⟨hP1, -, hD1⟩ := hB
    rw [ht] at hP1
    obtain ⟨hP, hD⟩ := va_join (wr := (w3 a cI cZ nk pa fa nc fo th tg nt tb te tk tt nu ub ue uk ut re ro fu bl go ra rc ex tc es wy) ++ ([(ou, .inl (cJ, 1, .inr (.inl fz)))])) (w1 := w4 b cI cZ tw9_62 nk pa nc9_63 fo9_64 th9_65 tg9_66 nt tb4 te4 tk4 tt4 ex tc es wy ab re4 go4 be) hP hD [24, 25, 26, 27, 28, 29, 30, 31, 32, 33, 34, 35, 36] [0, 1, 2, 3, 4, 5, 6, 7, 8, 9, 10, 11, 12, 13, 14, 15, 16, 17, 18, 19, 20, 21, 22, 23, 37] rfl rfl (by decide) (by decide) hk1 hFc hP1 hD1
    generalize H1 = H at hP hS ⊢
    have hP := hP.sub (ws' := (w3 a cI cZ nk pa fa nc fo th tg nt tb te tk tt nu ub ue uk ut re ro fu bl go ra rc ex tc es wy) ++ ((w4 b cI cZ tw9_62 nk pa nc9_63 fo9_64 th9_65 tg9_66 nt tb4 te4 tk4 tt4 ex tc es wy ab re4 go4 be) ++ ([(ou, .inl (cJ, 1, .inr (.inl fz)))]))) [0, 1, 2, 3, 4, 5, 6, 7, 8, 9, 10, 11, 12, 13, 14, 15, 16, 17, 18, 19, 20, 21, 22, 23, 25, 26, 27, 28, 29, 30, 31, 32, 33, 34, 35, 36, 37, 24] rfl
    have hD := hD.sub (ws' := (w3 a cI cZ nk pa fa nc fo th tg nt tb te tk tt nu ub ue uk ut re ro fu bl go ra rc ex tc es wy) ++ ((w4 b cI cZ tw9_62 nk pa nc9_63 fo9_64 th9_65 tg9_66 nt tb4 te4 tk4 tt4 ex tc es wy ab re4 go4 be) ++ ([(ou, .inl (cJ, 1, .inr (.inl fz)))]))) [0, 1, 2, 3, 4, 5, 6, 7, 8, 9, 10, 11, 12, 13, 14, 15, 16, 17, 18, 19, 20, 21, 22, 23, 25, 26, 27, 28, 29, 30, 31, 32, 33, 34, 35, 36, 37, 24] (by decide) rfl
    have hP : va_P (dC, dI) vwCl ((w3 a cI cZ nk pa fa nc fo th tg nt tb te tk tt nu ub ue uk ut re ro fu bl go ra rc ex tc es wy) ++ ((w4 b cI cZ tw9_62 nk pa nc9_63 fo9_64 th9_65 tg9_66 nt tb4 te4 tk4 tt4 ex tc es wy ab re4 go4 be) ++ ([(ou, .inl (cJ, 1, .inr (.inl fz)))]))) H := hP
    have hD : va_D A ((w3 a cI cZ nk pa fa nc fo th tg nt tb te tk tt nu ub ue uk ut re ro fu bl go ra rc ex tc es wy) ++ ((w4 b cI cZ tw9_62 nk pa nc9_63 fo9_64 th9_65 tg9_66 nt tb4 te4 tk4 tt4 ex tc es wy ab re4 go4 be) ++ ([(ou, .inl (cJ, 1, .inr (.inl fz)))]))) := hD
    rcases hw with ⟨h_68, h_69, h_70, h_71, h_72, h_73⟩ | ⟨h_74, h_75, h_76, h_77, h_78, h_79, h_80⟩ | ⟨h_81, h_82, h_83, h_84, h_85, h_86, h_87, h_88⟩
    · skip
      replace h_69 := h_69.symm
      subst h_69
      replace h_70 := h_70.symm
      subst h_70
      replace h_71 := h_71.symm
      subst h_71
      replace h_72 := h_72.symm
      subst h_72
      replace h_73 := h_73.symm
      subst h_73
      have hP : va_P (dC, dI) vwCl ((w3 a cI cZ nk pa fa nc fo th tg nt tb te tk tt nu ub ue uk ut re ro fu bl go ra rc ex tc es wy) ++ ((w4 b cI cZ 1 nk pa nc fo th tg nt tb4 te4 tk4 tt4 ex tc es wy ab re4 go4 be) ++ ([(ou, .inl (cJ, 1, .inr (.inl fz)))]))) H := hP
      have hD : va_D A ((w3 a cI cZ nk pa fa nc fo th tg nt tb te tk tt nu ub ue uk ut re ro fu bl go ra rc ex tc es wy) ++ ((w4 b cI cZ 1 nk pa nc fo th tg nt tb4 te4 tk4 tt4 ex tc es wy ab re4 go4 be) ++ ([(ou, .inl (cJ, 1, .inr (.inl fz)))]))) := hD
      refine lv_istore (lv' := [(6, .int r_62), (5, .int 1), (0, .ref sb), (1, .ref (a 0)), (2, .ref (b 0)), (3, .ref ou), (4, .int (nI i))]) hx hb dL_law_639 hl (by decide) rfl (fun ls hl => ?_)
      refine lv_aload_n hx hb dL_law_641 rfl (lv_at hl 4 rfl) ?_
      have hPc := hP.sub (ws' := w4 b cI cZ 1 nk pa nc fo th tg nt tb4 te4 tk4 tt4 ex tc es wy ab re4 go4 be) [24, 25, 26, 27, 28, 29, 30, 31, 32, 33, 34, 35, 36] rfl
      refine va_calli (va_runV (As := []) (rest := []) ⟨hx, hb, hml, hown, hts⟩ (c_X4_thrown l dC dI cI cZ cJ b 1 nk pa nc fo th tg nt tb4 te4 tk4 tt4 ex tc es wy ab re4 go4 be ) (cwV 0 hts gL_law_X4_thrown rfl rfl rfl (by decide +kernel) ⟨Nat.le_of_ble_eq_true rfl, Nat.le_of_ble_eq_true rfl⟩) ⟨zPre_blind, va_recv hK hPc (ci := 4) (q0 := 0) rfl rfl, zPre_at hPc hK hn⟩ rfl rfl hl.1 rfl (lv_room (Nat.le_of_ble_eq_true rfl)) dL_law_642 ⟨by show _ ≤ 601024; omega, by show _ ≤ 7293034; omega⟩) hS (fun _ _ h => h.elim) (fun _ h => h.elim) (fun r_89 u_9 t H locs ht hvm hw hB hz1 hk1 hS => ?_)
      have hP := zkeep hP hk1
      subst hw
      refine lv_iload hx hb dL_law_645 (lv_at hl 1 rfl) ?_
      refine lv_icmp_eq (tgt := 652) hx hb dL_law_647 (by decide) (fun c_90 => ?_) (fun c_90 => ?_)
      · skip
        refine lv_iload hx hb dL_law_652 (lv_at hl 1 rfl) ?_
        refine lv_if_ne (tgt := 669) hx hb dL_law_654 (by decide) (fun c_91 => ?_) (fun c_91 => ?_)
        · skip
          refine lv_goto (tgt := 1475) hx hb dL_law_669 (by decide) ?_
          refine W.widen (k := k0 + 100) (n := n0 + 3000) (by omega) (by omega) ?_
          exact K nk pa fa nc fo th tg nt tb te tk tt nu ub ue uk ut re ro fu bl go ra rc ex tc es wy 1 tb4 te4 tk4 tt4 ab re4 go4 be fz T up _ _ _ (by first | assumption | omega) (by first | assumption | omega) (by first | assumption | omega) hP hD hS (lv_sub hl [2, 3, 4, 5, 6] rfl)
        · exact absurd c_91 (by decide)
      · exact absurd c_90 (by decide)
    · skip
      exact absurd (h_17.symm.trans h_74) (by decide)
    · skip
      exact absurd (h_17.symm.trans h_81) (by decide)
  · skip
    replace h_23 := h_23.symm
    subst h_23
    replace h_26 := h_26.symm
    subst h_26
    replace h_27 := h_27.symm
    subst h_27
    replace h_28 := h_28.symm
    subst h_28
    replace h_29 := h_29.symm
    subst h_29
    replace h_30 := h_30.symm
    subst h_30
    have hP : va_P (dC, dI) vwCl ((w3 a cI cZ nk pa fa nc fo th tg nt tb te tk tt nu ub ue uk ut re ro fu bl go ra rc ex tc es wy) ++ ((w4 b cI cZ tw nk pa nc fo th tg nt tb4 te4 tk4 tt4 ex tc es wy ab re4 go4 be) ++ ([(ou, .inl (cJ, 1, .inr (.inl fz)))]))) H := hP
    have hD : va_D A ((w3 a cI cZ nk pa fa nc fo th tg nt tb te tk tt nu ub ue uk ut re ro fu bl go ra rc ex tc es wy) ++ ((w4 b cI cZ tw nk pa nc fo th tg nt tb4 te4 tk4 tt4 ex tc es wy ab re4 go4 be) ++ ([(ou, .inl (cJ, 1, .inr (.inl fz)))]))) := hD
    refine lv_istore (lv' := [(5, .int 2), (0, .ref sb), (1, .ref (a 0)), (2, .ref (b 0)), (3, .ref ou), (4, .int (nI i))]) hx hb dL_law_627 hl (by decide) rfl (fun ls hl => ?_)
    refine lv_aload_n hx hb dL_law_629 rfl (lv_at hl 3 rfl) ?_
    refine lv_aload_n hx hb dL_law_630 rfl (lv_at hl 1 rfl) ?_
    refine lv_iload hx hb dL_law_631 (lv_at hl 5 rfl) ?_
    refine lv_iconst (v := 1) hx hb dL_law_633 (by decide) ?_
    refine lv_iadd hx hb dL_law_634 ?_
    refine zz_top (y := nI (i + 1)) (nI_add _ _) ?_
    refine va_sld hx hb hX hbl hbA hS (vp_in_nI (n := i + 1) (by omega) (by omega)) dL_law_635 ?_
    refine zz_top (y := xs (i + 1)) (congrArg _ (nI_clamp (by omega))) ?_
    have hPc := hP.sub (ws' := w4 b cI cZ tw nk pa nc fo th tg nt tb4 te4 tk4 tt4 ex tc es wy ab re4 go4 be) [24, 25, 26, 27, 28, 29, 30, 31, 32, 33, 34, 35, 36] rfl
    have hDc := hD.sub (ws' := w4 b cI cZ tw nk pa nc fo th tg nt tb4 te4 tk4 tt4 ex tc es wy ab re4 go4 be) [24, 25, 26, 27, 28, 29, 30, 31, 32, 33, 34, 35, 36] (by decide) rfl
    have hFc := va_free (wc := w4 b cI cZ tw nk pa nc fo th tg nt tb4 te4 tk4 tt4 ex tc es wy ab re4 go4 be) hD hS hA [24, 25, 26, 27, 28, 29, 30, 31, 32, 33, 34, 35, 36] rfl
    refine va_calli (va_runV (As := [.int (xs (i + 1))]) (rest := []) ⟨hx, hb, hml, hown, hts⟩ (c_X4_raise l dC dI cI cZ cJ b tw nk pa nc fo th tg nt tb4 te4 tk4 tt4 ex tc es wy ab re4 go4 be (xs (i + 1)) T up H.size (by first | assumption | omega) (by first | assumption | omega)) (cwV 1 hts gL_law_X4_raise rfl rfl rfl (by decide +kernel) ⟨Nat.le_of_ble_eq_true rfl, Nat.le_of_ble_eq_true rfl⟩) ⟨zWr_blind, va_recv hK hPc (ci := 4) (q0 := 0) rfl rfl, zWr_at hPc hK hn (hDc.weaken (fun _ _ _ _ => trivial))⟩ rfl rfl hl.1 rfl (lv_room (Nat.le_of_ble_eq_true rfl)) dL_law_636 ⟨by show _ ≤ 601024; omega, by show _ ≤ 7293034; omega⟩) hS (fun q _ h => hFc q h) hFc (fun r_92 u_9 t H1 locs ht hvm hw hB hz1 hk1 hS => ?_)
    obtain ⟨tw9_92, nc9_93, fo9_94, th9_95, tg9_96⟩ := u_9
    dsimp only at hw hB
    obtain ⟨hP1, -, hD1⟩ := hB
    rw [ht] at hP1
    obtain ⟨hP, hD⟩ := va_join (wr := (w3 a cI cZ nk pa fa nc fo th tg nt tb te tk tt nu ub ue uk ut re ro fu bl go ra rc ex tc es wy) ++ ([(ou, .inl (cJ, 1, .inr (.inl fz)))])) (w1 := w4 b cI cZ tw9_92 nk pa nc9_93 fo9_94 th9_95 tg9_96 nt tb4 te4 tk4 tt4 ex tc es wy ab re4 go4 be) hP hD [24, 25, 26, 27, 28, 29, 30, 31, 32, 33, 34, 35, 36] [0, 1, 2, 3, 4, 5, 6, 7, 8, 9, 10, 11, 12, 13, 14, 15, 16, 17, 18, 19, 20, 21, 22, 23, 37] rfl rfl (by decide) (by decide) hk1 hFc hP1 hD1
    generalize H1 = H at hP hS ⊢
    have hP := hP.sub (ws' := (w3 a cI cZ nk pa fa nc fo th tg nt tb te tk tt nu ub ue uk ut re ro fu bl go ra rc ex tc es wy) ++ ((w4 b cI cZ tw9_92 nk pa nc9_93 fo9_94 th9_95 tg9_96 nt tb4 te4 tk4 tt4 ex tc es wy ab re4 go4 be) ++ ([(ou, .inl (cJ, 1, .inr (.inl fz)))]))) [0, 1, 2, 3, 4, 5, 6, 7, 8, 9, 10, 11, 12, 13, 14, 15, 16, 17, 18, 19, 20, 21, 22, 23, 25, 26, 27, 28, 29, 30, 31, 32, 33, 34, 35, 36, 37, 24] rfl
    have hD := hD.sub (ws' := (w3 a cI cZ nk pa fa nc fo th tg nt tb te tk tt nu ub ue uk ut re ro fu bl go ra rc ex tc es wy) ++ ((w4 b cI cZ tw9_92 nk pa nc9_93 fo9_94 th9_95 tg9_96 nt tb4 te4 tk4 tt4 ex tc es wy ab re4 go4 be) ++ ([(ou, .inl (cJ, 1, .inr (.inl fz)))]))) [0, 1, 2, 3, 4, 5, 6, 7, 8, 9, 10, 11, 12, 13, 14, 15, 16, 17, 18, 19, 20, 21, 22, 23, 25, 26, 27, 28, 29, 30, 31, 32, 33, 34, 35, 36, 37, 24] (by decide) rfl
    have hP : va_P (dC, dI) vwCl ((w3 a cI cZ nk pa fa nc fo th tg nt tb te tk tt nu ub ue uk ut re ro fu bl go ra rc ex tc es wy) ++ ((w4 b cI cZ tw9_92 nk pa nc9_93 fo9_94 th9_95 tg9_96 nt tb4 te4 tk4 tt4 ex tc es wy ab re4 go4 be) ++ ([(ou, .inl (cJ, 1, .inr (.inl fz)))]))) H := hP
    have hD : va_D A ((w3 a cI cZ nk pa fa nc fo th tg nt tb te tk tt nu ub ue uk ut re ro fu bl go ra rc ex tc es wy) ++ ((w4 b cI cZ tw9_92 nk pa nc9_93 fo9_94 th9_95 tg9_96 nt tb4 te4 tk4 tt4 ex tc es wy ab re4 go4 be) ++ ([(ou, .inl (cJ, 1, .inr (.inl fz)))]))) := hD
    rcases hw with ⟨h_98, h_99, h_100, h_101, h_102, h_103⟩ | ⟨h_104, h_105, h_106, h_107, h_108, h_109, h_110⟩ | ⟨h_111, h_112, h_113, h_114, h_115, h_116, h_117, h_118⟩
    · skip
      exact absurd (h_24.symm.trans h_98) (by decide)
    · skip
      replace h_106 := h_106.symm
      subst h_106
      replace h_107 := h_107.symm
      subst h_107
      replace h_108 := h_108.symm
      subst h_108
      replace h_109 := h_109.symm
      subst h_109
      replace h_110 := h_110.symm
      subst h_110
      have hP : va_P (dC, dI) vwCl ((w3 a cI cZ nk pa fa nc fo th tg nt tb te tk tt nu ub ue uk ut re ro fu bl go ra rc ex tc es wy) ++ ((w4 b cI cZ 2 nk pa nc fo th tg nt tb4 te4 tk4 tt4 ex tc es wy ab re4 go4 be) ++ ([(ou, .inl (cJ, 1, .inr (.inl fz)))]))) H := hP
      have hD : va_D A ((w3 a cI cZ nk pa fa nc fo th tg nt tb te tk tt nu ub ue uk ut re ro fu bl go ra rc ex tc es wy) ++ ((w4 b cI cZ 2 nk pa nc fo th tg nt tb4 te4 tk4 tt4 ex tc es wy ab re4 go4 be) ++ ([(ou, .inl (cJ, 1, .inr (.inl fz)))]))) := hD
      refine lv_istore (lv' := [(6, .int r_92), (5, .int 2), (0, .ref sb), (1, .ref (a 0)), (2, .ref (b 0)), (3, .ref ou), (4, .int (nI i))]) hx hb dL_law_639 hl (by decide) rfl (fun ls hl => ?_)
      refine lv_aload_n hx hb dL_law_641 rfl (lv_at hl 4 rfl) ?_
      have hPc := hP.sub (ws' := w4 b cI cZ 2 nk pa nc fo th tg nt tb4 te4 tk4 tt4 ex tc es wy ab re4 go4 be) [24, 25, 26, 27, 28, 29, 30, 31, 32, 33, 34, 35, 36] rfl
      refine va_calli (va_runV (As := []) (rest := []) ⟨hx, hb, hml, hown, hts⟩ (c_X4_thrown l dC dI cI cZ cJ b 2 nk pa nc fo th tg nt tb4 te4 tk4 tt4 ex tc es wy ab re4 go4 be ) (cwV 0 hts gL_law_X4_thrown rfl rfl rfl (by decide +kernel) ⟨Nat.le_of_ble_eq_true rfl, Nat.le_of_ble_eq_true rfl⟩) ⟨zPre_blind, va_recv hK hPc (ci := 4) (q0 := 0) rfl rfl, zPre_at hPc hK hn⟩ rfl rfl hl.1 rfl (lv_room (Nat.le_of_ble_eq_true rfl)) dL_law_642 ⟨by show _ ≤ 601024; omega, by show _ ≤ 7293034; omega⟩) hS (fun _ _ h => h.elim) (fun _ h => h.elim) (fun r_119 u_9 t H locs ht hvm hw hB hz1 hk1 hS => ?_)
      have hP := zkeep hP hk1
      subst hw
      refine lv_iload hx hb dL_law_645 (lv_at hl 1 rfl) ?_
      refine lv_icmp_eq (tgt := 652) hx hb dL_law_647 (by decide) (fun c_120 => ?_) (fun c_120 => ?_)
      · skip
        refine lv_iload hx hb dL_law_652 (lv_at hl 1 rfl) ?_
        refine lv_if_ne (tgt := 669) hx hb dL_law_654 (by decide) (fun c_121 => ?_) (fun c_121 => ?_)
        · skip
          refine lv_goto (tgt := 1475) hx hb dL_law_669 (by decide) ?_
          refine W.widen (k := k0 + 100) (n := n0 + 3000) (by omega) (by omega) ?_
          exact K nk pa fa nc fo th tg nt tb te tk tt nu ub ue uk ut re ro fu bl go ra rc ex tc es wy 2 tb4 te4 tk4 tt4 ab re4 go4 be fz T up _ _ _ (by first | assumption | omega) (by first | assumption | omega) (by first | assumption | omega) hP hD hS (lv_sub hl [2, 3, 4, 5, 6] rfl)
        · exact absurd c_121 (by decide)
      · exact absurd c_120 (by decide)
    · skip
      omega

set_option maxHeartbeats 4000000 in
set_option maxRecDepth 100000 in
theorem lk_9 {p : Program} {e : Env} {s : State} {m : MethodId} {below : List Frame} {meth : Method} {c : Code} {Q : State → Prop} (l : Launch) {sb L : Nat} {xs : Nat → Int32} (dC : Nat → ClassId) (dI : Nat → Nat → Nat) (cI cZ cJ : ClassId) (a b : Nat → Nat) (ou i k0 n0 : Nat) (hF0 : lwF p l s m c sb L xs dC dI cI cZ cJ) (hi : i + 5 ≤ L) (hk0 : k0 + 100 ≤ 601024) (hn0 : n0 + 3000 ≤ 7293034) (nk : Nat) (pa : Nat → Int32) (fa : Nat → Int32) (nc : Nat) (fo : Nat → Int32) (th : Nat → Int32) (tg : Nat → Int32) (nt : Nat) (tb : Nat → Int32) (te : Nat → Int32) (tk : Nat → Int32) (tt : Nat → Int32) (nu : Nat) (ub : Nat → Int32) (ue : Nat → Int32) (uk : Nat → Int32) (ut : Nat → Int32) (re : Nat → Int32) (ro : Nat → Int32) (fu : Nat → Int32) (bl : Nat → Int32) (go : Nat → Int32) (ra : Nat → Int32) (rc : Nat) (ex : Int32) (tc : Int32) (es : Int32) (wy : Int64) (tw : Int32) (tb4 : Nat → Int32) (te4 : Nat → Int32) (tk4 : Nat → Int32) (tt4 : Nat → Int32) (ab : Nat → Int32) (re4 : Nat → Int32) (go4 : Nat → Int32) (be : Nat → Int32) (fz : Nat → Int64) (T : Nat → Nat → Nat) (up : Nat → Nat → Bool) (hg : g3 nk fa up nt tb te tk tt T) (hg4 : g4 nk ab up nt tb4 te4 tk4 tt4 T) (hc : okC nk nc fo th tg) (H : Heap) (locs : List Loc) (ls : Array Slot) (hP : va_P (dC, dI) vwCl ((w3 a cI cZ nk pa fa nc fo th tg nt tb te tk tt nu ub ue uk ut re ro fu bl go ra rc ex tc es wy) ++ ((w4 b cI cZ tw nk pa nc fo th tg nt tb4 te4 tk4 tt4 ex tc es wy ab re4 go4 be) ++ ([(ou, .inl (cJ, 1, .inr (.inl fz)))]))) H) (hD : va_D (fun q => s.heap.size ≤ q) ((w3 a cI cZ nk pa fa nc fo th tg nt tb te tk tt nu ub ue uk ut re ro fu bl go ra rc ex tc es wy) ++ ((w4 b cI cZ tw nk pa nc fo th tg nt tb4 te4 tk4 tt4 ex tc es wy ab re4 go4 be) ++ ([(ou, .inl (cJ, 1, .inr (.inl fz)))])))) (hS : va_S (fun q => s.heap.size ≤ q) s.heap H locs) (hl : lv_has ls 9 [(0, .ref sb), (1, .ref (a 0)), (2, .ref (b 0)), (3, .ref ou), (4, .int (nI i))]) (K : ∀ (nk : Nat) (pa : Nat → Int32) (fa : Nat → Int32) (nc : Nat) (fo : Nat → Int32) (th : Nat → Int32) (tg : Nat → Int32) (nt : Nat) (tb : Nat → Int32) (te : Nat → Int32) (tk : Nat → Int32) (tt : Nat → Int32) (nu : Nat) (ub : Nat → Int32) (ue : Nat → Int32) (uk : Nat → Int32) (ut : Nat → Int32) (re : Nat → Int32) (ro : Nat → Int32) (fu : Nat → Int32) (bl : Nat → Int32) (go : Nat → Int32) (ra : Nat → Int32) (rc : Nat) (ex : Int32) (tc : Int32) (es : Int32) (wy : Int64) (tw : Int32) (tb4 : Nat → Int32) (te4 : Nat → Int32) (tk4 : Nat → Int32) (tt4 : Nat → Int32) (ab : Nat → Int32) (re4 : Nat → Int32) (go4 : Nat → Int32) (be : Nat → Int32) (fz : Nat → Int64) (T : Nat → Nat → Nat) (up : Nat → Nat → Bool) (H : Heap) (locs : List Loc) (ls : Array Slot), g3 nk fa up nt tb te tk tt T → g4 nk ab up nt tb4 te4 tk4 tt4 T → okC nk nc fo th tg → va_P (dC, dI) vwCl ((w3 a cI cZ nk pa fa nc fo th tg nt tb te tk tt nu ub ue uk ut re ro fu bl go ra rc ex tc es wy) ++ ((w4 b cI cZ tw nk pa nc fo th tg nt tb4 te4 tk4 tt4 ex tc es wy ab re4 go4 be) ++ ([(ou, .inl (cJ, 1, .inr (.inl fz)))]))) H → va_D (fun q => s.heap.size ≤ q) ((w3 a cI cZ nk pa fa nc fo th tg nt tb te tk tt nu ub ue uk ut re ro fu bl go ra rc ex tc es wy) ++ ((w4 b cI cZ tw nk pa nc fo th tg nt tb4 te4 tk4 tt4 ex tc es wy ab re4 go4 be) ++ ([(ou, .inl (cJ, 1, .inr (.inl fz)))]))) → va_S (fun q => s.heap.size ≤ q) s.heap H locs → lv_has ls 9 [(0, .ref sb), (1, .ref (a 0)), (2, .ref (b 0)), (3, .ref ou), (4, .int (nI i))] → W p l e room_1 s m #[Value.ref sb] below meth c H locs (k0 + 100) (n0 + 3000) Q (F0 m 1475 ls [])) : W p l e room_1 s m #[Value.ref sb] below meth c H locs k0 n0 Q (F0 m 672 ls []) := by
  obtain ⟨hx, hb, hml, hown, hts, hX, hbl, hL, hK, hn, hzt, hzu, hzc, hlt⟩ := id hF0
  obtain ⟨A, hAe⟩ : ∃ A : Nat → Prop, A = fun q => s.heap.size ≤ q := ⟨_, rfl⟩
  have hbA : ¬ A sb := by rw [hAe]; exact Nat.not_le.mpr hbl
  have hA : ∀ q : Nat, s.heap.size ≤ q → A q := fun q h => by rw [hAe]; exact h
  rw [← hAe] at hD hS hzu K
  refine lv_aload_n hx hb dL_law_672 rfl (lv_at hl 1 rfl) ?_
  have hPc := hP.sub (ws' := w3 a cI cZ nk pa fa nc fo th tg nt tb te tk tt nu ub ue uk ut re ro fu bl go ra rc ex tc es wy) [0, 1, 2, 3, 4, 5, 6, 7, 8, 9, 10, 11, 12, 13, 14, 15, 16, 17, 18, 19, 20, 21, 22, 23] rfl
  refine va_calli (va_runV (As := []) (rest := []) ⟨hx, hb, hml, hown, hts⟩ (c_X3_size l dC dI cI cZ cJ a nk pa fa nc fo th tg nt tb te tk tt nu ub ue uk ut re ro fu bl go ra rc ex tc es wy ) (cwV 0 hts gL_law_X3_size rfl rfl rfl (by decide +kernel) ⟨Nat.le_of_ble_eq_true rfl, Nat.le_of_ble_eq_true rfl⟩) ⟨zPre_blind, va_recv hK hPc (ci := 3) (q0 := 0) rfl rfl, zPre_at hPc hK hn⟩ rfl rfl hl.1 rfl (lv_room (Nat.le_of_ble_eq_true rfl)) dL_law_673 ⟨by show _ ≤ 601024; omega, by show _ ≤ 7293034; omega⟩) hS (fun _ _ h => h.elim) (fun _ h => h.elim) (fun r_1 u_9 t H locs ht hvm hw hB hz1 hk1 hS => ?_)
  have hP := zkeep hP hk1
  subst hw
  refine lv_aload_n hx hb dL_law_676 rfl (lv_at hl 2 rfl) ?_
  have hPc := hP.sub (ws' := w4 b cI cZ tw nk pa nc fo th tg nt tb4 te4 tk4 tt4 ex tc es wy ab re4 go4 be) [24, 25, 26, 27, 28, 29, 30, 31, 32, 33, 34, 35, 36] rfl
  have hDc := hD.sub (ws' := w4 b cI cZ tw nk pa nc fo th tg nt tb4 te4 tk4 tt4 ex tc es wy ab re4 go4 be) [24, 25, 26, 27, 28, 29, 30, 31, 32, 33, 34, 35, 36] (by decide) rfl
  have hFc := va_free (wc := w4 b cI cZ tw nk pa nc fo th tg nt tb4 te4 tk4 tt4 ex tc es wy ab re4 go4 be) hD hS hA [24, 25, 26, 27, 28, 29, 30, 31, 32, 33, 34, 35, 36] rfl
  refine va_calli (va_runV (As := []) (rest := [.int (nI nc)]) ⟨hx, hb, hml, hown, hts⟩ (c_X4_size l dC dI cI cZ cJ b tw nk pa nc fo th tg nt tb4 te4 tk4 tt4 ex tc es wy ab re4 go4 be H.size ) (cwV 0 hts gL_law_X4_size rfl rfl rfl (by decide +kernel) ⟨Nat.le_of_ble_eq_true rfl, Nat.le_of_ble_eq_true rfl⟩) ⟨zWr_blind, va_recv hK hPc (ci := 4) (q0 := 0) rfl rfl, zWr_at hPc hK hn (hDc.weaken (fun _ _ _ _ => trivial))⟩ rfl rfl hl.1 rfl (lv_room (Nat.le_of_ble_eq_true rfl)) dL_law_677 ⟨by show _ ≤ 601024; omega, by show _ ≤ 7293034; omega⟩) hS (fun q _ h => hFc q h) hFc (fun r_2 u_9 t H1 locs ht hvm hw hB hz1 hk1 hS => ?_)
  obtain ⟨hP1, -, hD1⟩ := hB
  rw [ht] at hP1
  obtain ⟨hP, hD⟩ := va_join (wr := (w3 a cI cZ nk pa fa nc fo th tg nt tb te tk tt nu ub ue uk ut re ro fu bl go ra rc ex tc es wy) ++ ([(ou, .inl (cJ, 1, .inr (.inl fz)))])) (w1 := w4 b cI cZ 0 nk pa nc fo th tg nt tb4 te4 tk4 tt4 ex tc es wy ab re4 go4 be) hP hD [24, 25, 26, 27, 28, 29, 30, 31, 32, 33, 34, 35, 36] [0, 1, 2, 3, 4, 5, 6, 7, 8, 9, 10, 11, 12, 13, 14, 15, 16, 17, 18, 19, 20, 21, 22, 23, 37] rfl rfl (by decide) (by decide) hk1 hFc hP1 hD1
  generalize H1 = H at hP hS ⊢
  have hP := hP.sub (ws' := (w3 a cI cZ nk pa fa nc fo th tg nt tb te tk tt nu ub ue uk ut re ro fu bl go ra rc ex tc es wy) ++ ((w4 b cI cZ 0 nk pa nc fo th tg nt tb4 te4 tk4 tt4 ex tc es wy ab re4 go4 be) ++ ([(ou, .inl (cJ, 1, .inr (.inl fz)))]))) [0, 1, 2, 3, 4, 5, 6, 7, 8, 9, 10, 11, 12, 13, 14, 15, 16, 17, 18, 19, 20, 21, 22, 23, 25, 26, 27, 28, 29, 30, 31, 32, 33, 34, 35, 36, 37, 24] rfl
  have hD := hD.sub (ws' := (w3 a cI cZ nk pa fa nc fo th tg nt tb te tk tt nu ub ue uk ut re ro fu bl go ra rc ex tc es wy) ++ ((w4 b cI cZ 0 nk pa nc fo th tg nt tb4 te4 tk4 tt4 ex tc es wy ab re4 go4 be) ++ ([(ou, .inl (cJ, 1, .inr (.inl fz)))]))) [0, 1, 2, 3, 4, 5, 6, 7, 8, 9, 10, 11, 12, 13, 14, 15, 16, 17, 18, 19, 20, 21, 22, 23, 25, 26, 27, 28, 29, 30, 31, 32, 33, 34, 35, 36, 37, 24] (by decide) rfl
  have hP : va_P (dC, dI) vwCl ((w3 a cI cZ nk pa fa nc fo th tg nt tb te tk tt nu ub ue uk ut re ro fu bl go ra rc ex tc es wy) ++ ((w4 b cI cZ 0 nk pa nc fo th tg nt tb4 te4 tk4 tt4 ex tc es wy ab re4 go4 be) ++ ([(ou, .inl (cJ, 1, .inr (.inl fz)))]))) H := hP
  have hD : va_D A ((w3 a cI cZ nk pa fa nc fo th tg nt tb te tk tt nu ub ue uk ut re ro fu bl go ra rc ex tc es wy) ++ ((w4 b cI cZ 0 nk pa nc fo th tg nt tb4 te4 tk4 tt4 ex tc es wy ab re4 go4 be) ++ ([(ou, .inl (cJ, 1, .inr (.inl fz)))]))) := hD
  subst hw
  refine lv_icmp_eq (tgt := 1475) hx hb dL_law_680 (by decide) (fun c_3 => ?_) (fun c_3 => ?_)
  · skip
    skip
    refine W.widen (k := k0 + 100) (n := n0 + 3000) (by omega) (by omega) ?_
    exact K nk pa fa nc fo th tg nt tb te tk tt nu ub ue uk ut re ro fu bl go ra rc ex tc es wy 0 tb4 te4 tk4 tt4 ab re4 go4 be fz T up _ _ _ (by first | assumption | omega) (by first | assumption | omega) (by first | assumption | omega) hP hD hS (lv_sub hl [0, 1, 2, 3, 4] rfl)
  · exact absurd rfl c_3

set_option maxHeartbeats 4000000 in
set_option maxRecDepth 100000 in
theorem lk_10 {p : Program} {e : Env} {s : State} {m : MethodId} {below : List Frame} {meth : Method} {c : Code} {Q : State → Prop} (l : Launch) {sb L : Nat} {xs : Nat → Int32} (dC : Nat → ClassId) (dI : Nat → Nat → Nat) (cI cZ cJ : ClassId) (a b : Nat → Nat) (ou i k0 n0 : Nat) (hF0 : lwF p l s m c sb L xs dC dI cI cZ cJ) (hi : i + 5 ≤ L) (hk0 : k0 + 100 ≤ 601024) (hn0 : n0 + 3000 ≤ 7293034) (nk : Nat) (pa : Nat → Int32) (fa : Nat → Int32) (nc : Nat) (fo : Nat → Int32) (th : Nat → Int32) (tg : Nat → Int32) (nt : Nat) (tb : Nat → Int32) (te : Nat → Int32) (tk : Nat → Int32) (tt : Nat → Int32) (nu : Nat) (ub : Nat → Int32) (ue : Nat → Int32) (uk : Nat → Int32) (ut : Nat → Int32) (re : Nat → Int32) (ro : Nat → Int32) (fu : Nat → Int32) (bl : Nat → Int32) (go : Nat → Int32) (ra : Nat → Int32) (rc : Nat) (ex : Int32) (tc : Int32) (es : Int32) (wy : Int64) (tw : Int32) (tb4 : Nat → Int32) (te4 : Nat → Int32) (tk4 : Nat → Int32) (tt4 : Nat → Int32) (ab : Nat → Int32) (re4 : Nat → Int32) (go4 : Nat → Int32) (be : Nat → Int32) (fz : Nat → Int64) (T : Nat → Nat → Nat) (up : Nat → Nat → Bool) (hg : g3 nk fa up nt tb te tk tt T) (hg4 : g4 nk ab up nt tb4 te4 tk4 tt4 T) (hc : okC nk nc fo th tg) (H : Heap) (locs : List Loc) (ls : Array Slot) (hP : va_P (dC, dI) vwCl ((w3 a cI cZ nk pa fa nc fo th tg nt tb te tk tt nu ub ue uk ut re ro fu bl go ra rc ex tc es wy) ++ ((w4 b cI cZ tw nk pa nc fo th tg nt tb4 te4 tk4 tt4 ex tc es wy ab re4 go4 be) ++ ([(ou, .inl (cJ, 1, .inr (.inl fz)))]))) H) (hD : va_D (fun q => s.heap.size ≤ q) ((w3 a cI cZ nk pa fa nc fo th tg nt tb te tk tt nu ub ue uk ut re ro fu bl go ra rc ex tc es wy) ++ ((w4 b cI cZ tw nk pa nc fo th tg nt tb4 te4 tk4 tt4 ex tc es wy ab re4 go4 be) ++ ([(ou, .inl (cJ, 1, .inr (.inl fz)))])))) (hS : va_S (fun q => s.heap.size ≤ q) s.heap H locs) (hl : lv_has ls 9 [(0, .ref sb), (1, .ref (a 0)), (2, .ref (b 0)), (3, .ref ou), (4, .int (nI i))]) (K : ∀ (nk : Nat) (pa : Nat → Int32) (fa : Nat → Int32) (nc : Nat) (fo : Nat → Int32) (th : Nat → Int32) (tg : Nat → Int32) (nt : Nat) (tb : Nat → Int32) (te : Nat → Int32) (tk : Nat → Int32) (tt : Nat → Int32) (nu : Nat) (ub : Nat → Int32) (ue : Nat → Int32) (uk : Nat → Int32) (ut : Nat → Int32) (re : Nat → Int32) (ro : Nat → Int32) (fu : Nat → Int32) (bl : Nat → Int32) (go : Nat → Int32) (ra : Nat → Int32) (rc : Nat) (ex : Int32) (tc : Int32) (es : Int32) (wy : Int64) (tw : Int32) (tb4 : Nat → Int32) (te4 : Nat → Int32) (tk4 : Nat → Int32) (tt4 : Nat → Int32) (ab : Nat → Int32) (re4 : Nat → Int32) (go4 : Nat → Int32) (be : Nat → Int32) (fz : Nat → Int64) (T : Nat → Nat → Nat) (up : Nat → Nat → Bool) (H : Heap) (locs : List Loc) (ls : Array Slot), g3 nk fa up nt tb te tk tt T → g4 nk ab up nt tb4 te4 tk4 tt4 T → okC nk nc fo th tg → va_P (dC, dI) vwCl ((w3 a cI cZ nk pa fa nc fo th tg nt tb te tk tt nu ub ue uk ut re ro fu bl go ra rc ex tc es wy) ++ ((w4 b cI cZ tw nk pa nc fo th tg nt tb4 te4 tk4 tt4 ex tc es wy ab re4 go4 be) ++ ([(ou, .inl (cJ, 1, .inr (.inl fz)))]))) H → va_D (fun q => s.heap.size ≤ q) ((w3 a cI cZ nk pa fa nc fo th tg nt tb te tk tt nu ub ue uk ut re ro fu bl go ra rc ex tc es wy) ++ ((w4 b cI cZ tw nk pa nc fo th tg nt tb4 te4 tk4 tt4 ex tc es wy ab re4 go4 be) ++ ([(ou, .inl (cJ, 1, .inr (.inl fz)))]))) → va_S (fun q => s.heap.size ≤ q) s.heap H locs → lv_has ls 9 [(0, .ref sb), (1, .ref (a 0)), (2, .ref (b 0)), (3, .ref ou), (4, .int (nI i))] → W p l e room_1 s m #[Value.ref sb] below meth c H locs (k0 + 100) (n0 + 3000) Q (F0 m 1475 ls [])) : W p l e room_1 s m #[Value.ref sb] below meth c H locs k0 n0 Q (F0 m 685 ls []) := by
  obtain ⟨hx, hb, hml, hown, hts, hX, hbl, hL, hK, hn, hzt, hzu, hzc, hlt⟩ := id hF0
  obtain ⟨A, hAe⟩ : ∃ A : Nat → Prop, A = fun q => s.heap.size ≤ q := ⟨_, rfl⟩
  have hbA : ¬ A sb := by rw [hAe]; exact Nat.not_le.mpr hbl
  have hA : ∀ q : Nat, s.heap.size ≤ q → A q := fun q h => by rw [hAe]; exact h
  rw [← hAe] at hD hS hzu K
  refine lv_aload_n hx hb dL_law_685 rfl (lv_at hl 1 rfl) ?_
  refine lv_aload_n hx hb dL_law_686 rfl (lv_at hl 0 rfl) ?_
  refine lv_iload hx hb dL_law_687 (lv_at hl 4 rfl) ?_
  refine lv_iconst (v := 1) hx hb dL_law_689 (by decide) ?_
  refine lv_iadd hx hb dL_law_690 ?_
  refine zz_top (y := nI (i + 1)) (nI_add _ _) ?_
  refine va_sld hx hb hX hbl hbA hS (vp_in_nI (n := i + 1) (by omega) (by omega)) dL_law_691 ?_
  refine zz_top (y := xs (i + 1)) (congrArg _ (nI_clamp (by omega))) ?_
  refine lv_aload_n hx hb dL_law_692 rfl (lv_at hl 0 rfl) ?_
  refine lv_iload hx hb dL_law_693 (lv_at hl 4 rfl) ?_
  refine lv_iconst (v := 2) hx hb dL_law_695 (by decide) ?_
  refine lv_iadd hx hb dL_law_696 ?_
  refine zz_top (y := nI (i + 2)) (nI_add _ _) ?_
  refine va_sld hx hb hX hbl hbA hS (vp_in_nI (n := i + 2) (by omega) (by omega)) dL_law_697 ?_
  refine zz_top (y := xs (i + 2)) (congrArg _ (nI_clamp (by omega))) ?_
  refine lv_aload_n hx hb dL_law_698 rfl (lv_at hl 3 rfl) ?_
  have hPc := hP.sub (ws' := (w3 a cI cZ nk pa fa nc fo th tg nt tb te tk tt nu ub ue uk ut re ro fu bl go ra rc ex tc es wy) ++ ([(ou, .inl (cJ, 1, .inr (.inl fz)))])) [0, 1, 2, 3, 4, 5, 6, 7, 8, 9, 10, 11, 12, 13, 14, 15, 16, 17, 18, 19, 20, 21, 22, 23, 37] rfl
  have hDc := hD.sub (ws' := (w3 a cI cZ nk pa fa nc fo th tg nt tb te tk tt nu ub ue uk ut re ro fu bl go ra rc ex tc es wy) ++ ([(ou, .inl (cJ, 1, .inr (.inl fz)))])) [0, 1, 2, 3, 4, 5, 6, 7, 8, 9, 10, 11, 12, 13, 14, 15, 16, 17, 18, 19, 20, 21, 22, 23, 37] (by decide) rfl
  have hFc := va_free (wc := (w3 a cI cZ nk pa fa nc fo th tg nt tb te tk tt nu ub ue uk ut re ro fu bl go ra rc ex tc es wy) ++ ([(ou, .inl (cJ, 1, .inr (.inl fz)))])) hD hS hA [0, 1, 2, 3, 4, 5, 6, 7, 8, 9, 10, 11, 12, 13, 14, 15, 16, 17, 18, 19, 20, 21, 22, 23, 37] rfl
  refine va_calli (vx_runSW (As := [.ref (a 0), .int (xs (i + 1)), .int (xs (i + 2)), .ref ou]) (rest := []) ⟨hx, hb, hml, hown, hts⟩ (c_L_instruction l dC dI cI cZ cJ a nk pa fa nc fo th tg nt tb te tk tt nu ub ue uk ut re ro fu bl go ra rc ex tc es wy (xs (i + 1)) (xs (i + 2)) T up ou fz H.size hlt (by first | assumption | omega) (by first | assumption | omega)) (vx_cwSW 4 hts gL_law_L_instruction rfl rfl rfl (by decide +kernel) ⟨Nat.le_of_ble_eq_true rfl, Nat.le_of_ble_eq_true rfl⟩) ⟨zTl_blind, zTl_at hPc hK hn (hDc.weaken (fun _ _ _ _ => trivial)) hzt hzu hS hFc hzc⟩ rfl rfl hl.1 rfl (lv_room (Nat.le_of_ble_eq_true rfl)) dL_law_699 ⟨by show _ ≤ 601024; omega, by show _ ≤ 7293034; omega⟩) hS (fun q _ h => hFc q h) hFc (fun r_1 u_9 t H1 locs ht hvm hw hB hz1 hk1 hS => ?_)
  obtain ⟨fz9_1, rfl⟩ : ∃ z, z = u_9 := ⟨_, rfl⟩
  obtain ⟨hP1, -, hD1⟩ := hB
  rw [ht] at hP1
  obtain ⟨hP, hD⟩ := va_join (wr := w4 b cI cZ tw nk pa nc fo th tg nt tb4 te4 tk4 tt4 ex tc es wy ab re4 go4 be) (w1 := (w3 a cI cZ nk pa fa nc fo th tg nt tb te tk tt nu ub ue uk ut re ro fu bl go ra rc ex tc es wy) ++ ([(ou, .inl (cJ, 1, .inr (.inl fz9_1)))])) hP hD [0, 1, 2, 3, 4, 5, 6, 7, 8, 9, 10, 11, 12, 13, 14, 15, 16, 17, 18, 19, 20, 21, 22, 23, 37] [24, 25, 26, 27, 28, 29, 30, 31, 32, 33, 34, 35, 36] rfl rfl (by decide) (by decide) hk1 hFc hP1 hD1
  generalize H1 = H at hP hS ⊢
  have hP := hP.sub (ws' := (w3 a cI cZ nk pa fa nc fo th tg nt tb te tk tt nu ub ue uk ut re ro fu bl go ra rc ex tc es wy) ++ ((w4 b cI cZ tw nk pa nc fo th tg nt tb4 te4 tk4 tt4 ex tc es wy ab re4 go4 be) ++ ([(ou, .inl (cJ, 1, .inr (.inl fz9_1)))]))) [13, 14, 15, 16, 17, 18, 19, 20, 21, 22, 23, 24, 25, 26, 27, 28, 29, 30, 31, 32, 33, 34, 35, 36, 0, 1, 2, 3, 4, 5, 6, 7, 8, 9, 10, 11, 12, 37] rfl
  have hD := hD.sub (ws' := (w3 a cI cZ nk pa fa nc fo th tg nt tb te tk tt nu ub ue uk ut re ro fu bl go ra rc ex tc es wy) ++ ((w4 b cI cZ tw nk pa nc fo th tg nt tb4 te4 tk4 tt4 ex tc es wy ab re4 go4 be) ++ ([(ou, .inl (cJ, 1, .inr (.inl fz9_1)))]))) [13, 14, 15, 16, 17, 18, 19, 20, 21, 22, 23, 24, 25, 26, 27, 28, 29, 30, 31, 32, 33, 34, 35, 36, 0, 1, 2, 3, 4, 5, 6, 7, 8, 9, 10, 11, 12, 37] (by decide) rfl
  have hP : va_P (dC, dI) vwCl ((w3 a cI cZ nk pa fa nc fo th tg nt tb te tk tt nu ub ue uk ut re ro fu bl go ra rc ex tc es wy) ++ ((w4 b cI cZ tw nk pa nc fo th tg nt tb4 te4 tk4 tt4 ex tc es wy ab re4 go4 be) ++ ([(ou, .inl (cJ, 1, .inr (.inl fz9_1)))]))) H := hP
  have hD : va_D A ((w3 a cI cZ nk pa fa nc fo th tg nt tb te tk tt nu ub ue uk ut re ro fu bl go ra rc ex tc es wy) ++ ((w4 b cI cZ tw nk pa nc fo th tg nt tb4 te4 tk4 tt4 ex tc es wy ab re4 go4 be) ++ ([(ou, .inl (cJ, 1, .inr (.inl fz9_1)))]))) := hD
  refine W.widen (k := k0 + 2) (n := n0 + 12) (by omega) (by omega) ?_
  rcases hw with ⟨h_3, h_4, h_5⟩ | ⟨h_6, h_7, h_8⟩
  · skip
    replace h_3 := h_3.symm
    subst h_3
    replace h_4 := h_4.symm
    subst h_4
    have hP : va_P (dC, dI) vwCl ((w3 a cI cZ nk pa fa nc fo th tg nt tb te tk tt nu ub ue uk ut re ro fu bl go ra rc ex tc es wy) ++ ((w4 b cI cZ tw nk pa nc fo th tg nt tb4 te4 tk4 tt4 ex tc es wy ab re4 go4 be) ++ ([(ou, .inl (cJ, 1, .inr (.inl (vp_updL fz 0 ((insV fo th tg (xs (i + 1)).toNatClampNeg (xs (i + 2))).toInt64)))))]))) H := hP
    have hD : va_D A ((w3 a cI cZ nk pa fa nc fo th tg nt tb te tk tt nu ub ue uk ut re ro fu bl go ra rc ex tc es wy) ++ ((w4 b cI cZ tw nk pa nc fo th tg nt tb4 te4 tk4 tt4 ex tc es wy ab re4 go4 be) ++ ([(ou, .inl (cJ, 1, .inr (.inl (vp_updL fz 0 ((insV fo th tg (xs (i + 1)).toNatClampNeg (xs (i + 2))).toInt64)))))]))) := hD
    refine lv_istore (lv' := [(5, .int 0), (0, .ref sb), (1, .ref (a 0)), (2, .ref (b 0)), (3, .ref ou), (4, .int (nI i))]) hx hb dL_law_702 hl (by decide) rfl (fun ls hl => ?_)
    refine lv_aload_n hx hb dL_law_704 rfl (lv_at hl 3 rfl) ?_
    refine lv_aload_n hx hb dL_law_705 rfl (lv_at hl 1 rfl) ?_
    refine lv_iload hx hb dL_law_706 (lv_at hl 5 rfl) ?_
    refine lv_iconst (v := 1) hx hb dL_law_708 (by decide) ?_
    refine lv_iadd hx hb dL_law_709 ?_
    refine zz_top (y := nI (i + 1)) (nI_add _ _) ?_
    refine va_sld hx hb hX hbl hbA hS (vp_in_nI (n := i + 1) (by omega) (by omega)) dL_law_710 ?_
    refine zz_top (y := xs (i + 1)) (congrArg _ (nI_clamp (by omega))) ?_
    refine lv_aload_n hx hb dL_law_711 rfl (lv_at hl 1 rfl) ?_
    refine lv_iload hx hb dL_law_712 (lv_at hl 5 rfl) ?_
    refine lv_iconst (v := 2) hx hb dL_law_714 (by decide) ?_
    refine lv_iadd hx hb dL_law_715 ?_
    refine zz_top (y := nI (i + 2)) (nI_add _ _) ?_
    refine va_sld hx hb hX hbl hbA hS (vp_in_nI (n := i + 2) (by omega) (by omega)) dL_law_716 ?_
    refine zz_top (y := xs (i + 2)) (congrArg _ (nI_clamp (by omega))) ?_
    have hPc := hP.sub (ws' := w4 b cI cZ tw nk pa nc fo th tg nt tb4 te4 tk4 tt4 ex tc es wy ab re4 go4 be) [24, 25, 26, 27, 28, 29, 30, 31, 32, 33, 34, 35, 36] rfl
    have hDc := hD.sub (ws' := w4 b cI cZ tw nk pa nc fo th tg nt tb4 te4 tk4 tt4 ex tc es wy ab re4 go4 be) [24, 25, 26, 27, 28, 29, 30, 31, 32, 33, 34, 35, 36] (by decide) rfl
    have hFc := va_free (wc := w4 b cI cZ tw nk pa nc fo th tg nt tb4 te4 tk4 tt4 ex tc es wy ab re4 go4 be) hD hS hA [24, 25, 26, 27, 28, 29, 30, 31, 32, 33, 34, 35, 36] rfl
    refine va_calli (va_runV (As := [.int (xs (i + 1)), .int (xs (i + 2))]) (rest := []) ⟨hx, hb, hml, hown, hts⟩ (c_X4_instruction l dC dI cI cZ cJ b tw nk pa nc fo th tg nt tb4 te4 tk4 tt4 ex tc es wy ab re4 go4 be (xs (i + 1)) (xs (i + 2)) T up H.size (by first | assumption | omega) (by first | assumption | omega)) (cwV 2 hts gL_law_X4_instruction rfl rfl rfl (by decide +kernel) ⟨Nat.le_of_ble_eq_true rfl, Nat.le_of_ble_eq_true rfl⟩) ⟨zWr_blind, va_recv hK hPc (ci := 4) (q0 := 0) rfl rfl, zWr_at hPc hK hn (hDc.weaken (fun _ _ _ _ => trivial))⟩ rfl rfl hl.1 rfl (lv_room (Nat.le_of_ble_eq_true rfl)) dL_law_717 ⟨by show _ ≤ 601024; omega, by show _ ≤ 7293034; omega⟩) hS (fun q _ h => hFc q h) hFc (fun r_9 u_9 t H1 locs ht hvm hw hB hz1 hk1 hS => ?_)
    obtain ⟨tw9_9, rfl⟩ : ∃ z, z = u_9 := ⟨_, rfl⟩
    obtain ⟨hP1, -, hD1⟩ := hB
    rw [ht] at hP1
    obtain ⟨hP, hD⟩ := va_join (wr := (w3 a cI cZ nk pa fa nc fo th tg nt tb te tk tt nu ub ue uk ut re ro fu bl go ra rc ex tc es wy) ++ ([(ou, .inl (cJ, 1, .inr (.inl (vp_updL fz 0 ((insV fo th tg (xs (i + 1)).toNatClampNeg (xs (i + 2))).toInt64)))))])) (w1 := w4 b cI cZ tw9_9 nk pa nc fo th tg nt tb4 te4 tk4 tt4 ex tc es wy ab re4 go4 be) hP hD [24, 25, 26, 27, 28, 29, 30, 31, 32, 33, 34, 35, 36] [0, 1, 2, 3, 4, 5, 6, 7, 8, 9, 10, 11, 12, 13, 14, 15, 16, 17, 18, 19, 20, 21, 22, 23, 37] rfl rfl (by decide) (by decide) hk1 hFc hP1 hD1
    generalize H1 = H at hP hS ⊢
    have hP := hP.sub (ws' := (w3 a cI cZ nk pa fa nc fo th tg nt tb te tk tt nu ub ue uk ut re ro fu bl go ra rc ex tc es wy) ++ ((w4 b cI cZ tw9_9 nk pa nc fo th tg nt tb4 te4 tk4 tt4 ex tc es wy ab re4 go4 be) ++ ([(ou, .inl (cJ, 1, .inr (.inl (vp_updL fz 0 ((insV fo th tg (xs (i + 1)).toNatClampNeg (xs (i + 2))).toInt64)))))]))) [0, 1, 2, 3, 4, 5, 6, 7, 8, 9, 10, 11, 12, 13, 14, 15, 16, 17, 18, 19, 20, 21, 22, 23, 25, 26, 27, 28, 29, 30, 31, 32, 33, 34, 35, 36, 37, 24] rfl
    have hD := hD.sub (ws' := (w3 a cI cZ nk pa fa nc fo th tg nt tb te tk tt nu ub ue uk ut re ro fu bl go ra rc ex tc es wy) ++ ((w4 b cI cZ tw9_9 nk pa nc fo th tg nt tb4 te4 tk4 tt4 ex tc es wy ab re4 go4 be) ++ ([(ou, .inl (cJ, 1, .inr (.inl (vp_updL fz 0 ((insV fo th tg (xs (i + 1)).toNatClampNeg (xs (i + 2))).toInt64)))))]))) [0, 1, 2, 3, 4, 5, 6, 7, 8, 9, 10, 11, 12, 13, 14, 15, 16, 17, 18, 19, 20, 21, 22, 23, 25, 26, 27, 28, 29, 30, 31, 32, 33, 34, 35, 36, 37, 24] (by decide) rfl
    have hP : va_P (dC, dI) vwCl ((w3 a cI cZ nk pa fa nc fo th tg nt tb te tk tt nu ub ue uk ut re ro fu bl go ra rc ex tc es wy) ++ ((w4 b cI cZ tw9_9 nk pa nc fo th tg nt tb4 te4 tk4 tt4 ex tc es wy ab re4 go4 be) ++ ([(ou, .inl (cJ, 1, .inr (.inl (vp_updL fz 0 ((insV fo th tg (xs (i + 1)).toNatClampNeg (xs (i + 2))).toInt64)))))]))) H := hP
    have hD : va_D A ((w3 a cI cZ nk pa fa nc fo th tg nt tb te tk tt nu ub ue uk ut re ro fu bl go ra rc ex tc es wy) ++ ((w4 b cI cZ tw9_9 nk pa nc fo th tg nt tb4 te4 tk4 tt4 ex tc es wy ab re4 go4 be) ++ ([(ou, .inl (cJ, 1, .inr (.inl (vp_updL fz 0 ((insV fo th tg (xs (i + 1)).toNatClampNeg (xs (i + 2))).toInt64)))))]))) := hD
    rcases hw with ⟨h_11, h_12, h_13⟩ | ⟨h_14, h_15⟩
    · skip
      replace h_12 := h_12.symm
      subst h_12
      replace h_13 := h_13.symm
      subst h_13
      have hP : va_P (dC, dI) vwCl ((w3 a cI cZ nk pa fa nc fo th tg nt tb te tk tt nu ub ue uk ut re ro fu bl go ra rc ex tc es wy) ++ ((w4 b cI cZ 0 nk pa nc fo th tg nt tb4 te4 tk4 tt4 ex tc es wy ab re4 go4 be) ++ ([(ou, .inl (cJ, 1, .inr (.inl (vp_updL fz 0 ((insV fo th tg (xs (i + 1)).toNatClampNeg (xs (i + 2))).toInt64)))))]))) H := hP
      have hD : va_D A ((w3 a cI cZ nk pa fa nc fo th tg nt tb te tk tt nu ub ue uk ut re ro fu bl go ra rc ex tc es wy) ++ ((w4 b cI cZ 0 nk pa nc fo th tg nt tb4 te4 tk4 tt4 ex tc es wy ab re4 go4 be) ++ ([(ou, .inl (cJ, 1, .inr (.inl (vp_updL fz 0 ((insV fo th tg (xs (i + 1)).toNatClampNeg (xs (i + 2))).toInt64)))))]))) := hD
      refine lv_istore (lv' := [(6, .int (insV fo th tg (xs (i + 1)).toNatClampNeg (xs (i + 2)))), (5, .int 0), (0, .ref sb), (1, .ref (a 0)), (2, .ref (b 0)), (3, .ref ou), (4, .int (nI i))]) hx hb dL_law_720 hl (by decide) rfl (fun ls hl => ?_)
      refine lv_aload_n hx hb dL_law_722 rfl (lv_at hl 4 rfl) ?_
      have hPc := hP.sub (ws' := w4 b cI cZ 0 nk pa nc fo th tg nt tb4 te4 tk4 tt4 ex tc es wy ab re4 go4 be) [24, 25, 26, 27, 28, 29, 30, 31, 32, 33, 34, 35, 36] rfl
      refine va_calli (va_runV (As := []) (rest := []) ⟨hx, hb, hml, hown, hts⟩ (c_X4_thrown l dC dI cI cZ cJ b 0 nk pa nc fo th tg nt tb4 te4 tk4 tt4 ex tc es wy ab re4 go4 be ) (cwV 0 hts gL_law_X4_thrown rfl rfl rfl (by decide +kernel) ⟨Nat.le_of_ble_eq_true rfl, Nat.le_of_ble_eq_true rfl⟩) ⟨zPre_blind, va_recv hK hPc (ci := 4) (q0 := 0) rfl rfl, zPre_at hPc hK hn⟩ rfl rfl hl.1 rfl (lv_room (Nat.le_of_ble_eq_true rfl)) dL_law_723 ⟨by show _ ≤ 601024; omega, by show _ ≤ 7293034; omega⟩) hS (fun _ _ h => h.elim) (fun _ h => h.elim) (fun r_16 u_9 t H locs ht hvm hw hB hz1 hk1 hS => ?_)
      have hP := zkeep hP hk1
      subst hw
      refine lv_iload hx hb dL_law_726 (lv_at hl 1 rfl) ?_
      refine lv_icmp_eq (tgt := 733) hx hb dL_law_728 (by decide) (fun c_17 => ?_) (fun c_17 => ?_)
      · skip
        refine lv_iload hx hb dL_law_733 (lv_at hl 1 rfl) ?_
        refine lv_if_ne (tgt := 750) hx hb dL_law_735 (by decide) (fun c_18 => ?_) (fun c_18 => ?_)
        · exact absurd c_18 (by decide)
        · skip
          refine lv_aload_n hx hb dL_law_738 rfl (lv_at hl 5 rfl) ?_
          refine lv_iconst (v := 0) hx hb dL_law_739 (by decide) ?_
          refine va_lald hx hb hK hP 37 2 rfl rfl (vp_in_nI (n := 0) (by omega) (by decide)) dL_law_740 ?_
          refine zz_topl (y := (vp_updL fz 0 ((insV fo th tg (xs (i + 1)).toNatClampNeg (xs (i + 2))).toInt64)) 0) (rfl) ?_
          refine lv_iload hx hb dL_law_741 (lv_at hl 0 rfl) ?_
          refine lv_i2l (v := (insV fo th tg (xs (i + 1)).toNatClampNeg (xs (i + 2))).toInt64) hx hb dL_law_743 rfl ?_
          refine W.lcmp hx hb dL_law_744 ?_
          refine lv_if_eq (tgt := 750) hx hb dL_law_745 (by decide) (fun c_19 => ?_) (fun c_19 => ?_)
          · skip
            skip
            refine lv_goto (tgt := 1475) hx hb dL_law_750 (by decide) ?_
            refine W.widen (k := k0 + 100) (n := n0 + 3000) (by omega) (by omega) ?_
            exact K nk pa fa nc fo th tg nt tb te tk tt nu ub ue uk ut re ro fu bl go ra rc ex tc es wy 0 tb4 te4 tk4 tt4 ab re4 go4 be (vp_updL fz 0 ((insV fo th tg (xs (i + 1)).toNatClampNeg (xs (i + 2))).toInt64)) T up _ _ _ (by first | assumption | omega) (by first | assumption | omega) (by first | assumption | omega) hP hD hS (lv_sub hl [2, 3, 4, 5, 6] rfl)
          · exact absurd ((lg_cmp_eq _ _).mpr (by first | rfl | exact (bL_t hz9).symm | exact (bL_f hz9).symm)) c_19
      · exact absurd c_17 (by decide)
    · skip
      exact absurd (h_5.symm.trans h_14) (by decide)
  · skip
    replace h_6 := h_6.symm
    subst h_6
    replace h_8 := h_8.symm
    subst h_8
    have hP : va_P (dC, dI) vwCl ((w3 a cI cZ nk pa fa nc fo th tg nt tb te tk tt nu ub ue uk ut re ro fu bl go ra rc ex tc es wy) ++ ((w4 b cI cZ tw nk pa nc fo th tg nt tb4 te4 tk4 tt4 ex tc es wy ab re4 go4 be) ++ ([(ou, .inl (cJ, 1, .inr (.inl fz)))]))) H := hP
    have hD : va_D A ((w3 a cI cZ nk pa fa nc fo th tg nt tb te tk tt nu ub ue uk ut re ro fu bl go ra rc ex tc es wy) ++ ((w4 b cI cZ tw nk pa nc fo th tg nt tb4 te4 tk4 tt4 ex tc es wy ab re4 go4 be) ++ ([(ou, .inl (cJ, 1, .inr (.inl fz)))]))) := hD
    refine lv_istore (lv' := [(5, .int 1), (0, .ref sb), (1, .ref (a 0)), (2, .ref (b 0)), (3, .ref ou), (4, .int (nI i))]) hx hb dL_law_702 hl (by decide) rfl (fun ls hl => ?_)
    refine lv_aload_n hx hb dL_law_704 rfl (lv_at hl 3 rfl) ?_
    refine lv_aload_n hx hb dL_law_705 rfl (lv_at hl 1 rfl) ?_
    refine lv_iload hx hb dL_law_706 (lv_at hl 5 rfl) ?_
    refine lv_iconst (v := 1) hx hb dL_law_708 (by decide) ?_
    refine lv_iadd hx hb dL_law_709 ?_
    refine zz_top (y := nI (i + 1)) (nI_add _ _) ?_
    refine va_sld hx hb hX hbl hbA hS (vp_in_nI (n := i + 1) (by omega) (by omega)) dL_law_710 ?_
    refine zz_top (y := xs (i + 1)) (congrArg _ (nI_clamp (by omega))) ?_
    refine lv_aload_n hx hb dL_law_711 rfl (lv_at hl 1 rfl) ?_
    refine lv_iload hx hb dL_law_712 (lv_at hl 5 rfl) ?_
    refine lv_iconst (v := 2) hx hb dL_law_714 (by decide) ?_
    refine lv_iadd hx hb dL_law_715 ?_
    refine zz_top (y := nI (i + 2)) (nI_add _ _) ?_
    refine va_sld hx hb hX hbl hbA hS (vp_in_nI (n := i + 2) (by omega) (by omega)) dL_law_716 ?_
    refine zz_top (y := xs (i + 2)) (congrArg _ (nI_clamp (by omega))) ?_
    have hPc := hP.sub (ws' := w4 b cI cZ tw nk pa nc fo th tg nt tb4 te4 tk4 tt4 ex tc es wy ab re4 go4 be) [24, 25, 26, 27, 28, 29, 30, 31, 32, 33, 34, 35, 36] rfl
    have hDc := hD.sub (ws' := w4 b cI cZ tw nk pa nc fo th tg nt tb4 te4 tk4 tt4 ex tc es wy ab re4 go4 be) [24, 25, 26, 27, 28, 29, 30, 31, 32, 33, 34, 35, 36] (by decide) rfl
    have hFc := va_free (wc := w4 b cI cZ tw nk pa nc fo th tg nt tb4 te4 tk4 tt4 ex tc es wy ab re4 go4 be) hD hS hA [24, 25, 26, 27, 28, 29, 30, 31, 32, 33, 34, 35, 36] rfl
    refine va_calli (va_runV (As := [.int (xs (i + 1)), .int (xs (i + 2))]) (rest := []) ⟨hx, hb, hml, hown, hts⟩ (c_X4_instruction l dC dI cI cZ cJ b tw nk pa nc fo th tg nt tb4 te4 tk4 tt4 ex tc es wy ab re4 go4 be (xs (i + 1)) (xs (i + 2)) T up H.size (by first | assumption | omega) (by first | assumption | omega)) (cwV 2 hts gL_law_X4_instruction rfl rfl rfl (by decide +kernel) ⟨Nat.le_of_ble_eq_true rfl, Nat.le_of_ble_eq_true rfl⟩) ⟨zWr_blind, va_recv hK hPc (ci := 4) (q0 := 0) rfl rfl, zWr_at hPc hK hn (hDc.weaken (fun _ _ _ _ => trivial))⟩ rfl rfl hl.1 rfl (lv_room (Nat.le_of_ble_eq_true rfl)) dL_law_717 ⟨by show _ ≤ 601024; omega, by show _ ≤ 7293034; omega⟩) hS (fun q _ h => hFc q h) hFc (fun r_20 u_9 t H1 locs ht hvm hw hB hz1 hk1 hS => ?_)
    obtain ⟨tw9_20, rfl⟩ : ∃ z, z = u_9 := ⟨_, rfl⟩
    obtain ⟨hP1, -, hD1⟩ := hB
    rw [ht] at hP1
    obtain ⟨hP, hD⟩ := va_join (wr := (w3 a cI cZ nk pa fa nc fo th tg nt tb te tk tt nu ub ue uk ut re ro fu bl go ra rc ex tc es wy) ++ ([(ou, .inl (cJ, 1, .inr (.inl fz)))])) (w1 := w4 b cI cZ tw9_20 nk pa nc fo th tg nt tb4 te4 tk4 tt4 ex tc es wy ab re4 go4 be) hP hD [24, 25, 26, 27, 28, 29, 30, 31, 32, 33, 34, 35, 36] [0, 1, 2, 3, 4, 5, 6, 7, 8, 9, 10, 11, 12, 13, 14, 15, 16, 17, 18, 19, 20, 21, 22, 23, 37] rfl rfl (by decide) (by decide) hk1 hFc hP1 hD1
    generalize H1 = H at hP hS ⊢
    have hP := hP.sub (ws' := (w3 a cI cZ nk pa fa nc fo th tg nt tb te tk tt nu ub ue uk ut re ro fu bl go ra rc ex tc es wy) ++ ((w4 b cI cZ tw9_20 nk pa nc fo th tg nt tb4 te4 tk4 tt4 ex tc es wy ab re4 go4 be) ++ ([(ou, .inl (cJ, 1, .inr (.inl fz)))]))) [0, 1, 2, 3, 4, 5, 6, 7, 8, 9, 10, 11, 12, 13, 14, 15, 16, 17, 18, 19, 20, 21, 22, 23, 25, 26, 27, 28, 29, 30, 31, 32, 33, 34, 35, 36, 37, 24] rfl
    have hD := hD.sub (ws' := (w3 a cI cZ nk pa fa nc fo th tg nt tb te tk tt nu ub ue uk ut re ro fu bl go ra rc ex tc es wy) ++ ((w4 b cI cZ tw9_20 nk pa nc fo th tg nt tb4 te4 tk4 tt4 ex tc es wy ab re4 go4 be) ++ ([(ou, .inl (cJ, 1, .inr (.inl fz)))]))) [0, 1, 2, 3, 4, 5, 6, 7, 8, 9, 10, 11, 12, 13, 14, 15, 16, 17, 18, 19, 20, 21, 22, 23, 25, 26, 27, 28, 29, 30, 31, 32, 33, 34, 35, 36, 37, 24] (by decide) rfl
    have hP : va_P (dC, dI) vwCl ((w3 a cI cZ nk pa fa nc fo th tg nt tb te tk tt nu ub ue uk ut re ro fu bl go ra rc ex tc es wy) ++ ((w4 b cI cZ tw9_20 nk pa nc fo th tg nt tb4 te4 tk4 tt4 ex tc es wy ab re4 go4 be) ++ ([(ou, .inl (cJ, 1, .inr (.inl fz)))]))) H := hP
    have hD : va_D A ((w3 a cI cZ nk pa fa nc fo th tg nt tb te tk tt nu ub ue uk ut re ro fu bl go ra rc ex tc es wy) ++ ((w4 b cI cZ tw9_20 nk pa nc fo th tg nt tb4 te4 tk4 tt4 ex tc es wy ab re4 go4 be) ++ ([(ou, .inl (cJ, 1, .inr (.inl fz)))]))) := hD
    rcases hw with ⟨h_22, h_23, h_24⟩ | ⟨h_25, h_26⟩
    · skip
      exact absurd (h_7.symm.trans h_22) (by decide)
    · skip
      replace h_26 := h_26.symm
      subst h_26
      have hP : va_P (dC, dI) vwCl ((w3 a cI cZ nk pa fa nc fo th tg nt tb te tk tt nu ub ue uk ut re ro fu bl go ra rc ex tc es wy) ++ ((w4 b cI cZ 1 nk pa nc fo th tg nt tb4 te4 tk4 tt4 ex tc es wy ab re4 go4 be) ++ ([(ou, .inl (cJ, 1, .inr (.inl fz)))]))) H := hP
      have hD : va_D A ((w3 a cI cZ nk pa fa nc fo th tg nt tb te tk tt nu ub ue uk ut re ro fu bl go ra rc ex tc es wy) ++ ((w4 b cI cZ 1 nk pa nc fo th tg nt tb4 te4 tk4 tt4 ex tc es wy ab re4 go4 be) ++ ([(ou, .inl (cJ, 1, .inr (.inl fz)))]))) := hD
      refine lv_istore (lv' := [(6, .int r_20), (5, .int 1), (0, .ref sb), (1, .ref (a 0)), (2, .ref (b 0)), (3, .ref ou), (4, .int (nI i))]) hx hb dL_law_720 hl (by decide) rfl (fun ls hl => ?_)
      refine lv_aload_n hx hb dL_law_722 rfl (lv_at hl 4 rfl) ?_
      have hPc := hP.sub (ws' := w4 b cI cZ 1 nk pa nc fo th tg nt tb4 te4 tk4 tt4 ex tc es wy ab re4 go4 be) [24, 25, 26, 27, 28, 29, 30, 31, 32, 33, 34, 35, 36] rfl
      refine va_calli (va_runV (As := []) (rest := []) ⟨hx, hb, hml, hown, hts⟩ (c_X4_thrown l dC dI cI cZ cJ b 1 nk pa nc fo th tg nt tb4 te4 tk4 tt4 ex tc es wy ab re4 go4 be ) (cwV 0 hts gL_law_X4_thrown rfl rfl rfl (by decide +kernel) ⟨Nat.le_of_ble_eq_true rfl, Nat.le_of_ble_eq_true rfl⟩) ⟨zPre_blind, va_recv hK hPc (ci := 4) (q0 := 0) rfl rfl, zPre_at hPc hK hn⟩ rfl rfl hl.1 rfl (lv_room (Nat.le_of_ble_eq_true rfl)) dL_law_723 ⟨by show _ ≤ 601024; omega, by show _ ≤ 7293034; omega⟩) hS (fun _ _ h => h.elim) (fun _ h => h.elim) (fun r_27 u_9 t H locs ht hvm hw hB hz1 hk1 hS => ?_)
      have hP := zkeep hP hk1
      subst hw
      refine lv_iload hx hb dL_law_726 (lv_at hl 1 rfl) ?_
      refine lv_icmp_eq (tgt := 733) hx hb dL_law_728 (by decide) (fun c_28 => ?_) (fun c_28 => ?_)
      · skip
        refine lv_iload hx hb dL_law_733 (lv_at hl 1 rfl) ?_
        refine lv_if_ne (tgt := 750) hx hb dL_law_735 (by decide) (fun c_29 => ?_) (fun c_29 => ?_)
        · skip
          refine lv_goto (tgt := 1475) hx hb dL_law_750 (by decide) ?_
          refine W.widen (k := k0 + 100) (n := n0 + 3000) (by omega) (by omega) ?_
          exact K nk pa fa nc fo th tg nt tb te tk tt nu ub ue uk ut re ro fu bl go ra rc ex tc es wy 1 tb4 te4 tk4 tt4 ab re4 go4 be fz T up _ _ _ (by first | assumption | omega) (by first | assumption | omega) (by first | assumption | omega) hP hD hS (lv_sub hl [2, 3, 4, 5, 6] rfl)
        · exact absurd c_29 (by decide)
      · exact absurd c_28 (by decide)

set_option maxHeartbeats 4000000 in
set_option maxRecDepth 100000 in
theorem lk_11 {p : Program} {e : Env} {s : State} {m : MethodId} {below : List Frame} {meth : Method} {c : Code} {Q : State → Prop} (l : Launch) {sb L : Nat} {xs : Nat → Int32} (dC : Nat → ClassId) (dI : Nat → Nat → Nat) (cI cZ cJ : ClassId) (a b : Nat → Nat) (ou i k0 n0 : Nat) (hF0 : lwF p l s m c sb L xs dC dI cI cZ cJ) (hi : i + 5 ≤ L) (hk0 : k0 + 100 ≤ 601024) (hn0 : n0 + 3000 ≤ 7293034) (nk : Nat) (pa : Nat → Int32) (fa : Nat → Int32) (nc : Nat) (fo : Nat → Int32) (th : Nat → Int32) (tg : Nat → Int32) (nt : Nat) (tb : Nat → Int32) (te : Nat → Int32) (tk : Nat → Int32) (tt : Nat → Int32) (nu : Nat) (ub : Nat → Int32) (ue : Nat → Int32) (uk : Nat → Int32) (ut : Nat → Int32) (re : Nat → Int32) (ro : Nat → Int32) (fu : Nat → Int32) (bl : Nat → Int32) (go : Nat → Int32) (ra : Nat → Int32) (rc : Nat) (ex : Int32) (tc : Int32) (es : Int32) (wy : Int64) (tw : Int32) (tb4 : Nat → Int32) (te4 : Nat → Int32) (tk4 : Nat → Int32) (tt4 : Nat → Int32) (ab : Nat → Int32) (re4 : Nat → Int32) (go4 : Nat → Int32) (be : Nat → Int32) (fz : Nat → Int64) (T : Nat → Nat → Nat) (up : Nat → Nat → Bool) (hg : g3 nk fa up nt tb te tk tt T) (hg4 : g4 nk ab up nt tb4 te4 tk4 tt4 T) (hc : okC nk nc fo th tg) (H : Heap) (locs : List Loc) (ls : Array Slot) (hP : va_P (dC, dI) vwCl ((w3 a cI cZ nk pa fa nc fo th tg nt tb te tk tt nu ub ue uk ut re ro fu bl go ra rc ex tc es wy) ++ ((w4 b cI cZ tw nk pa nc fo th tg nt tb4 te4 tk4 tt4 ex tc es wy ab re4 go4 be) ++ ([(ou, .inl (cJ, 1, .inr (.inl fz)))]))) H) (hD : va_D (fun q => s.heap.size ≤ q) ((w3 a cI cZ nk pa fa nc fo th tg nt tb te tk tt nu ub ue uk ut re ro fu bl go ra rc ex tc es wy) ++ ((w4 b cI cZ tw nk pa nc fo th tg nt tb4 te4 tk4 tt4 ex tc es wy ab re4 go4 be) ++ ([(ou, .inl (cJ, 1, .inr (.inl fz)))])))) (hS : va_S (fun q => s.heap.size ≤ q) s.heap H locs) (hl : lv_has ls 9 [(0, .ref sb), (1, .ref (a 0)), (2, .ref (b 0)), (3, .ref ou), (4, .int (nI i))]) (K : ∀ (nk : Nat) (pa : Nat → Int32) (fa : Nat → Int32) (nc : Nat) (fo : Nat → Int32) (th : Nat → Int32) (tg : Nat → Int32) (nt : Nat) (tb : Nat → Int32) (te : Nat → Int32) (tk : Nat → Int32) (tt : Nat → Int32) (nu : Nat) (ub : Nat → Int32) (ue : Nat → Int32) (uk : Nat → Int32) (ut : Nat → Int32) (re : Nat → Int32) (ro : Nat → Int32) (fu : Nat → Int32) (bl : Nat → Int32) (go : Nat → Int32) (ra : Nat → Int32) (rc : Nat) (ex : Int32) (tc : Int32) (es : Int32) (wy : Int64) (tw : Int32) (tb4 : Nat → Int32) (te4 : Nat → Int32) (tk4 : Nat → Int32) (tt4 : Nat → Int32) (ab : Nat → Int32) (re4 : Nat → Int32) (go4 : Nat → Int32) (be : Nat → Int32) (fz : Nat → Int64) (T : Nat → Nat → Nat) (up : Nat → Nat → Bool) (H : Heap) (locs : List Loc) (ls : Array Slot), g3 nk fa up nt tb te tk tt T → g4 nk ab up nt tb4 te4 tk4 tt4 T → okC nk nc fo th tg → va_P (dC, dI) vwCl ((w3 a cI cZ nk pa fa nc fo th tg nt tb te tk tt nu ub ue uk ut re ro fu bl go ra rc ex tc es wy) ++ ((w4 b cI cZ tw nk pa nc fo th tg nt tb4 te4 tk4 tt4 ex tc es wy ab re4 go4 be) ++ ([(ou, .inl (cJ, 1, .inr (.inl fz)))]))) H → va_D (fun q => s.heap.size ≤ q) ((w3 a cI cZ nk pa fa nc fo th tg nt tb te tk tt nu ub ue uk ut re ro fu bl go ra rc ex tc es wy) ++ ((w4 b cI cZ tw nk pa nc fo th tg nt tb4 te4 tk4 tt4 ex tc es wy ab re4 go4 be) ++ ([(ou, .inl (cJ, 1, .inr (.inl fz)))]))) → va_S (fun q => s.heap.size ≤ q) s.heap H locs → lv_has ls 9 [(0, .ref sb), (1, .ref (a 0)), (2, .ref (b 0)), (3, .ref ou), (4, .int (nI i))] → W p l e room_1 s m #[Value.ref sb] below meth c H locs (k0 + 100) (n0 + 3000) Q (F0 m 1475 ls [])) : W p l e room_1 s m #[Value.ref sb] below meth c H locs k0 n0 Q (F0 m 753 ls []) := by
  obtain ⟨hx, hb, hml, hown, hts, hX, hbl, hL, hK, hn, hzt, hzu, hzc, hlt⟩ := id hF0
  obtain ⟨A, hAe⟩ : ∃ A : Nat → Prop, A = fun q => s.heap.size ≤ q := ⟨_, rfl⟩
  have hbA : ¬ A sb := by rw [hAe]; exact Nat.not_le.mpr hbl
  have hA : ∀ q : Nat, s.heap.size ≤ q → A q := fun q h => by rw [hAe]; exact h
  rw [← hAe] at hD hS hzu K
  refine lv_aload_n hx hb dL_law_753 rfl (lv_at hl 1 rfl) ?_
  refine lv_aload_n hx hb dL_law_754 rfl (lv_at hl 0 rfl) ?_
  refine lv_iload hx hb dL_law_755 (lv_at hl 4 rfl) ?_
  refine lv_iconst (v := 1) hx hb dL_law_757 (by decide) ?_
  refine lv_iadd hx hb dL_law_758 ?_
  refine zz_top (y := nI (i + 1)) (nI_add _ _) ?_
  refine va_sld hx hb hX hbl hbA hS (vp_in_nI (n := i + 1) (by omega) (by omega)) dL_law_759 ?_
  refine zz_top (y := xs (i + 1)) (congrArg _ (nI_clamp (by omega))) ?_
  refine lv_aload_n hx hb dL_law_760 rfl (lv_at hl 0 rfl) ?_
  refine lv_iload hx hb dL_law_761 (lv_at hl 4 rfl) ?_
  refine lv_iconst (v := 2) hx hb dL_law_763 (by decide) ?_
  refine lv_iadd hx hb dL_law_764 ?_
  refine zz_top (y := nI (i + 2)) (nI_add _ _) ?_
  refine va_sld hx hb hX hbl hbA hS (vp_in_nI (n := i + 2) (by omega) (by omega)) dL_law_765 ?_
  refine zz_top (y := xs (i + 2)) (congrArg _ (nI_clamp (by omega))) ?_
  refine lv_aload_n hx hb dL_law_766 rfl (lv_at hl 0 rfl) ?_
  refine lv_iload hx hb dL_law_767 (lv_at hl 4 rfl) ?_
  refine lv_iconst (v := 3) hx hb dL_law_769 (by decide) ?_
  refine lv_iadd hx hb dL_law_770 ?_
  refine zz_top (y := nI (i + 3)) (nI_add _ _) ?_
  refine va_sld hx hb hX hbl hbA hS (vp_in_nI (n := i + 3) (by omega) (by omega)) dL_law_771 ?_
  refine zz_top (y := xs (i + 3)) (congrArg _ (nI_clamp (by omega))) ?_
  refine lv_aload_n hx hb dL_law_772 rfl (lv_at hl 0 rfl) ?_
  refine lv_iload hx hb dL_law_773 (lv_at hl 4 rfl) ?_
  refine lv_iconst (v := 4) hx hb dL_law_775 (by decide) ?_
  refine lv_iadd hx hb dL_law_776 ?_
  refine zz_top (y := nI (i + 4)) (nI_add _ _) ?_
  refine va_sld hx hb hX hbl hbA hS (vp_in_nI (n := i + 4) (by omega) (by omega)) dL_law_777 ?_
  refine zz_top (y := xs (i + 4)) (congrArg _ (nI_clamp (by omega))) ?_
  refine lv_aload_n hx hb dL_law_778 rfl (lv_at hl 3 rfl) ?_
  have hPc := hP.sub (ws' := (w3 a cI cZ nk pa fa nc fo th tg nt tb te tk tt nu ub ue uk ut re ro fu bl go ra rc ex tc es wy) ++ ([(ou, .inl (cJ, 1, .inr (.inl fz)))])) [0, 1, 2, 3, 4, 5, 6, 7, 8, 9, 10, 11, 12, 13, 14, 15, 16, 17, 18, 19, 20, 21, 22, 23, 37] rfl
  have hDc := hD.sub (ws' := (w3 a cI cZ nk pa fa nc fo th tg nt tb te tk tt nu ub ue uk ut re ro fu bl go ra rc ex tc es wy) ++ ([(ou, .inl (cJ, 1, .inr (.inl fz)))])) [0, 1, 2, 3, 4, 5, 6, 7, 8, 9, 10, 11, 12, 13, 14, 15, 16, 17, 18, 19, 20, 21, 22, 23, 37] (by decide) rfl
  have hFc := va_free (wc := (w3 a cI cZ nk pa fa nc fo th tg nt tb te tk tt nu ub ue uk ut re ro fu bl go ra rc ex tc es wy) ++ ([(ou, .inl (cJ, 1, .inr (.inl fz)))])) hD hS hA [0, 1, 2, 3, 4, 5, 6, 7, 8, 9, 10, 11, 12, 13, 14, 15, 16, 17, 18, 19, 20, 21, 22, 23, 37] rfl
  refine va_calli (vx_runSW (As := [.ref (a 0), .int (xs (i + 1)), .int (xs (i + 2)), .int (xs (i + 3)), .int (xs (i + 4)), .ref ou]) (rest := []) ⟨hx, hb, hml, hown, hts⟩ (c_L_addEntry l dC dI cI cZ cJ a nk pa fa nc fo th tg nt tb te tk tt nu ub ue uk ut re ro fu bl go ra rc ex tc es wy (xs (i + 1)) (xs (i + 2)) (xs (i + 3)) (xs (i + 4)) T up ou fz H.size hlt (by first | assumption | omega) (by first | assumption | omega)) (vx_cwSW 6 hts gL_law_L_addEntry rfl rfl rfl (by decide +kernel) ⟨Nat.le_of_ble_eq_true rfl, Nat.le_of_ble_eq_true rfl⟩) ⟨zTl_blind, zTl_at hPc hK hn (hDc.weaken (fun _ _ _ _ => trivial)) hzt hzu hS hFc hzc⟩ rfl rfl hl.1 rfl (lv_room (Nat.le_of_ble_eq_true rfl)) dL_law_779 ⟨by show _ ≤ 601024; omega, by show _ ≤ 7293034; omega⟩) hS (fun q _ h => hFc q h) hFc (fun r_1 u_9 t H1 locs ht hvm hw hB hz1 hk1 hS => ?_)
  obtain ⟨v_t_1, v_tb_2, v_te_3, v_tk_4, v_tt_5, fz9_6⟩ := u_9
  dsimp only at hw hB
  obtain ⟨hP1, -, hD1⟩ := hB
  rw [ht] at hP1
  obtain ⟨hP, hD⟩ := va_join (wr := w4 b cI cZ tw nk pa nc fo th tg nt tb4 te4 tk4 tt4 ex tc es wy ab re4 go4 be) (w1 := (w3 a cI cZ nk pa fa nc fo th tg v_t_1 v_tb_2 v_te_3 v_tk_4 v_tt_5 nu ub ue uk ut re ro fu bl go ra rc ex tc es wy) ++ ([(ou, .inl (cJ, 1, .inr (.inl fz9_6)))])) hP hD [0, 1, 2, 3, 4, 5, 6, 7, 8, 9, 10, 11, 12, 13, 14, 15, 16, 17, 18, 19, 20, 21, 22, 23, 37] [24, 25, 26, 27, 28, 29, 30, 31, 32, 33, 34, 35, 36] rfl rfl (by decide) (by decide) hk1 hFc hP1 hD1
  generalize H1 = H at hP hS ⊢
  have hP := hP.sub (ws' := (w3 a cI cZ nk pa fa nc fo th tg v_t_1 v_tb_2 v_te_3 v_tk_4 v_tt_5 nu ub ue uk ut re ro fu bl go ra rc ex tc es wy) ++ ((w4 b cI cZ tw nk pa nc fo th tg nt tb4 te4 tk4 tt4 ex tc es wy ab re4 go4 be) ++ ([(ou, .inl (cJ, 1, .inr (.inl fz9_6)))]))) [13, 14, 15, 16, 17, 18, 19, 20, 21, 22, 23, 24, 25, 26, 27, 28, 29, 30, 31, 32, 33, 34, 35, 36, 0, 1, 2, 3, 4, 5, 6, 7, 8, 9, 10, 11, 12, 37] rfl
  have hD := hD.sub (ws' := (w3 a cI cZ nk pa fa nc fo th tg v_t_1 v_tb_2 v_te_3 v_tk_4 v_tt_5 nu ub ue uk ut re ro fu bl go ra rc ex tc es wy) ++ ((w4 b cI cZ tw nk pa nc fo th tg nt tb4 te4 tk4 tt4 ex tc es wy ab re4 go4 be) ++ ([(ou, .inl (cJ, 1, .inr (.inl fz9_6)))]))) [13, 14, 15, 16, 17, 18, 19, 20, 21, 22, 23, 24, 25, 26, 27, 28, 29, 30, 31, 32, 33, 34, 35, 36, 0, 1, 2, 3, 4, 5, 6, 7, 8, 9, 10, 11, 12, 37] (by decide) rfl
  have hP : va_P (dC, dI) vwCl ((w3 a cI cZ nk pa fa nc fo th tg v_t_1 v_tb_2 v_te_3 v_tk_4 v_tt_5 nu ub ue uk ut re ro fu bl go ra rc ex tc es wy) ++ ((w4 b cI cZ tw nk pa nc fo th tg nt tb4 te4 tk4 tt4 ex tc es wy ab re4 go4 be) ++ ([(ou, .inl (cJ, 1, .inr (.inl fz9_6)))]))) H := hP
  have hD : va_D A ((w3 a cI cZ nk pa fa nc fo th tg v_t_1 v_tb_2 v_te_3 v_tk_4 v_tt_5 nu ub ue uk ut re ro fu bl go ra rc ex tc es wy) ++ ((w4 b cI cZ tw nk pa nc fo th tg nt tb4 te4 tk4 tt4 ex tc es wy ab re4 go4 be) ++ ([(ou, .inl (cJ, 1, .inr (.inl fz9_6)))]))) := hD
  refine W.widen (k := k0 + 3) (n := n0 + 18) (by omega) (by omega) ?_
  rcases hw with ⟨h_8, h_9, h_10, h_11, h_12, h_13, h_14, ⟨⟨h_15, h_16, h_17⟩, h_18⟩⟩ | ⟨h_19, h_20, h_21, h_22, h_23, h_24, h_25, h_26⟩ | ⟨h_27, ⟨h_28, h_29⟩, h_30, h_31, h_32, h_33, h_34, h_35⟩ | ⟨h_36, ⟨h_37, h_38, h_39⟩, h_40, h_41, h_42, h_43, h_44, h_45⟩
  · skip
    replace h_8 := h_8.symm
    subst h_8
    replace h_9 := h_9.symm
    subst h_9
    replace h_10 := h_10.symm
    subst h_10
    replace h_11 := h_11.symm
    subst h_11
    replace h_12 := h_12.symm
    subst h_12
    replace h_13 := h_13.symm
    subst h_13
    replace h_14 := h_14.symm
    subst h_14
    have hP : va_P (dC, dI) vwCl ((w3 a cI cZ nk pa fa nc fo th tg (nt + 1) (upd tb nt (xs (i + 1))) (upd te nt (xs (i + 2))) (upd tk nt (xs (i + 3))) (upd tt nt (xs (i + 4))) nu ub ue uk ut re ro fu bl go ra rc ex tc es wy) ++ ((w4 b cI cZ tw nk pa nc fo th tg nt tb4 te4 tk4 tt4 ex tc es wy ab re4 go4 be) ++ ([(ou, .inl (cJ, 1, .inr (.inl (vp_updL fz 0 ((nI nt).toInt64)))))]))) H := hP
    have hD : va_D A ((w3 a cI cZ nk pa fa nc fo th tg (nt + 1) (upd tb nt (xs (i + 1))) (upd te nt (xs (i + 2))) (upd tk nt (xs (i + 3))) (upd tt nt (xs (i + 4))) nu ub ue uk ut re ro fu bl go ra rc ex tc es wy) ++ ((w4 b cI cZ tw nk pa nc fo th tg nt tb4 te4 tk4 tt4 ex tc es wy ab re4 go4 be) ++ ([(ou, .inl (cJ, 1, .inr (.inl (vp_updL fz 0 ((nI nt).toInt64)))))]))) := hD
    refine lv_istore (lv' := [(5, .int 0), (0, .ref sb), (1, .ref (a 0)), (2, .ref (b 0)), (3, .ref ou), (4, .int (nI i))]) hx hb dL_law_782 hl (by decide) rfl (fun ls hl => ?_)
    refine lv_aload_n hx hb dL_law_784 rfl (lv_at hl 3 rfl) ?_
    refine lv_aload_n hx hb dL_law_785 rfl (lv_at hl 1 rfl) ?_
    refine lv_iload hx hb dL_law_786 (lv_at hl 5 rfl) ?_
    refine lv_iconst (v := 1) hx hb dL_law_788 (by decide) ?_
    refine lv_iadd hx hb dL_law_789 ?_
    refine zz_top (y := nI (i + 1)) (nI_add _ _) ?_
    refine va_sld hx hb hX hbl hbA hS (vp_in_nI (n := i + 1) (by omega) (by omega)) dL_law_790 ?_
    refine zz_top (y := xs (i + 1)) (congrArg _ (nI_clamp (by omega))) ?_
    refine lv_aload_n hx hb dL_law_791 rfl (lv_at hl 1 rfl) ?_
    refine lv_iload hx hb dL_law_792 (lv_at hl 5 rfl) ?_
    refine lv_iconst (v := 2) hx hb dL_law_794 (by decide) ?_
    refine lv_iadd hx hb dL_law_795 ?_
    refine zz_top (y := nI (i + 2)) (nI_add _ _) ?_
    refine va_sld hx hb hX hbl hbA hS (vp_in_nI (n := i + 2) (by omega) (by omega)) dL_law_796 ?_
    refine zz_top (y := xs (i + 2)) (congrArg _ (nI_clamp (by omega))) ?_
    refine lv_aload_n hx hb dL_law_797 rfl (lv_at hl 1 rfl) ?_
    refine lv_iload hx hb dL_law_798 (lv_at hl 5 rfl) ?_
    refine lv_iconst (v := 3) hx hb dL_law_800 (by decide) ?_
    refine lv_iadd hx hb dL_law_801 ?_
    refine zz_top (y := nI (i + 3)) (nI_add _ _) ?_
    refine va_sld hx hb hX hbl hbA hS (vp_in_nI (n := i + 3) (by omega) (by omega)) dL_law_802 ?_
    refine zz_top (y := xs (i + 3)) (congrArg _ (nI_clamp (by omega))) ?_
    refine lv_aload_n hx hb dL_law_803 rfl (lv_at hl 1 rfl) ?_
    refine lv_iload hx hb dL_law_804 (lv_at hl 5 rfl) ?_
    refine lv_iconst (v := 4) hx hb dL_law_806 (by decide) ?_
    refine lv_iadd hx hb dL_law_807 ?_
    refine zz_top (y := nI (i + 4)) (nI_add _ _) ?_
    refine va_sld hx hb hX hbl hbA hS (vp_in_nI (n := i + 4) (by omega) (by omega)) dL_law_808 ?_
    refine zz_top (y := xs (i + 4)) (congrArg _ (nI_clamp (by omega))) ?_
    have hPc := hP.sub (ws' := w4 b cI cZ tw nk pa nc fo th tg nt tb4 te4 tk4 tt4 ex tc es wy ab re4 go4 be) [24, 25, 26, 27, 28, 29, 30, 31, 32, 33, 34, 35, 36] rfl
    have hDc := hD.sub (ws' := w4 b cI cZ tw nk pa nc fo th tg nt tb4 te4 tk4 tt4 ex tc es wy ab re4 go4 be) [24, 25, 26, 27, 28, 29, 30, 31, 32, 33, 34, 35, 36] (by decide) rfl
    have hFc := va_free (wc := w4 b cI cZ tw nk pa nc fo th tg nt tb4 te4 tk4 tt4 ex tc es wy ab re4 go4 be) hD hS hA [24, 25, 26, 27, 28, 29, 30, 31, 32, 33, 34, 35, 36] rfl
    refine va_calli (va_runV (As := [.int (xs (i + 1)), .int (xs (i + 2)), .int (xs (i + 3)), .int (xs (i + 4))]) (rest := []) ⟨hx, hb, hml, hown, hts⟩ (c_X4_addEntry l dC dI cI cZ cJ b tw nk pa nc fo th tg nt tb4 te4 tk4 tt4 ex tc es wy ab re4 go4 be (xs (i + 1)) (xs (i + 2)) (xs (i + 3)) (xs (i + 4)) T up H.size (by first | assumption | omega) (by first | assumption | omega)) (cwV 4 hts gL_law_X4_addEntry rfl rfl rfl (by decide +kernel) ⟨Nat.le_of_ble_eq_true rfl, Nat.le_of_ble_eq_true rfl⟩) ⟨zWr_blind, va_recv hK hPc (ci := 4) (q0 := 0) rfl rfl, zWr_at hPc hK hn (hDc.weaken (fun _ _ _ _ => trivial))⟩ rfl rfl hl.1 rfl (lv_room (Nat.le_of_ble_eq_true rfl)) dL_law_809 ⟨by show _ ≤ 601024; omega, by show _ ≤ 7293034; omega⟩) hS (fun q _ h => hFc q h) hFc (fun r_46 u_9 t H1 locs ht hvm hw hB hz1 hk1 hS => ?_)
    obtain ⟨tw9_46, nt9_47, tb9_48, te9_49, tk9_50, tt9_51⟩ := u_9
    dsimp only at hw hB
    obtain ⟨hP1, -, hD1⟩ := hB
    rw [ht] at hP1
    obtain ⟨hP, hD⟩ := va_join (wr := (w3 a cI cZ nk pa fa nc fo th tg (nt + 1) (upd tb nt (xs (i + 1))) (upd te nt (xs (i + 2))) (upd tk nt (xs (i + 3))) (upd tt nt (xs (i + 4))) nu ub ue uk ut re ro fu bl go ra rc ex tc es wy) ++ ([(ou, .inl (cJ, 1, .inr (.inl (vp_updL fz 0 ((nI nt).toInt64)))))])) (w1 := w4 b cI cZ tw9_46 nk pa nc fo th tg nt9_47 tb9_48 te9_49 tk9_50 tt9_51 ex tc es wy ab re4 go4 be) hP hD [24, 25, 26, 27, 28, 29, 30, 31, 32, 33, 34, 35, 36] [0, 1, 2, 3, 4, 5, 6, 7, 8, 9, 10, 11, 12, 13, 14, 15, 16, 17, 18, 19, 20, 21, 22, 23, 37] rfl rfl (by decide) (by decide) hk1 hFc hP1 hD1
    generalize H1 = H at hP hS ⊢
    have hP := hP.sub (ws' := (w3 a cI cZ nk pa fa nc fo th tg (nt + 1) (upd tb nt (xs (i + 1))) (upd te nt (xs (i + 2))) (upd tk nt (xs (i + 3))) (upd tt nt (xs (i + 4))) nu ub ue uk ut re ro fu bl go ra rc ex tc es wy) ++ ((w4 b cI cZ tw9_46 nk pa nc fo th tg nt9_47 tb9_48 te9_49 tk9_50 tt9_51 ex tc es wy ab re4 go4 be) ++ ([(ou, .inl (cJ, 1, .inr (.inl (vp_updL fz 0 ((nI nt).toInt64)))))]))) [0, 1, 2, 3, 4, 5, 6, 7, 8, 9, 10, 11, 12, 13, 14, 15, 16, 17, 18, 19, 20, 21, 22, 23, 25, 26, 27, 28, 29, 30, 31, 32, 33, 34, 35, 36, 37, 24] rfl
    have hD := hD.sub (ws' := (w3 a cI cZ nk pa fa nc fo th tg (nt + 1) (upd tb nt (xs (i + 1))) (upd te nt (xs (i + 2))) (upd tk nt (xs (i + 3))) (upd tt nt (xs (i + 4))) nu ub ue uk ut re ro fu bl go ra rc ex tc es wy) ++ ((w4 b cI cZ tw9_46 nk pa nc fo th tg nt9_47 tb9_48 te9_49 tk9_50 tt9_51 ex tc es wy ab re4 go4 be) ++ ([(ou, .inl (cJ, 1, .inr (.inl (vp_updL fz 0 ((nI nt).toInt64)))))]))) [0, 1, 2, 3, 4, 5, 6, 7, 8, 9, 10, 11, 12, 13, 14, 15, 16, 17, 18, 19, 20, 21, 22, 23, 25, 26, 27, 28, 29, 30, 31, 32, 33, 34, 35, 36, 37, 24] (by decide) rfl
    have hP : va_P (dC, dI) vwCl ((w3 a cI cZ nk pa fa nc fo th tg (nt + 1) (upd tb nt (xs (i + 1))) (upd te nt (xs (i + 2))) (upd tk nt (xs (i + 3))) (upd tt nt (xs (i + 4))) nu ub ue uk ut re ro fu bl go ra rc ex tc es wy) ++ ((w4 b cI cZ tw9_46 nk pa nc fo th tg nt9_47 tb9_48 te9_49 tk9_50 tt9_51 ex tc es wy ab re4 go4 be) ++ ([(ou, .inl (cJ, 1, .inr (.inl (vp_updL fz 0 ((nI nt).toInt64)))))]))) H := hP
    have hD : va_D A ((w3 a cI cZ nk pa fa nc fo th tg (nt + 1) (upd tb nt (xs (i + 1))) (upd te nt (xs (i + 2))) (upd tk nt (xs (i + 3))) (upd tt nt (xs (i + 4))) nu ub ue uk ut re ro fu bl go ra rc ex tc es wy) ++ ((w4 b cI cZ tw9_46 nk pa nc fo th tg nt9_47 tb9_48 te9_49 tk9_50 tt9_51 ex tc es wy ab re4 go4 be) ++ ([(ou, .inl (cJ, 1, .inr (.inl (vp_updL fz 0 ((nI nt).toInt64)))))]))) := hD
    rcases hw with ⟨h_53, h_54, h_55, h_56, h_57, (⟨h_58, h_59⟩ | ⟨h_60, h_61, h_62⟩ | ⟨h_63, h_64, h_65, h_66⟩)⟩ | ⟨h_67, h_68, h_69, h_70, h_71, h_72, h_73⟩
    · skip
      exact absurd (h_15.symm.trans h_58) (by decide)
    · skip
      exact absurd (h_16.symm.trans h_61) (by decide)
    · skip
      omega
    · skip
      replace h_70 := h_70.symm
      subst h_70
      replace h_71 := h_71.symm
      subst h_71
      replace h_72 := h_72.symm
      subst h_72
      have hP : va_P (dC, dI) vwCl ((w3 a cI cZ nk pa fa nc fo th tg (nt + 1) (upd tb nt (xs (i + 1))) (upd te nt (xs (i + 2))) (upd tk nt (xs (i + 3))) (upd tt nt (xs (i + 4))) nu ub ue uk ut re ro fu bl go ra rc ex tc es wy) ++ ((w4 b cI cZ 0 nk pa nc fo th tg (nt + 1) tb9_48 te9_49 tk9_50 tt9_51 ex tc es wy ab re4 go4 be) ++ ([(ou, .inl (cJ, 1, .inr (.inl (vp_updL fz 0 ((nI nt).toInt64)))))]))) H := hP
      have hD : va_D A ((w3 a cI cZ nk pa fa nc fo th tg (nt + 1) (upd tb nt (xs (i + 1))) (upd te nt (xs (i + 2))) (upd tk nt (xs (i + 3))) (upd tt nt (xs (i + 4))) nu ub ue uk ut re ro fu bl go ra rc ex tc es wy) ++ ((w4 b cI cZ 0 nk pa nc fo th tg (nt + 1) tb9_48 te9_49 tk9_50 tt9_51 ex tc es wy ab re4 go4 be) ++ ([(ou, .inl (cJ, 1, .inr (.inl (vp_updL fz 0 ((nI nt).toInt64)))))]))) := hD
      refine lv_istore (lv' := [(6, .int (nI nt)), (5, .int 0), (0, .ref sb), (1, .ref (a 0)), (2, .ref (b 0)), (3, .ref ou), (4, .int (nI i))]) hx hb dL_law_812 hl (by decide) rfl (fun ls hl => ?_)
      refine lv_aload_n hx hb dL_law_814 rfl (lv_at hl 4 rfl) ?_
      have hPc := hP.sub (ws' := w4 b cI cZ 0 nk pa nc fo th tg (nt + 1) tb9_48 te9_49 tk9_50 tt9_51 ex tc es wy ab re4 go4 be) [24, 25, 26, 27, 28, 29, 30, 31, 32, 33, 34, 35, 36] rfl
      refine va_calli (va_runV (As := []) (rest := []) ⟨hx, hb, hml, hown, hts⟩ (c_X4_thrown l dC dI cI cZ cJ b 0 nk pa nc fo th tg (nt + 1) tb9_48 te9_49 tk9_50 tt9_51 ex tc es wy ab re4 go4 be ) (cwV 0 hts gL_law_X4_thrown rfl rfl rfl (by decide +kernel) ⟨Nat.le_of_ble_eq_true rfl, Nat.le_of_ble_eq_true rfl⟩) ⟨zPre_blind, va_recv hK hPc (ci := 4) (q0 := 0) rfl rfl, zPre_at hPc hK hn⟩ rfl rfl hl.1 rfl (lv_room (Nat.le_of_ble_eq_true rfl)) dL_law_815 ⟨by show _ ≤ 601024; omega, by show _ ≤ 7293034; omega⟩) hS (fun _ _ h => h.elim) (fun _ h => h.elim) (fun r_74 u_9 t H locs ht hvm hw hB hz1 hk1 hS => ?_)
      have hP := zkeep hP hk1
      subst hw
      refine lv_iload hx hb dL_law_818 (lv_at hl 1 rfl) ?_
      refine lv_icmp_eq (tgt := 825) hx hb dL_law_820 (by decide) (fun c_75 => ?_) (fun c_75 => ?_)
      · skip
        refine lv_iload hx hb dL_law_825 (lv_at hl 1 rfl) ?_
        refine lv_if_ne (tgt := 842) hx hb dL_law_827 (by decide) (fun c_76 => ?_) (fun c_76 => ?_)
        · exact absurd c_76 (by decide)
        · skip
          refine lv_aload_n hx hb dL_law_830 rfl (lv_at hl 5 rfl) ?_
          refine lv_iconst (v := 0) hx hb dL_law_831 (by decide) ?_
          refine va_lald hx hb hK hP 37 2 rfl rfl (vp_in_nI (n := 0) (by omega) (by decide)) dL_law_832 ?_
          refine zz_topl (y := (vp_updL fz 0 ((nI nt).toInt64)) 0) (rfl) ?_
          refine lv_iload hx hb dL_law_833 (lv_at hl 0 rfl) ?_
          refine lv_i2l (v := (nI nt).toInt64) hx hb dL_law_835 rfl ?_
          refine W.lcmp hx hb dL_law_836 ?_
          refine lv_if_eq (tgt := 842) hx hb dL_law_837 (by decide) (fun c_77 => ?_) (fun c_77 => ?_)
          · skip
            skip
            refine lv_goto (tgt := 1475) hx hb dL_law_842 (by decide) ?_
            refine W.widen (k := k0 + 100) (n := n0 + 3000) (by omega) (by omega) ?_
            exact K nk pa fa nc fo th tg (nt + 1) (upd tb nt (xs (i + 1))) (upd te nt (xs (i + 2))) (upd tk nt (xs (i + 3))) (upd tt nt (xs (i + 4))) nu ub ue uk ut re ro fu bl go ra rc ex tc es wy 0 tb9_48 te9_49 tk9_50 tt9_51 ab re4 go4 be (vp_updL fz 0 ((nI nt).toInt64)) (aT T nt (xs (i + 1)).toNatClampNeg (xs (i + 2)).toNatClampNeg (xs (i + 3)).toNatClampNeg (xs (i + 4)).toNatClampNeg) up _ _ _ (by first | assumption | omega) (by first | assumption | omega) (by first | assumption | omega) hP hD hS (lv_sub hl [2, 3, 4, 5, 6] rfl)
          · exact absurd ((lg_cmp_eq _ _).mpr (by first | rfl | exact (bL_t hz9).symm | exact (bL_f hz9).symm)) c_77
      · exact absurd c_75 (by decide)
  · skip
    replace h_19 := h_19.symm
    subst h_19
    replace h_21 := h_21.symm
    subst h_21
    replace h_22 := h_22.symm
    subst h_22
    replace h_23 := h_23.symm
    subst h_23
    replace h_24 := h_24.symm
    subst h_24
    replace h_25 := h_25.symm
    subst h_25
    replace h_26 := h_26.symm
    subst h_26
    have hP : va_P (dC, dI) vwCl ((w3 a cI cZ nk pa fa nc fo th tg nt tb te tk tt nu ub ue uk ut re ro fu bl go ra rc ex tc es wy) ++ ((w4 b cI cZ tw nk pa nc fo th tg nt tb4 te4 tk4 tt4 ex tc es wy ab re4 go4 be) ++ ([(ou, .inl (cJ, 1, .inr (.inl fz)))]))) H := hP
    have hD : va_D A ((w3 a cI cZ nk pa fa nc fo th tg nt tb te tk tt nu ub ue uk ut re ro fu bl go ra rc ex tc es wy) ++ ((w4 b cI cZ tw nk pa nc fo th tg nt tb4 te4 tk4 tt4 ex tc es wy ab re4 go4 be) ++ ([(ou, .inl (cJ, 1, .inr (.inl fz)))]))) := hD
    refine lv_istore (lv' := [(5, .int 1), (0, .ref sb), (1, .ref (a 0)), (2, .ref (b 0)), (3, .ref ou), (4, .int (nI i))]) hx hb dL_law_782 hl (by decide) rfl (fun ls hl => ?_)
    refine lv_aload_n hx hb dL_law_784 rfl (lv_at hl 3 rfl) ?_
    refine lv_aload_n hx hb dL_law_785 rfl (lv_at hl 1 rfl) ?_
    refine lv_iload hx hb dL_law_786 (lv_at hl 5 rfl) ?_
    refine lv_iconst (v := 1) hx hb dL_law_788 (by decide) ?_
    refine lv_iadd hx hb dL_law_789 ?_
    refine zz_top (y := nI (i + 1)) (nI_add _ _) ?_
    refine va_sld hx hb hX hbl hbA hS (vp_in_nI (n := i + 1) (by omega) (by omega)) dL_law_790 ?_
    refine zz_top (y := xs (i + 1)) (congrArg _ (nI_clamp (by omega))) ?_
    refine lv_aload_n hx hb dL_law_791 rfl (lv_at hl 1 rfl) ?_
    refine lv_iload hx hb dL_law_792 (lv_at hl 5 rfl) ?_
    refine lv_iconst (v := 2) hx hb dL_law_794 (by decide) ?_
    refine lv_iadd hx hb dL_law_795 ?_
    refine zz_top (y := nI (i + 2)) (nI_add _ _) ?_
    refine va_sld hx hb hX hbl hbA hS (vp_in_nI (n := i + 2) (by omega) (by omega)) dL_law_796 ?_
    refine zz_top (y := xs (i + 2)) (congrArg _ (nI_clamp (by omega))) ?_
    refine lv_aload_n hx hb dL_law_797 rfl (lv_at hl 1 rfl) ?_
    refine lv_iload hx hb dL_law_798 (lv_at hl 5 rfl) ?_
    refine lv_iconst (v := 3) hx hb dL_law_800 (by decide) ?_
    refine lv_iadd hx hb dL_law_801 ?_
    refine zz_top (y := nI (i + 3)) (nI_add _ _) ?_
    refine va_sld hx hb hX hbl hbA hS (vp_in_nI (n := i + 3) (by omega) (by omega)) dL_law_802 ?_
    refine zz_top (y := xs (i + 3)) (congrArg _ (nI_clamp (by omega))) ?_
    refine lv_aload_n hx hb dL_law_803 rfl (lv_at hl 1 rfl) ?_
    refine lv_iload hx hb dL_law_804 (lv_at hl 5 rfl) ?_
    refine lv_iconst (v := 4) hx hb dL_law_806 (by decide) ?_
    refine lv_iadd hx hb dL_law_807 ?_
    refine zz_top (y := nI (i + 4)) (nI_add _ _) ?_
    refine va_sld hx hb hX hbl hbA hS (vp_in_nI (n := i + 4) (by omega) (by omega)) dL_law_808 ?_
    refine zz_top (y := xs (i + 4)) (congrArg _ (nI_clamp (by omega))) ?_
    have hPc := hP.sub (ws' := w4 b cI cZ tw nk pa nc fo th tg nt tb4 te4 tk4 tt4 ex tc es wy ab re4 go4 be) [24, 25, 26, 27, 28, 29, 30, 31, 32, 33, 34, 35, 36] rfl
    have hDc := hD.sub (ws' := w4 b cI cZ tw nk pa nc fo th tg nt tb4 te4 tk4 tt4 ex tc es wy ab re4 go4 be) [24, 25, 26, 27, 28, 29, 30, 31, 32, 33, 34, 35, 36] (by decide) rfl
    have hFc := va_free (wc := w4 b cI cZ tw nk pa nc fo th tg nt tb4 te4 tk4 tt4 ex tc es wy ab re4 go4 be) hD hS hA [24, 25, 26, 27, 28, 29, 30, 31, 32, 33, 34, 35, 36] rfl
    refine va_calli (va_runV (As := [.int (xs (i + 1)), .int (xs (i + 2)), .int (xs (i + 3)), .int (xs (i + 4))]) (rest := []) ⟨hx, hb, hml, hown, hts⟩ (c_X4_addEntry l dC dI cI cZ cJ b tw nk pa nc fo th tg nt tb4 te4 tk4 tt4 ex tc es wy ab re4 go4 be (xs (i + 1)) (xs (i + 2)) (xs (i + 3)) (xs (i + 4)) T up H.size (by first | assumption | omega) (by first | assumption | omega)) (cwV 4 hts gL_law_X4_addEntry rfl rfl rfl (by decide +kernel) ⟨Nat.le_of_ble_eq_true rfl, Nat.le_of_ble_eq_true rfl⟩) ⟨zWr_blind, va_recv hK hPc (ci := 4) (q0 := 0) rfl rfl, zWr_at hPc hK hn (hDc.weaken (fun _ _ _ _ => trivial))⟩ rfl rfl hl.1 rfl (lv_room (Nat.le_of_ble_eq_true rfl)) dL_law_809 ⟨by show _ ≤ 601024; omega, by show _ ≤ 7293034; omega⟩) hS (fun q _ h => hFc q h) hFc (fun r_78 u_9 t H1 locs ht hvm hw hB hz1 hk1 hS => ?_)
    obtain ⟨tw9_78, nt9_79, tb9_80, te9_81, tk9_82, tt9_83⟩ := u_9
    dsimp only at hw hB
    obtain ⟨hP1, -, hD1⟩ := hB
    rw [ht] at hP1
    obtain ⟨hP, hD⟩ := va_join (wr := (w3 a cI cZ nk pa fa nc fo th tg nt tb te tk tt nu ub ue uk ut re ro fu bl go ra rc ex tc es wy) ++ ([(ou, .inl (cJ, 1, .inr (.inl fz)))])) (w1 := w4 b cI cZ tw9_78 nk pa nc fo th tg nt9_79 tb9_80 te9_81 tk9_82 tt9_83 ex tc es wy ab re4 go4 be) hP hD [24, 25, 26, 27, 28, 29, 30, 31, 32, 33, 34, 35, 36] [0, 1, 2, 3, 4, 5, 6, 7, 8, 9, 10, 11, 12, 13, 14, 15, 16, 17, 18, 19, 20, 21, 22, 23, 37] rfl rfl (by decide) (by decide) hk1 hFc hP1 hD1
    generalize H1 = H at hP hS ⊢
    have hP := hP.sub (ws' := (w3 a cI cZ nk pa fa nc fo th tg nt tb te tk tt nu ub ue uk ut re ro fu bl go ra rc ex tc es wy) ++ ((w4 b cI cZ tw9_78 nk pa nc fo th tg nt9_79 tb9_80 te9_81 tk9_82 tt9_83 ex tc es wy ab re4 go4 be) ++ ([(ou, .inl (cJ, 1, .inr (.inl fz)))]))) [0, 1, 2, 3, 4, 5, 6, 7, 8, 9, 10, 11, 12, 13, 14, 15, 16, 17, 18, 19, 20, 21, 22, 23, 25, 26, 27, 28, 29, 30, 31, 32, 33, 34, 35, 36, 37, 24] rfl
    have hD := hD.sub (ws' := (w3 a cI cZ nk pa fa nc fo th tg nt tb te tk tt nu ub ue uk ut re ro fu bl go ra rc ex tc es wy) ++ ((w4 b cI cZ tw9_78 nk pa nc fo th tg nt9_79 tb9_80 te9_81 tk9_82 tt9_83 ex tc es wy ab re4 go4 be) ++ ([(ou, .inl (cJ, 1, .inr (.inl fz)))]))) [0, 1, 2, 3, 4, 5, 6, 7, 8, 9, 10, 11, 12, 13, 14, 15, 16, 17, 18, 19, 20, 21, 22, 23, 25, 26, 27, 28, 29, 30, 31, 32, 33, 34, 35, 36, 37, 24] (by decide) rfl
    have hP : va_P (dC, dI) vwCl ((w3 a cI cZ nk pa fa nc fo th tg nt tb te tk tt nu ub ue uk ut re ro fu bl go ra rc ex tc es wy) ++ ((w4 b cI cZ tw9_78 nk pa nc fo th tg nt9_79 tb9_80 te9_81 tk9_82 tt9_83 ex tc es wy ab re4 go4 be) ++ ([(ou, .inl (cJ, 1, .inr (.inl fz)))]))) H := hP
    have hD : va_D A ((w3 a cI cZ nk pa fa nc fo th tg nt tb te tk tt nu ub ue uk ut re ro fu bl go ra rc ex tc es wy) ++ ((w4 b cI cZ tw9_78 nk pa nc fo th tg nt9_79 tb9_80 te9_81 tk9_82 tt9_83 ex tc es wy ab re4 go4 be) ++ ([(ou, .inl (cJ, 1, .inr (.inl fz)))]))) := hD
    rcases hw with ⟨h_85, h_86, h_87, h_88, h_89, (⟨h_90, h_91⟩ | ⟨h_92, h_93, h_94⟩ | ⟨h_95, h_96, h_97, h_98⟩)⟩ | ⟨h_99, h_100, h_101, h_102, h_103, h_104, h_105⟩
    · skip
      replace h_85 := h_85.symm
      subst h_85
      replace h_86 := h_86.symm
      subst h_86
      replace h_87 := h_87.symm
      subst h_87
      replace h_88 := h_88.symm
      subst h_88
      replace h_89 := h_89.symm
      subst h_89
      replace h_91 := h_91.symm
      subst h_91
      have hP : va_P (dC, dI) vwCl ((w3 a cI cZ nk pa fa nc fo th tg nt tb te tk tt nu ub ue uk ut re ro fu bl go ra rc ex tc es wy) ++ ((w4 b cI cZ 1 nk pa nc fo th tg nt tb4 te4 tk4 tt4 ex tc es wy ab re4 go4 be) ++ ([(ou, .inl (cJ, 1, .inr (.inl fz)))]))) H := hP
      have hD : va_D A ((w3 a cI cZ nk pa fa nc fo th tg nt tb te tk tt nu ub ue uk ut re ro fu bl go ra rc ex tc es wy) ++ ((w4 b cI cZ 1 nk pa nc fo th tg nt tb4 te4 tk4 tt4 ex tc es wy ab re4 go4 be) ++ ([(ou, .inl (cJ, 1, .inr (.inl fz)))]))) := hD
      refine lv_istore (lv' := [(6, .int r_78), (5, .int 1), (0, .ref sb), (1, .ref (a 0)), (2, .ref (b 0)), (3, .ref ou), (4, .int (nI i))]) hx hb dL_law_812 hl (by decide) rfl (fun ls hl => ?_)
      refine lv_aload_n hx hb dL_law_814 rfl (lv_at hl 4 rfl) ?_
      have hPc := hP.sub (ws' := w4 b cI cZ 1 nk pa nc fo th tg nt tb4 te4 tk4 tt4 ex tc es wy ab re4 go4 be) [24, 25, 26, 27, 28, 29, 30, 31, 32, 33, 34, 35, 36] rfl
      refine va_calli (va_runV (As := []) (rest := []) ⟨hx, hb, hml, hown, hts⟩ (c_X4_thrown l dC dI cI cZ cJ b 1 nk pa nc fo th tg nt tb4 te4 tk4 tt4 ex tc es wy ab re4 go4 be ) (cwV 0 hts gL_law_X4_thrown rfl rfl rfl (by decide +kernel) ⟨Nat.le_of_ble_eq_true rfl, Nat.le_of_ble_eq_true rfl⟩) ⟨zPre_blind, va_recv hK hPc (ci := 4) (q0 := 0) rfl rfl, zPre_at hPc hK hn⟩ rfl rfl hl.1 rfl (lv_room (Nat.le_of_ble_eq_true rfl)) dL_law_815 ⟨by show _ ≤ 601024; omega, by show _ ≤ 7293034; omega⟩) hS (fun _ _ h => h.elim) (fun _ h => h.elim) (fun r_106 u_9 t H locs ht hvm hw hB hz1 hk1 hS => ?_)
      have hP := zkeep hP hk1
      subst hw
      refine lv_iload hx hb dL_law_818 (lv_at hl 1 rfl) ?_
      refine lv_icmp_eq (tgt := 825) hx hb dL_law_820 (by decide) (fun c_107 => ?_) (fun c_107 => ?_)
      · skip
        refine lv_iload hx hb dL_law_825 (lv_at hl 1 rfl) ?_
        refine lv_if_ne (tgt := 842) hx hb dL_law_827 (by decide) (fun c_108 => ?_) (fun c_108 => ?_)
        · skip
          refine lv_goto (tgt := 1475) hx hb dL_law_842 (by decide) ?_
          refine W.widen (k := k0 + 100) (n := n0 + 3000) (by omega) (by omega) ?_
          exact K nk pa fa nc fo th tg nt tb te tk tt nu ub ue uk ut re ro fu bl go ra rc ex tc es wy 1 tb4 te4 tk4 tt4 ab re4 go4 be fz T up _ _ _ (by first | assumption | omega) (by first | assumption | omega) (by first | assumption | omega) hP hD hS (lv_sub hl [2, 3, 4, 5, 6] rfl)
        · exact absurd c_108 (by decide)
      · exact absurd c_107 (by decide)
    · skip
      exact absurd (h_20.symm.trans h_92) (by decide)
    · skip
      exact absurd (h_20.symm.trans h_95) (by decide)
    · skip
      exact absurd (h_20.symm.trans h_99) (by decide)
  · skip
    replace h_27 := h_27.symm
    subst h_27
    replace h_30 := h_30.symm
    subst h_30
    replace h_31 := h_31.symm
    subst h_31
    replace h_32 := h_32.symm
    subst h_32
    replace h_33 := h_33.symm
    subst h_33
    replace h_34 := h_34.symm
    subst h_34
    replace h_35 := h_35.symm
    subst h_35
    have hP : va_P (dC, dI) vwCl ((w3 a cI cZ nk pa fa nc fo th tg nt tb te tk tt nu ub ue uk ut re ro fu bl go ra rc ex tc es wy) ++ ((w4 b cI cZ tw nk pa nc fo th tg nt tb4 te4 tk4 tt4 ex tc es wy ab re4 go4 be) ++ ([(ou, .inl (cJ, 1, .inr (.inl fz)))]))) H := hP
    have hD : va_D A ((w3 a cI cZ nk pa fa nc fo th tg nt tb te tk tt nu ub ue uk ut re ro fu bl go ra rc ex tc es wy) ++ ((w4 b cI cZ tw nk pa nc fo th tg nt tb4 te4 tk4 tt4 ex tc es wy ab re4 go4 be) ++ ([(ou, .inl (cJ, 1, .inr (.inl fz)))]))) := hD
    refine lv_istore (lv' := [(5, .int 2), (0, .ref sb), (1, .ref (a 0)), (2, .ref (b 0)), (3, .ref ou), (4, .int (nI i))]) hx hb dL_law_782 hl (by decide) rfl (fun ls hl => ?_)
    refine lv_aload_n hx hb dL_law_784 rfl (lv_at hl 3 rfl) ?_
    refine lv_aload_n hx hb dL_law_785 rfl (lv_at hl 1 rfl) ?_
    refine lv_iload hx hb dL_law_786 (lv_at hl 5 rfl) ?_
    refine lv_iconst (v := 1) hx hb dL_law_788 (by decide) ?_
    refine lv_iadd hx hb dL_law_789 ?_
    refine zz_top (y := nI (i + 1)) (nI_add _ _) ?_
    refine va_sld hx hb hX hbl hbA hS (vp_in_nI (n := i + 1) (by omega) (by omega)) dL_law_790 ?_
    refine zz_top (y := xs (i + 1)) (congrArg _ (nI_clamp (by omega))) ?_
    refine lv_aload_n hx hb dL_law_791 rfl (lv_at hl 1 rfl) ?_
    refine lv_iload hx hb dL_law_792 (lv_at hl 5 rfl) ?_
    refine lv_iconst (v := 2) hx hb dL_law_794 (by decide) ?_
    refine lv_iadd hx hb dL_law_795 ?_
    refine zz_top (y := nI (i + 2)) (nI_add _ _) ?_
    refine va_sld hx hb hX hbl hbA hS (vp_in_nI (n := i + 2) (by omega) (by omega)) dL_law_796 ?_
    refine zz_top (y := xs (i + 2)) (congrArg _ (nI_clamp (by omega))) ?_
    refine lv_aload_n hx hb dL_law_797 rfl (lv_at hl 1 rfl) ?_
    refine lv_iload hx hb dL_law_798 (lv_at hl 5 rfl) ?_
    refine lv_iconst (v := 3) hx hb dL_law_800 (by decide) ?_
    refine lv_iadd hx hb dL_law_801 ?_
    refine zz_top (y := nI (i + 3)) (nI_add _ _) ?_
    refine va_sld hx hb hX hbl hbA hS (vp_in_nI (n := i + 3) (by omega) (by omega)) dL_law_802 ?_
    refine zz_top (y := xs (i + 3)) (congrArg _ (nI_clamp (by omega))) ?_
    refine lv_aload_n hx hb dL_law_803 rfl (lv_at hl 1 rfl) ?_
    refine lv_iload hx hb dL_law_804 (lv_at hl 5 rfl) ?_
    refine lv_iconst (v := 4) hx hb dL_law_806 (by decide) ?_
    refine lv_iadd hx hb dL_law_807 ?_
    refine zz_top (y := nI (i + 4)) (nI_add _ _) ?_
    refine va_sld hx hb hX hbl hbA hS (vp_in_nI (n := i + 4) (by omega) (by omega)) dL_law_808 ?_
    refine zz_top (y := xs (i + 4)) (congrArg _ (nI_clamp (by omega))) ?_
    have hPc := hP.sub (ws' := w4 b cI cZ tw nk pa nc fo th tg nt tb4 te4 tk4 tt4 ex tc es wy ab re4 go4 be) [24, 25, 26, 27, 28, 29, 30, 31, 32, 33, 34, 35, 36] rfl
    have hDc := hD.sub (ws' := w4 b cI cZ tw nk pa nc fo th tg nt tb4 te4 tk4 tt4 ex tc es wy ab re4 go4 be) [24, 25, 26, 27, 28, 29, 30, 31, 32, 33, 34, 35, 36] (by decide) rfl
    have hFc := va_free (wc := w4 b cI cZ tw nk pa nc fo th tg nt tb4 te4 tk4 tt4 ex tc es wy ab re4 go4 be) hD hS hA [24, 25, 26, 27, 28, 29, 30, 31, 32, 33, 34, 35, 36] rfl
    refine va_calli (va_runV (As := [.int (xs (i + 1)), .int (xs (i + 2)), .int (xs (i + 3)), .int (xs (i + 4))]) (rest := []) ⟨hx, hb, hml, hown, hts⟩ (c_X4_addEntry l dC dI cI cZ cJ b tw nk pa nc fo th tg nt tb4 te4 tk4 tt4 ex tc es wy ab re4 go4 be (xs (i + 1)) (xs (i + 2)) (xs (i + 3)) (xs (i + 4)) T up H.size (by first | assumption | omega) (by first | assumption | omega)) (cwV 4 hts gL_law_X4_addEntry rfl rfl rfl (by decide +kernel) ⟨Nat.le_of_ble_eq_true rfl, Nat.le_of_ble_eq_true rfl⟩) ⟨zWr_blind, va_recv hK hPc (ci := 4) (q0 := 0) rfl rfl, zWr_at hPc hK hn (hDc.weaken (fun _ _ _ _ => trivial))⟩ rfl rfl hl.1 rfl (lv_room (Nat.le_of_ble_eq_true rfl)) dL_law_809 ⟨by show _ ≤ 601024; omega, by show _ ≤ 7293034; omega⟩) hS (fun q _ h => hFc q h) hFc (fun r_109 u_9 t H1 locs ht hvm hw hB hz1 hk1 hS => ?_)
    obtain ⟨tw9_109, nt9_110, tb9_111, te9_112, tk9_113, tt9_114⟩ := u_9
    dsimp only at hw hB
    obtain ⟨hP1, -, hD1⟩ := hB
    rw [ht] at hP1
    obtain ⟨hP, hD⟩ := va_join (wr := (w3 a cI cZ nk pa fa nc fo th tg nt tb te tk tt nu ub ue uk ut re ro fu bl go ra rc ex tc es wy) ++ ([(ou, .inl (cJ, 1, .inr (.inl fz)))])) (w1 := w4 b cI cZ tw9_109 nk pa nc fo th tg nt9_110 tb9_111 te9_112 tk9_113 tt9_114 ex tc es wy ab re4 go4 be) hP hD [24, 25, 26, 27, 28, 29, 30, 31, 32, 33, 34, 35, 36] [0, 1, 2, 3, 4, 5, 6, 7, 8, 9, 10, 11, 12, 13, 14, 15, 16, 17, 18, 19, 20, 21, 22, 23, 37] rfl rfl (by decide) (by decide) hk1 hFc hP1 hD1
    generalize H1 = H at hP hS ⊢
    have hP := hP.sub (ws' := (w3 a cI cZ nk pa fa nc fo th tg nt tb te tk tt nu ub ue uk ut re ro fu bl go ra rc ex tc es wy) ++ ((w4 b cI cZ tw9_109 nk pa nc fo th tg nt9_110 tb9_111 te9_112 tk9_113 tt9_114 ex tc es wy ab re4 go4 be) ++ ([(ou, .inl (cJ, 1, .inr (.inl fz)))]))) [0, 1, 2, 3, 4, 5, 6, 7, 8, 9, 10, 11, 12, 13, 14, 15, 16, 17, 18, 19, 20, 21, 22, 23, 25, 26, 27, 28, 29, 30, 31, 32, 33, 34, 35, 36, 37, 24] rfl
    have hD := hD.sub (ws' := (w3 a cI cZ nk pa fa nc fo th tg nt tb te tk tt nu ub ue uk ut re ro fu bl go ra rc ex tc es wy) ++ ((w4 b cI cZ tw9_109 nk pa nc fo th tg nt9_110 tb9_111 te9_112 tk9_113 tt9_114 ex tc es wy ab re4 go4 be) ++ ([(ou, .inl (cJ, 1, .inr (.inl fz)))]))) [0, 1, 2, 3, 4, 5, 6, 7, 8, 9, 10, 11, 12, 13, 14, 15, 16, 17, 18, 19, 20, 21, 22, 23, 25, 26, 27, 28, 29, 30, 31, 32, 33, 34, 35, 36, 37, 24] (by decide) rfl
    have hP : va_P (dC, dI) vwCl ((w3 a cI cZ nk pa fa nc fo th tg nt tb te tk tt nu ub ue uk ut re ro fu bl go ra rc ex tc es wy) ++ ((w4 b cI cZ tw9_109 nk pa nc fo th tg nt9_110 tb9_111 te9_112 tk9_113 tt9_114 ex tc es wy ab re4 go4 be) ++ ([(ou, .inl (cJ, 1, .inr (.inl fz)))]))) H := hP
    have hD : va_D A ((w3 a cI cZ nk pa fa nc fo th tg nt tb te tk tt nu ub ue uk ut re ro fu bl go ra rc ex tc es wy) ++ ((w4 b cI cZ tw9_109 nk pa nc fo th tg nt9_110 tb9_111 te9_112 tk9_113 tt9_114 ex tc es wy ab re4 go4 be) ++ ([(ou, .inl (cJ, 1, .inr (.inl fz)))]))) := hD
    rcases hw with ⟨h_116, h_117, h_118, h_119, h_120, (⟨h_121, h_122⟩ | ⟨h_123, h_124, h_125⟩ | ⟨h_126, h_127, h_128, h_129⟩)⟩ | ⟨h_130, h_131, h_132, h_133, h_134, h_135, h_136⟩
    · skip
      exact absurd (h_28.symm.trans h_121) (by decide)
    · skip
      replace h_116 := h_116.symm
      subst h_116
      replace h_117 := h_117.symm
      subst h_117
      replace h_118 := h_118.symm
      subst h_118
      replace h_119 := h_119.symm
      subst h_119
      replace h_120 := h_120.symm
      subst h_120
      replace h_125 := h_125.symm
      subst h_125
      have hP : va_P (dC, dI) vwCl ((w3 a cI cZ nk pa fa nc fo th tg nt tb te tk tt nu ub ue uk ut re ro fu bl go ra rc ex tc es wy) ++ ((w4 b cI cZ 2 nk pa nc fo th tg nt tb4 te4 tk4 tt4 ex tc es wy ab re4 go4 be) ++ ([(ou, .inl (cJ, 1, .inr (.inl fz)))]))) H := hP
      have hD : va_D A ((w3 a cI cZ nk pa fa nc fo th tg nt tb te tk tt nu ub ue uk ut re ro fu bl go ra rc ex tc es wy) ++ ((w4 b cI cZ 2 nk pa nc fo th tg nt tb4 te4 tk4 tt4 ex tc es wy ab re4 go4 be) ++ ([(ou, .inl (cJ, 1, .inr (.inl fz)))]))) := hD
      refine lv_istore (lv' := [(6, .int r_109), (5, .int 2), (0, .ref sb), (1, .ref (a 0)), (2, .ref (b 0)), (3, .ref ou), (4, .int (nI i))]) hx hb dL_law_812 hl (by decide) rfl (fun ls hl => ?_)
      refine lv_aload_n hx hb dL_law_814 rfl (lv_at hl 4 rfl) ?_
      have hPc := hP.sub (ws' := w4 b cI cZ 2 nk pa nc fo th tg nt tb4 te4 tk4 tt4 ex tc es wy ab re4 go4 be) [24, 25, 26, 27, 28, 29, 30, 31, 32, 33, 34, 35, 36] rfl
      refine va_calli (va_runV (As := []) (rest := []) ⟨hx, hb, hml, hown, hts⟩ (c_X4_thrown l dC dI cI cZ cJ b 2 nk pa nc fo th tg nt tb4 te4 tk4 tt4 ex tc es wy ab re4 go4 be ) (cwV 0 hts gL_law_X4_thrown rfl rfl rfl (by decide +kernel) ⟨Nat.le_of_ble_eq_true rfl, Nat.le_of_ble_eq_true rfl⟩) ⟨zPre_blind, va_recv hK hPc (ci := 4) (q0 := 0) rfl rfl, zPre_at hPc hK hn⟩ rfl rfl hl.1 rfl (lv_room (Nat.le_of_ble_eq_true rfl)) dL_law_815 ⟨by show _ ≤ 601024; omega, by show _ ≤ 7293034; omega⟩) hS (fun _ _ h => h.elim) (fun _ h => h.elim) (fun r_137 u_9 t H locs ht hvm hw hB hz1 hk1 hS => ?_)
      have hP := zkeep hP hk1
      subst hw
      refine lv_iload hx hb dL_law_818 (lv_at hl 1 rfl) ?_
      refine lv_icmp_eq (tgt := 825) hx hb dL_law_820 (by decide) (fun c_138 => ?_) (fun c_138 => ?_)
      · skip
        refine lv_iload hx hb dL_law_825 (lv_at hl 1 rfl) ?_
        refine lv_if_ne (tgt := 842) hx hb dL_law_827 (by decide) (fun c_139 => ?_) (fun c_139 => ?_)
        · skip
          refine lv_goto (tgt := 1475) hx hb dL_law_842 (by decide) ?_
          refine W.widen (k := k0 + 100) (n := n0 + 3000) (by omega) (by omega) ?_
          exact K nk pa fa nc fo th tg nt tb te tk tt nu ub ue uk ut re ro fu bl go ra rc ex tc es wy 2 tb4 te4 tk4 tt4 ab re4 go4 be fz T up _ _ _ (by first | assumption | omega) (by first | assumption | omega) (by first | assumption | omega) hP hD hS (lv_sub hl [2, 3, 4, 5, 6] rfl)
        · exact absurd c_139 (by decide)
      · exact absurd c_138 (by decide)
    · skip
      exact absurd (h_29.symm.trans h_127) (by decide)
    · skip
      exact absurd (h_29.symm.trans h_131) (by decide)
  · skip
    replace h_36 := h_36.symm
    subst h_36
    replace h_40 := h_40.symm
    subst h_40
    replace h_41 := h_41.symm
    subst h_41
    replace h_42 := h_42.symm
    subst h_42
    replace h_43 := h_43.symm
    subst h_43
    replace h_44 := h_44.symm
    subst h_44
    replace h_45 := h_45.symm
    subst h_45
    have hP : va_P (dC, dI) vwCl ((w3 a cI cZ nk pa fa nc fo th tg nt tb te tk tt nu ub ue uk ut re ro fu bl go ra rc ex tc es wy) ++ ((w4 b cI cZ tw nk pa nc fo th tg nt tb4 te4 tk4 tt4 ex tc es wy ab re4 go4 be) ++ ([(ou, .inl (cJ, 1, .inr (.inl fz)))]))) H := hP
    have hD : va_D A ((w3 a cI cZ nk pa fa nc fo th tg nt tb te tk tt nu ub ue uk ut re ro fu bl go ra rc ex tc es wy) ++ ((w4 b cI cZ tw nk pa nc fo th tg nt tb4 te4 tk4 tt4 ex tc es wy ab re4 go4 be) ++ ([(ou, .inl (cJ, 1, .inr (.inl fz)))]))) := hD
    refine lv_istore (lv' := [(5, .int 3), (0, .ref sb), (1, .ref (a 0)), (2, .ref (b 0)), (3, .ref ou), (4, .int (nI i))]) hx hb dL_law_782 hl (by decide) rfl (fun ls hl => ?_)
    refine lv_aload_n hx hb dL_law_784 rfl (lv_at hl 3 rfl) ?_
    refine lv_aload_n hx hb dL_law_785 rfl (lv_at hl 1 rfl) ?_
    refine lv_iload hx hb dL_law_786 (lv_at hl 5 rfl) ?_
    refine lv_iconst (v := 1) hx hb dL_law_788 (by decide) ?_
    refine lv_iadd hx hb dL_law_789 ?_
    refine zz_top (y := nI (i + 1)) (nI_add _ _) ?_
    refine va_sld hx hb hX hbl hbA hS (vp_in_nI (n := i + 1) (by omega) (by omega)) dL_law_790 ?_
    refine zz_top (y := xs (i + 1)) (congrArg _ (nI_clamp (by omega))) ?_
    refine lv_aload_n hx hb dL_law_791 rfl (lv_at hl 1 rfl) ?_
    refine lv_iload hx hb dL_law_792 (lv_at hl 5 rfl) ?_
    refine lv_iconst (v := 2) hx hb dL_law_794 (by decide) ?_
    refine lv_iadd hx hb dL_law_795 ?_
    refine zz_top (y := nI (i + 2)) (nI_add _ _) ?_
    refine va_sld hx hb hX hbl hbA hS (vp_in_nI (n := i + 2) (by omega) (by omega)) dL_law_796 ?_
    refine zz_top (y := xs (i + 2)) (congrArg _ (nI_clamp (by omega))) ?_
    refine lv_aload_n hx hb dL_law_797 rfl (lv_at hl 1 rfl) ?_
    refine lv_iload hx hb dL_law_798 (lv_at hl 5 rfl) ?_
    refine lv_iconst (v := 3) hx hb dL_law_800 (by decide) ?_
    refine lv_iadd hx hb dL_law_801 ?_
    refine zz_top (y := nI (i + 3)) (nI_add _ _) ?_
    refine va_sld hx hb hX hbl hbA hS (vp_in_nI (n := i + 3) (by omega) (by omega)) dL_law_802 ?_
    refine zz_top (y := xs (i + 3)) (congrArg _ (nI_clamp (by omega))) ?_
    refine lv_aload_n hx hb dL_law_803 rfl (lv_at hl 1 rfl) ?_
    refine lv_iload hx hb dL_law_804 (lv_at hl 5 rfl) ?_
    refine lv_iconst (v := 4) hx hb dL_law_806 (by decide) ?_
    refine lv_iadd hx hb dL_law_807 ?_
    refine zz_top (y := nI (i + 4)) (nI_add _ _) ?_
    refine va_sld hx hb hX hbl hbA hS (vp_in_nI (n := i + 4) (by omega) (by omega)) dL_law_808 ?_
    refine zz_top (y := xs (i + 4)) (congrArg _ (nI_clamp (by omega))) ?_
    have hPc := hP.sub (ws' := w4 b cI cZ tw nk pa nc fo th tg nt tb4 te4 tk4 tt4 ex tc es wy ab re4 go4 be) [24, 25, 26, 27, 28, 29, 30, 31, 32, 33, 34, 35, 36] rfl
    have hDc := hD.sub (ws' := w4 b cI cZ tw nk pa nc fo th tg nt tb4 te4 tk4 tt4 ex tc es wy ab re4 go4 be) [24, 25, 26, 27, 28, 29, 30, 31, 32, 33, 34, 35, 36] (by decide) rfl
    have hFc := va_free (wc := w4 b cI cZ tw nk pa nc fo th tg nt tb4 te4 tk4 tt4 ex tc es wy ab re4 go4 be) hD hS hA [24, 25, 26, 27, 28, 29, 30, 31, 32, 33, 34, 35, 36] rfl
    refine va_calli (va_runV (As := [.int (xs (i + 1)), .int (xs (i + 2)), .int (xs (i + 3)), .int (xs (i + 4))]) (rest := []) ⟨hx, hb, hml, hown, hts⟩ (c_X4_addEntry l dC dI cI cZ cJ b tw nk pa nc fo th tg nt tb4 te4 tk4 tt4 ex tc es wy ab re4 go4 be (xs (i + 1)) (xs (i + 2)) (xs (i + 3)) (xs (i + 4)) T up H.size (by first | assumption | omega) (by first | assumption | omega)) (cwV 4 hts gL_law_X4_addEntry rfl rfl rfl (by decide +kernel) ⟨Nat.le_of_ble_eq_true rfl, Nat.le_of_ble_eq_true rfl⟩) ⟨zWr_blind, va_recv hK hPc (ci := 4) (q0 := 0) rfl rfl, zWr_at hPc hK hn (hDc.weaken (fun _ _ _ _ => trivial))⟩ rfl rfl hl.1 rfl (lv_room (Nat.le_of_ble_eq_true rfl)) dL_law_809 ⟨by show _ ≤ 601024; omega, by show _ ≤ 7293034; omega⟩) hS (fun q _ h => hFc q h) hFc (fun r_140 u_9 t H1 locs ht hvm hw hB hz1 hk1 hS => ?_)
    obtain ⟨tw9_140, nt9_141, tb9_142, te9_143, tk9_144, tt9_145⟩ := u_9
    dsimp only at hw hB
    obtain ⟨hP1, -, hD1⟩ := hB
    rw [ht] at hP1
    obtain ⟨hP, hD⟩ := va_join (wr := (w3 a cI cZ nk pa fa nc fo th tg nt tb te tk tt nu ub ue uk ut re ro fu bl go ra rc ex tc es wy) ++ ([(ou, .inl (cJ, 1, .inr (.inl fz)))])) (w1 := w4 b cI cZ tw9_140 nk pa nc fo th tg nt9_141 tb9_142 te9_143 tk9_144 tt9_145 ex tc es wy ab re4 go4 be) hP hD [24, 25, 26, 27, 28, 29, 30, 31, 32, 33, 34, 35, 36] [0, 1, 2, 3, 4, 5, 6, 7, 8, 9, 10, 11, 12, 13, 14, 15, 16, 17, 18, 19, 20, 21, 22, 23, 37] rfl rfl (by decide) (by decide) hk1 hFc hP1 hD1
    generalize H1 = H at hP hS ⊢
    have hP := hP.sub (ws' := (w3 a cI cZ nk pa fa nc fo th tg nt tb te tk tt nu ub ue uk ut re ro fu bl go ra rc ex tc es wy) ++ ((w4 b cI cZ tw9_140 nk pa nc fo th tg nt9_141 tb9_142 te9_143 tk9_144 tt9_145 ex tc es wy ab re4 go4 be) ++ ([(ou, .inl (cJ, 1, .inr (.inl fz)))]))) [0, 1, 2, 3, 4, 5, 6, 7, 8, 9, 10, 11, 12, 13, 14, 15, 16, 17, 18, 19, 20, 21, 22, 23, 25, 26, 27, 28, 29, 30, 31, 32, 33, 34, 35, 36, 37, 24] rfl
    have hD := hD.sub (ws' := (w3 a cI cZ nk pa fa nc fo th tg nt tb te tk tt nu ub ue uk ut re ro fu bl go ra rc ex tc es wy) ++ ((w4 b cI cZ tw9_140 nk pa nc fo th tg nt9_141 tb9_142 te9_143 tk9_144 tt9_145 ex tc es wy ab re4 go4 be) ++ ([(ou, .inl (cJ, 1, .inr (.inl fz)))]))) [0, 1, 2, 3, 4, 5, 6, 7, 8, 9, 10, 11, 12, 13, 14, 15, 16, 17, 18, 19, 20, 21, 22, 23, 25, 26, 27, 28, 29, 30, 31, 32, 33, 34, 35, 36, 37, 24] (by decide) rfl
    have hP : va_P (dC, dI) vwCl ((w3 a cI cZ nk pa fa nc fo th tg nt tb te tk tt nu ub ue uk ut re ro fu bl go ra rc ex tc es wy) ++ ((w4 b cI cZ tw9_140 nk pa nc fo th tg nt9_141 tb9_142 te9_143 tk9_144 tt9_145 ex tc es wy ab re4 go4 be) ++ ([(ou, .inl (cJ, 1, .inr (.inl fz)))]))) H := hP
    have hD : va_D A ((w3 a cI cZ nk pa fa nc fo th tg nt tb te tk tt nu ub ue uk ut re ro fu bl go ra rc ex tc es wy) ++ ((w4 b cI cZ tw9_140 nk pa nc fo th tg nt9_141 tb9_142 te9_143 tk9_144 tt9_145 ex tc es wy ab re4 go4 be) ++ ([(ou, .inl (cJ, 1, .inr (.inl fz)))]))) := hD
    rcases hw with ⟨h_147, h_148, h_149, h_150, h_151, (⟨h_152, h_153⟩ | ⟨h_154, h_155, h_156⟩ | ⟨h_157, h_158, h_159, h_160⟩)⟩ | ⟨h_161, h_162, h_163, h_164, h_165, h_166, h_167⟩
    · skip
      exact absurd (h_37.symm.trans h_152) (by decide)
    · skip
      exact absurd (h_38.symm.trans h_155) (by decide)
    · skip
      replace h_147 := h_147.symm
      subst h_147
      replace h_148 := h_148.symm
      subst h_148
      replace h_149 := h_149.symm
      subst h_149
      replace h_150 := h_150.symm
      subst h_150
      replace h_151 := h_151.symm
      subst h_151
      replace h_160 := h_160.symm
      subst h_160
      have hP : va_P (dC, dI) vwCl ((w3 a cI cZ nk pa fa nc fo th tg nt tb te tk tt nu ub ue uk ut re ro fu bl go ra rc ex tc es wy) ++ ((w4 b cI cZ 3 nk pa nc fo th tg nt tb4 te4 tk4 tt4 ex tc es wy ab re4 go4 be) ++ ([(ou, .inl (cJ, 1, .inr (.inl fz)))]))) H := hP
      have hD : va_D A ((w3 a cI cZ nk pa fa nc fo th tg nt tb te tk tt nu ub ue uk ut re ro fu bl go ra rc ex tc es wy) ++ ((w4 b cI cZ 3 nk pa nc fo th tg nt tb4 te4 tk4 tt4 ex tc es wy ab re4 go4 be) ++ ([(ou, .inl (cJ, 1, .inr (.inl fz)))]))) := hD
      refine lv_istore (lv' := [(6, .int r_140), (5, .int 3), (0, .ref sb), (1, .ref (a 0)), (2, .ref (b 0)), (3, .ref ou), (4, .int (nI i))]) hx hb dL_law_812 hl (by decide) rfl (fun ls hl => ?_)
      refine lv_aload_n hx hb dL_law_814 rfl (lv_at hl 4 rfl) ?_
      have hPc := hP.sub (ws' := w4 b cI cZ 3 nk pa nc fo th tg nt tb4 te4 tk4 tt4 ex tc es wy ab re4 go4 be) [24, 25, 26, 27, 28, 29, 30, 31, 32, 33, 34, 35, 36] rfl
      refine va_calli (va_runV (As := []) (rest := []) ⟨hx, hb, hml, hown, hts⟩ (c_X4_thrown l dC dI cI cZ cJ b 3 nk pa nc fo th tg nt tb4 te4 tk4 tt4 ex tc es wy ab re4 go4 be ) (cwV 0 hts gL_law_X4_thrown rfl rfl rfl (by decide +kernel) ⟨Nat.le_of_ble_eq_true rfl, Nat.le_of_ble_eq_true rfl⟩) ⟨zPre_blind, va_recv hK hPc (ci := 4) (q0 := 0) rfl rfl, zPre_at hPc hK hn⟩ rfl rfl hl.1 rfl (lv_room (Nat.le_of_ble_eq_true rfl)) dL_law_815 ⟨by show _ ≤ 601024; omega, by show _ ≤ 7293034; omega⟩) hS (fun _ _ h => h.elim) (fun _ h => h.elim) (fun r_168 u_9 t H locs ht hvm hw hB hz1 hk1 hS => ?_)
      have hP := zkeep hP hk1
      subst hw
      refine lv_iload hx hb dL_law_818 (lv_at hl 1 rfl) ?_
      refine lv_icmp_eq (tgt := 825) hx hb dL_law_820 (by decide) (fun c_169 => ?_) (fun c_169 => ?_)
      · skip
        refine lv_iload hx hb dL_law_825 (lv_at hl 1 rfl) ?_
        refine lv_if_ne (tgt := 842) hx hb dL_law_827 (by decide) (fun c_170 => ?_) (fun c_170 => ?_)
        · skip
          refine lv_goto (tgt := 1475) hx hb dL_law_842 (by decide) ?_
          refine W.widen (k := k0 + 100) (n := n0 + 3000) (by omega) (by omega) ?_
          exact K nk pa fa nc fo th tg nt tb te tk tt nu ub ue uk ut re ro fu bl go ra rc ex tc es wy 3 tb4 te4 tk4 tt4 ab re4 go4 be fz T up _ _ _ (by first | assumption | omega) (by first | assumption | omega) (by first | assumption | omega) hP hD hS (lv_sub hl [2, 3, 4, 5, 6] rfl)
        · exact absurd c_170 (by decide)
      · exact absurd c_169 (by decide)
    · skip
      omega

set_option maxHeartbeats 4000000 in
set_option maxRecDepth 100000 in
theorem lk_12 {p : Program} {e : Env} {s : State} {m : MethodId} {below : List Frame} {meth : Method} {c : Code} {Q : State → Prop} (l : Launch) {sb L : Nat} {xs : Nat → Int32} (dC : Nat → ClassId) (dI : Nat → Nat → Nat) (cI cZ cJ : ClassId) (a b : Nat → Nat) (ou i k0 n0 : Nat) (hF0 : lwF p l s m c sb L xs dC dI cI cZ cJ) (hi : i + 5 ≤ L) (hk0 : k0 + 100 ≤ 601024) (hn0 : n0 + 3000 ≤ 7293034) (nk : Nat) (pa : Nat → Int32) (fa : Nat → Int32) (nc : Nat) (fo : Nat → Int32) (th : Nat → Int32) (tg : Nat → Int32) (nt : Nat) (tb : Nat → Int32) (te : Nat → Int32) (tk : Nat → Int32) (tt : Nat → Int32) (nu : Nat) (ub : Nat → Int32) (ue : Nat → Int32) (uk : Nat → Int32) (ut : Nat → Int32) (re : Nat → Int32) (ro : Nat → Int32) (fu : Nat → Int32) (bl : Nat → Int32) (go : Nat → Int32) (ra : Nat → Int32) (rc : Nat) (ex : Int32) (tc : Int32) (es : Int32) (wy : Int64) (tw : Int32) (tb4 : Nat → Int32) (te4 : Nat → Int32) (tk4 : Nat → Int32) (tt4 : Nat → Int32) (ab : Nat → Int32) (re4 : Nat → Int32) (go4 : Nat → Int32) (be : Nat → Int32) (fz : Nat → Int64) (T : Nat → Nat → Nat) (up : Nat → Nat → Bool) (hg : g3 nk fa up nt tb te tk tt T) (hg4 : g4 nk ab up nt tb4 te4 tk4 tt4 T) (hc : okC nk nc fo th tg) (H : Heap) (locs : List Loc) (ls : Array Slot) (hP : va_P (dC, dI) vwCl ((w3 a cI cZ nk pa fa nc fo th tg nt tb te tk tt nu ub ue uk ut re ro fu bl go ra rc ex tc es wy) ++ ((w4 b cI cZ tw nk pa nc fo th tg nt tb4 te4 tk4 tt4 ex tc es wy ab re4 go4 be) ++ ([(ou, .inl (cJ, 1, .inr (.inl fz)))]))) H) (hD : va_D (fun q => s.heap.size ≤ q) ((w3 a cI cZ nk pa fa nc fo th tg nt tb te tk tt nu ub ue uk ut re ro fu bl go ra rc ex tc es wy) ++ ((w4 b cI cZ tw nk pa nc fo th tg nt tb4 te4 tk4 tt4 ex tc es wy ab re4 go4 be) ++ ([(ou, .inl (cJ, 1, .inr (.inl fz)))])))) (hS : va_S (fun q => s.heap.size ≤ q) s.heap H locs) (hl : lv_has ls 9 [(0, .ref sb), (1, .ref (a 0)), (2, .ref (b 0)), (3, .ref ou), (4, .int (nI i))]) (K : ∀ (nk : Nat) (pa : Nat → Int32) (fa : Nat → Int32) (nc : Nat) (fo : Nat → Int32) (th : Nat → Int32) (tg : Nat → Int32) (nt : Nat) (tb : Nat → Int32) (te : Nat → Int32) (tk : Nat → Int32) (tt : Nat → Int32) (nu : Nat) (ub : Nat → Int32) (ue : Nat → Int32) (uk : Nat → Int32) (ut : Nat → Int32) (re : Nat → Int32) (ro : Nat → Int32) (fu : Nat → Int32) (bl : Nat → Int32) (go : Nat → Int32) (ra : Nat → Int32) (rc : Nat) (ex : Int32) (tc : Int32) (es : Int32) (wy : Int64) (tw : Int32) (tb4 : Nat → Int32) (te4 : Nat → Int32) (tk4 : Nat → Int32) (tt4 : Nat → Int32) (ab : Nat → Int32) (re4 : Nat → Int32) (go4 : Nat → Int32) (be : Nat → Int32) (fz : Nat → Int64) (T : Nat → Nat → Nat) (up : Nat → Nat → Bool) (H : Heap) (locs : List Loc) (ls : Array Slot), g3 nk fa up nt tb te tk tt T → g4 nk ab up nt tb4 te4 tk4 tt4 T → okC nk nc fo th tg → va_P (dC, dI) vwCl ((w3 a cI cZ nk pa fa nc fo th tg nt tb te tk tt nu ub ue uk ut re ro fu bl go ra rc ex tc es wy) ++ ((w4 b cI cZ tw nk pa nc fo th tg nt tb4 te4 tk4 tt4 ex tc es wy ab re4 go4 be) ++ ([(ou, .inl (cJ, 1, .inr (.inl fz)))]))) H → va_D (fun q => s.heap.size ≤ q) ((w3 a cI cZ nk pa fa nc fo th tg nt tb te tk tt nu ub ue uk ut re ro fu bl go ra rc ex tc es wy) ++ ((w4 b cI cZ tw nk pa nc fo th tg nt tb4 te4 tk4 tt4 ex tc es wy ab re4 go4 be) ++ ([(ou, .inl (cJ, 1, .inr (.inl fz)))]))) → va_S (fun q => s.heap.size ≤ q) s.heap H locs → lv_has ls 9 [(0, .ref sb), (1, .ref (a 0)), (2, .ref (b 0)), (3, .ref ou), (4, .int (nI i))] → W p l e room_1 s m #[Value.ref sb] below meth c H locs (k0 + 100) (n0 + 3000) Q (F0 m 1475 ls [])) : W p l e room_1 s m #[Value.ref sb] below meth c H locs k0 n0 Q (F0 m 845 ls []) := by
  obtain ⟨hx, hb, hml, hown, hts, hX, hbl, hL, hK, hn, hzt, hzu, hzc, hlt⟩ := id hF0
  obtain ⟨A, hAe⟩ : ∃ A : Nat → Prop, A = fun q => s.heap.size ≤ q := ⟨_, rfl⟩
  have hbA : ¬ A sb := by rw [hAe]; exact Nat.not_le.mpr hbl
  have hA : ∀ q : Nat, s.heap.size ≤ q → A q := fun q h => by rw [hAe]; exact h
  rw [← hAe] at hD hS hzu K
  refine lv_aload_n hx hb dL_law_845 rfl (lv_at hl 1 rfl) ?_
  refine lv_aload_n hx hb dL_law_846 rfl (lv_at hl 0 rfl) ?_
  refine lv_iload hx hb dL_law_847 (lv_at hl 4 rfl) ?_
  refine lv_iconst (v := 1) hx hb dL_law_849 (by decide) ?_
  refine lv_iadd hx hb dL_law_850 ?_
  refine zz_top (y := nI (i + 1)) (nI_add _ _) ?_
  refine va_sld hx hb hX hbl hbA hS (vp_in_nI (n := i + 1) (by omega) (by omega)) dL_law_851 ?_
  refine zz_top (y := xs (i + 1)) (congrArg _ (nI_clamp (by omega))) ?_
  refine lv_aload_n hx hb dL_law_852 rfl (lv_at hl 3 rfl) ?_
  have hPc := hP.sub (ws' := (w3 a cI cZ nk pa fa nc fo th tg nt tb te tk tt nu ub ue uk ut re ro fu bl go ra rc ex tc es wy) ++ ([(ou, .inl (cJ, 1, .inr (.inl fz)))])) [0, 1, 2, 3, 4, 5, 6, 7, 8, 9, 10, 11, 12, 13, 14, 15, 16, 17, 18, 19, 20, 21, 22, 23, 37] rfl
  have hDc := hD.sub (ws' := (w3 a cI cZ nk pa fa nc fo th tg nt tb te tk tt nu ub ue uk ut re ro fu bl go ra rc ex tc es wy) ++ ([(ou, .inl (cJ, 1, .inr (.inl fz)))])) [0, 1, 2, 3, 4, 5, 6, 7, 8, 9, 10, 11, 12, 13, 14, 15, 16, 17, 18, 19, 20, 21, 22, 23, 37] (by decide) rfl
  have hFc := va_free (wc := (w3 a cI cZ nk pa fa nc fo th tg nt tb te tk tt nu ub ue uk ut re ro fu bl go ra rc ex tc es wy) ++ ([(ou, .inl (cJ, 1, .inr (.inl fz)))])) hD hS hA [0, 1, 2, 3, 4, 5, 6, 7, 8, 9, 10, 11, 12, 13, 14, 15, 16, 17, 18, 19, 20, 21, 22, 23, 37] rfl
  refine va_calli (vx_runSW (As := [.ref (a 0), .int (xs (i + 1)), .ref ou]) (rest := []) ⟨hx, hb, hml, hown, hts⟩ (c_L_removeEntry l dC dI cI cZ cJ a nk pa fa nc fo th tg nt tb te tk tt nu ub ue uk ut re ro fu bl go ra rc ex tc es wy (xs (i + 1)) T up ou fz H.size hlt (by first | assumption | omega) (by first | assumption | omega)) (vx_cwSW 3 hts gL_law_L_removeEntry rfl rfl rfl (by decide +kernel) ⟨Nat.le_of_ble_eq_true rfl, Nat.le_of_ble_eq_true rfl⟩) ⟨zTl_blind, zTl_at hPc hK hn (hDc.weaken (fun _ _ _ _ => trivial)) hzt hzu hS hFc hzc⟩ rfl rfl hl.1 rfl (lv_room (Nat.le_of_ble_eq_true rfl)) dL_law_853 ⟨by show _ ≤ 601024; omega, by show _ ≤ 7293034; omega⟩) hS (fun q _ h => hFc q h) hFc (fun r_1 u_9 t H1 locs ht hvm hw hB hz1 hk1 hS => ?_)
  obtain ⟨v_t_1, v_tb_2, v_te_3, v_tk_4, v_tt_5, fz9_6⟩ := u_9
  dsimp only at hw hB
  obtain ⟨hP1, -, hD1⟩ := hB
  rw [ht] at hP1
  obtain ⟨hP, hD⟩ := va_join (wr := w4 b cI cZ tw nk pa nc fo th tg nt tb4 te4 tk4 tt4 ex tc es wy ab re4 go4 be) (w1 := (w3 a cI cZ nk pa fa nc fo th tg v_t_1 v_tb_2 v_te_3 v_tk_4 v_tt_5 nu ub ue uk ut re ro fu bl go ra rc ex tc es wy) ++ ([(ou, .inl (cJ, 1, .inr (.inl fz9_6)))])) hP hD [0, 1, 2, 3, 4, 5, 6, 7, 8, 9, 10, 11, 12, 13, 14, 15, 16, 17, 18, 19, 20, 21, 22, 23, 37] [24, 25, 26, 27, 28, 29, 30, 31, 32, 33, 34, 35, 36] rfl rfl (by decide) (by decide) hk1 hFc hP1 hD1
  generalize H1 = H at hP hS ⊢
  have hP := hP.sub (ws' := (w3 a cI cZ nk pa fa nc fo th tg v_t_1 v_tb_2 v_te_3 v_tk_4 v_tt_5 nu ub ue uk ut re ro fu bl go ra rc ex tc es wy) ++ ((w4 b cI cZ tw nk pa nc fo th tg nt tb4 te4 tk4 tt4 ex tc es wy ab re4 go4 be) ++ ([(ou, .inl (cJ, 1, .inr (.inl fz9_6)))]))) [13, 14, 15, 16, 17, 18, 19, 20, 21, 22, 23, 24, 25, 26, 27, 28, 29, 30, 31, 32, 33, 34, 35, 36, 0, 1, 2, 3, 4, 5, 6, 7, 8, 9, 10, 11, 12, 37] rfl
  have hD := hD.sub (ws' := (w3 a cI cZ nk pa fa nc fo th tg v_t_1 v_tb_2 v_te_3 v_tk_4 v_tt_5 nu ub ue uk ut re ro fu bl go ra rc ex tc es wy) ++ ((w4 b cI cZ tw nk pa nc fo th tg nt tb4 te4 tk4 tt4 ex tc es wy ab re4 go4 be) ++ ([(ou, .inl (cJ, 1, .inr (.inl fz9_6)))]))) [13, 14, 15, 16, 17, 18, 19, 20, 21, 22, 23, 24, 25, 26, 27, 28, 29, 30, 31, 32, 33, 34, 35, 36, 0, 1, 2, 3, 4, 5, 6, 7, 8, 9, 10, 11, 12, 37] (by decide) rfl
  have hP : va_P (dC, dI) vwCl ((w3 a cI cZ nk pa fa nc fo th tg v_t_1 v_tb_2 v_te_3 v_tk_4 v_tt_5 nu ub ue uk ut re ro fu bl go ra rc ex tc es wy) ++ ((w4 b cI cZ tw nk pa nc fo th tg nt tb4 te4 tk4 tt4 ex tc es wy ab re4 go4 be) ++ ([(ou, .inl (cJ, 1, .inr (.inl fz9_6)))]))) H := hP
  have hD : va_D A ((w3 a cI cZ nk pa fa nc fo th tg v_t_1 v_tb_2 v_te_3 v_tk_4 v_tt_5 nu ub ue uk ut re ro fu bl go ra rc ex tc es wy) ++ ((w4 b cI cZ tw nk pa nc fo th tg nt tb4 te4 tk4 tt4 ex tc es wy ab re4 go4 be) ++ ([(ou, .inl (cJ, 1, .inr (.inl fz9_6)))]))) := hD
  refine W.widen (k := k0 + 1) (n := n0 + 6) (by omega) (by omega) ?_
  rcases hw with ⟨x_8, x_9, x_10, x_11, ⟨h_12, h_13, h_14, h_15, h_16, h_17, h_18, ⟨h_19, h_20⟩⟩⟩ | ⟨h_21, h_22, h_23, h_24, h_25, h_26, h_27, h_28⟩
  · skip
    replace h_12 := h_12.symm
    subst h_12
    replace h_13 := h_13.symm
    subst h_13
    replace h_14 := h_14.symm
    subst h_14
    replace h_15 := h_15.symm
    subst h_15
    replace h_16 := h_16.symm
    subst h_16
    replace h_17 := h_17.symm
    subst h_17
    replace h_18 := h_18.symm
    subst h_18
    have hP : va_P (dC, dI) vwCl ((w3 a cI cZ nk pa fa nc fo th tg (nt - 1) x_8 x_9 x_10 x_11 nu ub ue uk ut re ro fu bl go ra rc ex tc es wy) ++ ((w4 b cI cZ tw nk pa nc fo th tg nt tb4 te4 tk4 tt4 ex tc es wy ab re4 go4 be) ++ ([(ou, .inl (cJ, 1, .inr (.inl (vp_updL fz 0 ((nI (nt - 1)).toInt64)))))]))) H := hP
    have hD : va_D A ((w3 a cI cZ nk pa fa nc fo th tg (nt - 1) x_8 x_9 x_10 x_11 nu ub ue uk ut re ro fu bl go ra rc ex tc es wy) ++ ((w4 b cI cZ tw nk pa nc fo th tg nt tb4 te4 tk4 tt4 ex tc es wy ab re4 go4 be) ++ ([(ou, .inl (cJ, 1, .inr (.inl (vp_updL fz 0 ((nI (nt - 1)).toInt64)))))]))) := hD
    refine lv_istore (lv' := [(5, .int 0), (0, .ref sb), (1, .ref (a 0)), (2, .ref (b 0)), (3, .ref ou), (4, .int (nI i))]) hx hb dL_law_856 hl (by decide) rfl (fun ls hl => ?_)
    refine lv_aload_n hx hb dL_law_858 rfl (lv_at hl 3 rfl) ?_
    refine lv_aload_n hx hb dL_law_859 rfl (lv_at hl 1 rfl) ?_
    refine lv_iload hx hb dL_law_860 (lv_at hl 5 rfl) ?_
    refine lv_iconst (v := 1) hx hb dL_law_862 (by decide) ?_
    refine lv_iadd hx hb dL_law_863 ?_
    refine zz_top (y := nI (i + 1)) (nI_add _ _) ?_
    refine va_sld hx hb hX hbl hbA hS (vp_in_nI (n := i + 1) (by omega) (by omega)) dL_law_864 ?_
    refine zz_top (y := xs (i + 1)) (congrArg _ (nI_clamp (by omega))) ?_
    have hPc := hP.sub (ws' := w4 b cI cZ tw nk pa nc fo th tg nt tb4 te4 tk4 tt4 ex tc es wy ab re4 go4 be) [24, 25, 26, 27, 28, 29, 30, 31, 32, 33, 34, 35, 36] rfl
    have hDc := hD.sub (ws' := w4 b cI cZ tw nk pa nc fo th tg nt tb4 te4 tk4 tt4 ex tc es wy ab re4 go4 be) [24, 25, 26, 27, 28, 29, 30, 31, 32, 33, 34, 35, 36] (by decide) rfl
    have hFc := va_free (wc := w4 b cI cZ tw nk pa nc fo th tg nt tb4 te4 tk4 tt4 ex tc es wy ab re4 go4 be) hD hS hA [24, 25, 26, 27, 28, 29, 30, 31, 32, 33, 34, 35, 36] rfl
    refine va_calli (va_runV (As := [.int (xs (i + 1))]) (rest := []) ⟨hx, hb, hml, hown, hts⟩ (c_X4_removeEntry l dC dI cI cZ cJ b tw nk pa nc fo th tg nt tb4 te4 tk4 tt4 ex tc es wy ab re4 go4 be (xs (i + 1)) T up H.size (by first | assumption | omega) (by first | assumption | omega)) (cwV 1 hts gL_law_X4_removeEntry rfl rfl rfl (by decide +kernel) ⟨Nat.le_of_ble_eq_true rfl, Nat.le_of_ble_eq_true rfl⟩) ⟨zWr_blind, va_recv hK hPc (ci := 4) (q0 := 0) rfl rfl, zWr_at hPc hK hn (hDc.weaken (fun _ _ _ _ => trivial))⟩ rfl rfl hl.1 rfl (lv_room (Nat.le_of_ble_eq_true rfl)) dL_law_865 ⟨by show _ ≤ 601024; omega, by show _ ≤ 7293034; omega⟩) hS (fun q _ h => hFc q h) hFc (fun r_29 u_9 t H1 locs ht hvm hw hB hz1 hk1 hS => ?_)
    obtain ⟨tw9_29, nt9_30, tb9_31, te9_32, tk9_33, tt9_34⟩ := u_9
    dsimp only at hw hB
    obtain ⟨hP1, -, hD1⟩ := hB
    rw [ht] at hP1
    obtain ⟨hP, hD⟩ := va_join (wr := (w3 a cI cZ nk pa fa nc fo th tg (nt - 1) x_8 x_9 x_10 x_11 nu ub ue uk ut re ro fu bl go ra rc ex tc es wy) ++ ([(ou, .inl (cJ, 1, .inr (.inl (vp_updL fz 0 ((nI (nt - 1)).toInt64)))))])) (w1 := w4 b cI cZ tw9_29 nk pa nc fo th tg nt9_30 tb9_31 te9_32 tk9_33 tt9_34 ex tc es wy ab re4 go4 be) hP hD [24, 25, 26, 27, 28, 29, 30, 31, 32, 33, 34, 35, 36] [0, 1, 2, 3, 4, 5, 6, 7, 8, 9, 10, 11, 12, 13, 14, 15, 16, 17, 18, 19, 20, 21, 22, 23, 37] rfl rfl (by decide) (by decide) hk1 hFc hP1 hD1
    generalize H1 = H at hP hS ⊢
    have hP := hP.sub (ws' := (w3 a cI cZ nk pa fa nc fo th tg (nt - 1) x_8 x_9 x_10 x_11 nu ub ue uk ut re ro fu bl go ra rc ex tc es wy) ++ ((w4 b cI cZ tw9_29 nk pa nc fo th tg nt9_30 tb9_31 te9_32 tk9_33 tt9_34 ex tc es wy ab re4 go4 be) ++ ([(ou, .inl (cJ, 1, .inr (.inl (vp_updL fz 0 ((nI (nt - 1)).toInt64)))))]))) [0, 1, 2, 3, 4, 5, 6, 7, 8, 9, 10, 11, 12, 13, 14, 15, 16, 17, 18, 19, 20, 21, 22, 23, 25, 26, 27, 28, 29, 30, 31, 32, 33, 34, 35, 36, 37, 24] rfl
    have hD := hD.sub (ws' := (w3 a cI cZ nk pa fa nc fo th tg (nt - 1) x_8 x_9 x_10 x_11 nu ub ue uk ut re ro fu bl go ra rc ex tc es wy) ++ ((w4 b cI cZ tw9_29 nk pa nc fo th tg nt9_30 tb9_31 te9_32 tk9_33 tt9_34 ex tc es wy ab re4 go4 be) ++ ([(ou, .inl (cJ, 1, .inr (.inl (vp_updL fz 0 ((nI (nt - 1)).toInt64)))))]))) [0, 1, 2, 3, 4, 5, 6, 7, 8, 9, 10, 11, 12, 13, 14, 15, 16, 17, 18, 19, 20, 21, 22, 23, 25, 26, 27, 28, 29, 30, 31, 32, 33, 34, 35, 36, 37, 24] (by decide) rfl
    have hP : va_P (dC, dI) vwCl ((w3 a cI cZ nk pa fa nc fo th tg (nt - 1) x_8 x_9 x_10 x_11 nu ub ue uk ut re ro fu bl go ra rc ex tc es wy) ++ ((w4 b cI cZ tw9_29 nk pa nc fo th tg nt9_30 tb9_31 te9_32 tk9_33 tt9_34 ex tc es wy ab re4 go4 be) ++ ([(ou, .inl (cJ, 1, .inr (.inl (vp_updL fz 0 ((nI (nt - 1)).toInt64)))))]))) H := hP
    have hD : va_D A ((w3 a cI cZ nk pa fa nc fo th tg (nt - 1) x_8 x_9 x_10 x_11 nu ub ue uk ut re ro fu bl go ra rc ex tc es wy) ++ ((w4 b cI cZ tw9_29 nk pa nc fo th tg nt9_30 tb9_31 te9_32 tk9_33 tt9_34 ex tc es wy ab re4 go4 be) ++ ([(ou, .inl (cJ, 1, .inr (.inl (vp_updL fz 0 ((nI (nt - 1)).toInt64)))))]))) := hD
    rcases hw with ⟨h_36, h_37, h_38, h_39, h_40, h_41, h_42⟩ | ⟨h_43, h_44, h_45, h_46, h_47⟩
    · skip
      exact absurd (h_19.symm.trans h_36) (by decide)
    · skip
      replace h_44 := h_44.symm
      subst h_44
      replace h_45 := h_45.symm
      subst h_45
      replace h_46 := h_46.symm
      subst h_46
      have hP : va_P (dC, dI) vwCl ((w3 a cI cZ nk pa fa nc fo th tg (nt - 1) x_8 x_9 x_10 x_11 nu ub ue uk ut re ro fu bl go ra rc ex tc es wy) ++ ((w4 b cI cZ 0 nk pa nc fo th tg (nt - 1) tb9_31 te9_32 tk9_33 tt9_34 ex tc es wy ab re4 go4 be) ++ ([(ou, .inl (cJ, 1, .inr (.inl (vp_updL fz 0 ((nI (nt - 1)).toInt64)))))]))) H := hP
      have hD : va_D A ((w3 a cI cZ nk pa fa nc fo th tg (nt - 1) x_8 x_9 x_10 x_11 nu ub ue uk ut re ro fu bl go ra rc ex tc es wy) ++ ((w4 b cI cZ 0 nk pa nc fo th tg (nt - 1) tb9_31 te9_32 tk9_33 tt9_34 ex tc es wy ab re4 go4 be) ++ ([(ou, .inl (cJ, 1, .inr (.inl (vp_updL fz 0 ((nI (nt - 1)).toInt64)))))]))) := hD
      refine lv_istore (lv' := [(6, .int (nI (nt - 1))), (5, .int 0), (0, .ref sb), (1, .ref (a 0)), (2, .ref (b 0)), (3, .ref ou), (4, .int (nI i))]) hx hb dL_law_868 hl (by decide) rfl (fun ls hl => ?_)
      refine lv_aload_n hx hb dL_law_870 rfl (lv_at hl 4 rfl) ?_
      have hPc := hP.sub (ws' := w4 b cI cZ 0 nk pa nc fo th tg (nt - 1) tb9_31 te9_32 tk9_33 tt9_34 ex tc es wy ab re4 go4 be) [24, 25, 26, 27, 28, 29, 30, 31, 32, 33, 34, 35, 36] rfl
      refine va_calli (va_runV (As := []) (rest := []) ⟨hx, hb, hml, hown, hts⟩ (c_X4_thrown l dC dI cI cZ cJ b 0 nk pa nc fo th tg (nt - 1) tb9_31 te9_32 tk9_33 tt9_34 ex tc es wy ab re4 go4 be ) (cwV 0 hts gL_law_X4_thrown rfl rfl rfl (by decide +kernel) ⟨Nat.le_of_ble_eq_true rfl, Nat.le_of_ble_eq_true rfl⟩) ⟨zPre_blind, va_recv hK hPc (ci := 4) (q0 := 0) rfl rfl, zPre_at hPc hK hn⟩ rfl rfl hl.1 rfl (lv_room (Nat.le_of_ble_eq_true rfl)) dL_law_871 ⟨by show _ ≤ 601024; omega, by show _ ≤ 7293034; omega⟩) hS (fun _ _ h => h.elim) (fun _ h => h.elim) (fun r_48 u_9 t H locs ht hvm hw hB hz1 hk1 hS => ?_)
      have hP := zkeep hP hk1
      subst hw
      refine lv_iload hx hb dL_law_874 (lv_at hl 1 rfl) ?_
      refine lv_icmp_eq (tgt := 881) hx hb dL_law_876 (by decide) (fun c_49 => ?_) (fun c_49 => ?_)
      · skip
        refine lv_iload hx hb dL_law_881 (lv_at hl 1 rfl) ?_
        refine lv_if_ne (tgt := 898) hx hb dL_law_883 (by decide) (fun c_50 => ?_) (fun c_50 => ?_)
        · exact absurd c_50 (by decide)
        · skip
          refine lv_aload_n hx hb dL_law_886 rfl (lv_at hl 5 rfl) ?_
          refine lv_iconst (v := 0) hx hb dL_law_887 (by decide) ?_
          refine va_lald hx hb hK hP 37 2 rfl rfl (vp_in_nI (n := 0) (by omega) (by decide)) dL_law_888 ?_
          refine zz_topl (y := (vp_updL fz 0 ((nI (nt - 1)).toInt64)) 0) (rfl) ?_
          refine lv_iload hx hb dL_law_889 (lv_at hl 0 rfl) ?_
          refine lv_i2l (v := (nI (nt - 1)).toInt64) hx hb dL_law_891 rfl ?_
          refine W.lcmp hx hb dL_law_892 ?_
          refine lv_if_eq (tgt := 898) hx hb dL_law_893 (by decide) (fun c_51 => ?_) (fun c_51 => ?_)
          · skip
            skip
            refine lv_goto (tgt := 1475) hx hb dL_law_898 (by decide) ?_
            refine W.widen (k := k0 + 100) (n := n0 + 3000) (by omega) (by omega) ?_
            exact K nk pa fa nc fo th tg (nt - 1) x_8 x_9 x_10 x_11 nu ub ue uk ut re ro fu bl go ra rc ex tc es wy 0 tb9_31 te9_32 tk9_33 tt9_34 ab re4 go4 be (vp_updL fz 0 ((nI (nt - 1)).toInt64)) (dT T (xs (i + 1)).toNatClampNeg) up _ _ _ (by first | assumption | omega) (by first | assumption | omega) (by first | assumption | omega) hP hD hS (lv_sub hl [2, 3, 4, 5, 6] rfl)
          · exact absurd ((lg_cmp_eq _ _).mpr (by first | rfl | exact (bL_t hz9).symm | exact (bL_f hz9).symm)) c_51
      · exact absurd c_49 (by decide)
  · skip
    replace h_21 := h_21.symm
    subst h_21
    replace h_23 := h_23.symm
    subst h_23
    replace h_24 := h_24.symm
    subst h_24
    replace h_25 := h_25.symm
    subst h_25
    replace h_26 := h_26.symm
    subst h_26
    replace h_27 := h_27.symm
    subst h_27
    replace h_28 := h_28.symm
    subst h_28
    have hP : va_P (dC, dI) vwCl ((w3 a cI cZ nk pa fa nc fo th tg nt tb te tk tt nu ub ue uk ut re ro fu bl go ra rc ex tc es wy) ++ ((w4 b cI cZ tw nk pa nc fo th tg nt tb4 te4 tk4 tt4 ex tc es wy ab re4 go4 be) ++ ([(ou, .inl (cJ, 1, .inr (.inl fz)))]))) H := hP
    have hD : va_D A ((w3 a cI cZ nk pa fa nc fo th tg nt tb te tk tt nu ub ue uk ut re ro fu bl go ra rc ex tc es wy) ++ ((w4 b cI cZ tw nk pa nc fo th tg nt tb4 te4 tk4 tt4 ex tc es wy ab re4 go4 be) ++ ([(ou, .inl (cJ, 1, .inr (.inl fz)))]))) := hD
    refine lv_istore (lv' := [(5, .int 1), (0, .ref sb), (1, .ref (a 0)), (2, .ref (b 0)), (3, .ref ou), (4, .int (nI i))]) hx hb dL_law_856 hl (by decide) rfl (fun ls hl => ?_)
    refine lv_aload_n hx hb dL_law_858 rfl (lv_at hl 3 rfl) ?_
    refine lv_aload_n hx hb dL_law_859 rfl (lv_at hl 1 rfl) ?_
    refine lv_iload hx hb dL_law_860 (lv_at hl 5 rfl) ?_
    refine lv_iconst (v := 1) hx hb dL_law_862 (by decide) ?_
    refine lv_iadd hx hb dL_law_863 ?_
    refine zz_top (y := nI (i + 1)) (nI_add _ _) ?_
    refine va_sld hx hb hX hbl hbA hS (vp_in_nI (n := i + 1) (by omega) (by omega)) dL_law_864 ?_
    refine zz_top (y := xs (i + 1)) (congrArg _ (nI_clamp (by omega))) ?_
    have hPc := hP.sub (ws' := w4 b cI cZ tw nk pa nc fo th tg nt tb4 te4 tk4 tt4 ex tc es wy ab re4 go4 be) [24, 25, 26, 27, 28, 29, 30, 31, 32, 33, 34, 35, 36] rfl
    have hDc := hD.sub (ws' := w4 b cI cZ tw nk pa nc fo th tg nt tb4 te4 tk4 tt4 ex tc es wy ab re4 go4 be) [24, 25, 26, 27, 28, 29, 30, 31, 32, 33, 34, 35, 36] (by decide) rfl
    have hFc := va_free (wc := w4 b cI cZ tw nk pa nc fo th tg nt tb4 te4 tk4 tt4 ex tc es wy ab re4 go4 be) hD hS hA [24, 25, 26, 27, 28, 29, 30, 31, 32, 33, 34, 35, 36] rfl
    refine va_calli (va_runV (As := [.int (xs (i + 1))]) (rest := []) ⟨hx, hb, hml, hown, hts⟩ (c_X4_removeEntry l dC dI cI cZ cJ b tw nk pa nc fo th tg nt tb4 te4 tk4 tt4 ex tc es wy ab re4 go4 be (xs (i + 1)) T up H.size (by first | assumption | omega) (by first | assumption | omega)) (cwV 1 hts gL_law_X4_removeEntry rfl rfl rfl (by decide +kernel) ⟨Nat.le_of_ble_eq_true rfl, Nat.le_of_ble_eq_true rfl⟩) ⟨zWr_blind, va_recv hK hPc (ci := 4) (q0 := 0) rfl rfl, zWr_at hPc hK hn (hDc.weaken (fun _ _ _ _ => trivial))⟩ rfl rfl hl.1 rfl (lv_room (Nat.le_of_ble_eq_true rfl)) dL_law_865 ⟨by show _ ≤ 601024; omega, by show _ ≤ 7293034; omega⟩) hS (fun q _ h => hFc q h) hFc (fun r_52 u_9 t H1 locs ht hvm hw hB hz1 hk1 hS => ?_)
    obtain ⟨tw9_52, nt9_53, tb9_54, te9_55, tk9_56, tt9_57⟩ := u_9
    dsimp only at hw hB
    obtain ⟨hP1, -, hD1⟩ := hB
    rw [ht] at hP1
    obtain ⟨hP, hD⟩ := va_join (wr := (w3 a cI cZ nk pa fa nc fo th tg nt tb te tk tt nu ub ue uk ut re ro fu bl go ra rc ex tc es wy) ++ ([(ou, .inl (cJ, 1, .inr (.inl fz)))])) (w1 := w4 b cI cZ tw9_52 nk pa nc fo th tg nt9_53 tb9_54 te9_55 tk9_56 tt9_57 ex tc es wy ab re4 go4 be) hP hD [24, 25, 26, 27, 28, 29, 30, 31, 32, 33, 34, 35, 36] [0, 1, 2, 3, 4, 5, 6, 7, 8, 9, 10, 11, 12, 13, 14, 15, 16, 17, 18, 19, 20, 21, 22, 23, 37] rfl rfl (by decide) (by decide) hk1 hFc hP1 hD1
    generalize H1 = H at hP hS ⊢
    have hP := hP.sub (ws' := (w3 a cI cZ nk pa fa nc fo th tg nt tb te tk tt nu ub ue uk ut re ro fu bl go ra rc ex tc es wy) ++ ((w4 b cI cZ tw9_52 nk pa nc fo th tg nt9_53 tb9_54 te9_55 tk9_56 tt9_57 ex tc es wy ab re4 go4 be) ++ ([(ou, .inl (cJ, 1, .inr (.inl fz)))]))) [0, 1, 2, 3, 4, 5, 6, 7, 8, 9, 10, 11, 12, 13, 14, 15, 16, 17, 18, 19, 20, 21, 22, 23, 25, 26, 27, 28, 29, 30, 31, 32, 33, 34, 35, 36, 37, 24] rfl
    have hD := hD.sub (ws' := (w3 a cI cZ nk pa fa nc fo th tg nt tb te tk tt nu ub ue uk ut re ro fu bl go ra rc ex tc es wy) ++ ((w4 b cI cZ tw9_52 nk pa nc fo th tg nt9_53 tb9_54 te9_55 tk9_56 tt9_57 ex tc es wy ab re4 go4 be) ++ ([(ou, .inl (cJ, 1, .inr (.inl fz)))]))) [0, 1, 2, 3, 4, 5, 6, 7, 8, 9, 10, 11, 12, 13, 14, 15, 16, 17, 18, 19, 20, 21, 22, 23, 25, 26, 27, 28, 29, 30, 31, 32, 33, 34, 35, 36, 37, 24] (by decide) rfl
    have hP : va_P (dC, dI) vwCl ((w3 a cI cZ nk pa fa nc fo th tg nt tb te tk tt nu ub ue uk ut re ro fu bl go ra rc ex tc es wy) ++ ((w4 b cI cZ tw9_52 nk pa nc fo th tg nt9_53 tb9_54 te9_55 tk9_56 tt9_57 ex tc es wy ab re4 go4 be) ++ ([(ou, .inl (cJ, 1, .inr (.inl fz)))]))) H := hP
    have hD : va_D A ((w3 a cI cZ nk pa fa nc fo th tg nt tb te tk tt nu ub ue uk ut re ro fu bl go ra rc ex tc es wy) ++ ((w4 b cI cZ tw9_52 nk pa nc fo th tg nt9_53 tb9_54 te9_55 tk9_56 tt9_57 ex tc es wy ab re4 go4 be) ++ ([(ou, .inl (cJ, 1, .inr (.inl fz)))]))) := hD
    rcases hw with ⟨h_59, h_60, h_61, h_62, h_63, h_64, h_65⟩ | ⟨h_66, h_67, h_68, h_69, h_70⟩
    · skip
      replace h_60 := h_60.symm
      subst h_60
      replace h_61 := h_61.symm
      subst h_61
      replace h_62 := h_62.symm
      subst h_62
      replace h_63 := h_63.symm
      subst h_63
      replace h_64 := h_64.symm
      subst h_64
      replace h_65 := h_65.symm
      subst h_65
      have hP : va_P (dC, dI) vwCl ((w3 a cI cZ nk pa fa nc fo th tg nt tb te tk tt nu ub ue uk ut re ro fu bl go ra rc ex tc es wy) ++ ((w4 b cI cZ 1 nk pa nc fo th tg nt tb4 te4 tk4 tt4 ex tc es wy ab re4 go4 be) ++ ([(ou, .inl (cJ, 1, .inr (.inl fz)))]))) H := hP
      have hD : va_D A ((w3 a cI cZ nk pa fa nc fo th tg nt tb te tk tt nu ub ue uk ut re ro fu bl go ra rc ex tc es wy) ++ ((w4 b cI cZ 1 nk pa nc fo th tg nt tb4 te4 tk4 tt4 ex tc es wy ab re4 go4 be) ++ ([(ou, .inl (cJ, 1, .inr (.inl fz)))]))) := hD
      refine lv_istore (lv' := [(6, .int r_52), (5, .int 1), (0, .ref sb), (1, .ref (a 0)), (2, .ref (b 0)), (3, .ref ou), (4, .int (nI i))]) hx hb dL_law_868 hl (by decide) rfl (fun ls hl => ?_)
      refine lv_aload_n hx hb dL_law_870 rfl (lv_at hl 4 rfl) ?_
      have hPc := hP.sub (ws' := w4 b cI cZ 1 nk pa nc fo th tg nt tb4 te4 tk4 tt4 ex tc es wy ab re4 go4 be) [24, 25, 26, 27, 28, 29, 30, 31, 32, 33, 34, 35, 36] rfl
      refine va_calli (va_runV (As := []) (rest := []) ⟨hx, hb, hml, hown, hts⟩ (c_X4_thrown l dC dI cI cZ cJ b 1 nk pa nc fo th tg nt tb4 te4 tk4 tt4 ex tc es wy ab re4 go4 be ) (cwV 0 hts gL_law_X4_thrown rfl rfl rfl (by decide +kernel) ⟨Nat.le_of_ble_eq_true rfl, Nat.le_of_ble_eq_true rfl⟩) ⟨zPre_blind, va_recv hK hPc (ci := 4) (q0 := 0) rfl rfl, zPre_at hPc hK hn⟩ rfl rfl hl.1 rfl (lv_room (Nat.le_of_ble_eq_true rfl)) dL_law_871 ⟨by show _ ≤ 601024; omega, by show _ ≤ 7293034; omega⟩) hS (fun _ _ h => h.elim) (fun _ h => h.elim) (fun r_71 u_9 t H locs ht hvm hw hB hz1 hk1 hS => ?_)
      have hP := zkeep hP hk1
      subst hw
      refine lv_iload hx hb dL_law_874 (lv_at hl 1 rfl) ?_
      refine lv_icmp_eq (tgt := 881) hx hb dL_law_876 (by decide) (fun c_72 => ?_) (fun c_72 => ?_)
      · skip
        refine lv_iload hx hb dL_law_881 (lv_at hl 1 rfl) ?_
        refine lv_if_ne (tgt := 898) hx hb dL_law_883 (by decide) (fun c_73 => ?_) (fun c_73 => ?_)
        · skip
          refine lv_goto (tgt := 1475) hx hb dL_law_898 (by decide) ?_
          refine W.widen (k := k0 + 100) (n := n0 + 3000) (by omega) (by omega) ?_
          exact K nk pa fa nc fo th tg nt tb te tk tt nu ub ue uk ut re ro fu bl go ra rc ex tc es wy 1 tb4 te4 tk4 tt4 ab re4 go4 be fz T up _ _ _ (by first | assumption | omega) (by first | assumption | omega) (by first | assumption | omega) hP hD hS (lv_sub hl [2, 3, 4, 5, 6] rfl)
        · exact absurd c_73 (by decide)
      · exact absurd c_72 (by decide)
    · skip
      exact absurd (h_22.symm.trans h_66) (by decide)

set_option maxHeartbeats 4000000 in
set_option maxRecDepth 100000 in
theorem lk_13 {p : Program} {e : Env} {s : State} {m : MethodId} {below : List Frame} {meth : Method} {c : Code} {Q : State → Prop} (l : Launch) {sb L : Nat} {xs : Nat → Int32} (dC : Nat → ClassId) (dI : Nat → Nat → Nat) (cI cZ cJ : ClassId) (a b : Nat → Nat) (ou i k0 n0 : Nat) (hF0 : lwF p l s m c sb L xs dC dI cI cZ cJ) (hi : i + 5 ≤ L) (hk0 : k0 + 100 ≤ 601024) (hn0 : n0 + 3000 ≤ 7293034) (nk : Nat) (pa : Nat → Int32) (fa : Nat → Int32) (nc : Nat) (fo : Nat → Int32) (th : Nat → Int32) (tg : Nat → Int32) (nt : Nat) (tb : Nat → Int32) (te : Nat → Int32) (tk : Nat → Int32) (tt : Nat → Int32) (nu : Nat) (ub : Nat → Int32) (ue : Nat → Int32) (uk : Nat → Int32) (ut : Nat → Int32) (re : Nat → Int32) (ro : Nat → Int32) (fu : Nat → Int32) (bl : Nat → Int32) (go : Nat → Int32) (ra : Nat → Int32) (rc : Nat) (ex : Int32) (tc : Int32) (es : Int32) (wy : Int64) (tw : Int32) (tb4 : Nat → Int32) (te4 : Nat → Int32) (tk4 : Nat → Int32) (tt4 : Nat → Int32) (ab : Nat → Int32) (re4 : Nat → Int32) (go4 : Nat → Int32) (be : Nat → Int32) (fz : Nat → Int64) (T : Nat → Nat → Nat) (up : Nat → Nat → Bool) (hg : g3 nk fa up nt tb te tk tt T) (hg4 : g4 nk ab up nt tb4 te4 tk4 tt4 T) (hc : okC nk nc fo th tg) (H : Heap) (locs : List Loc) (ls : Array Slot) (hP : va_P (dC, dI) vwCl ((w3 a cI cZ nk pa fa nc fo th tg nt tb te tk tt nu ub ue uk ut re ro fu bl go ra rc ex tc es wy) ++ ((w4 b cI cZ tw nk pa nc fo th tg nt tb4 te4 tk4 tt4 ex tc es wy ab re4 go4 be) ++ ([(ou, .inl (cJ, 1, .inr (.inl fz)))]))) H) (hD : va_D (fun q => s.heap.size ≤ q) ((w3 a cI cZ nk pa fa nc fo th tg nt tb te tk tt nu ub ue uk ut re ro fu bl go ra rc ex tc es wy) ++ ((w4 b cI cZ tw nk pa nc fo th tg nt tb4 te4 tk4 tt4 ex tc es wy ab re4 go4 be) ++ ([(ou, .inl (cJ, 1, .inr (.inl fz)))])))) (hS : va_S (fun q => s.heap.size ≤ q) s.heap H locs) (hl : lv_has ls 9 [(0, .ref sb), (1, .ref (a 0)), (2, .ref (b 0)), (3, .ref ou), (4, .int (nI i))]) (K : ∀ (nk : Nat) (pa : Nat → Int32) (fa : Nat → Int32) (nc : Nat) (fo : Nat → Int32) (th : Nat → Int32) (tg : Nat → Int32) (nt : Nat) (tb : Nat → Int32) (te : Nat → Int32) (tk : Nat → Int32) (tt : Nat → Int32) (nu : Nat) (ub : Nat → Int32) (ue : Nat → Int32) (uk : Nat → Int32) (ut : Nat → Int32) (re : Nat → Int32) (ro : Nat → Int32) (fu : Nat → Int32) (bl : Nat → Int32) (go : Nat → Int32) (ra : Nat → Int32) (rc : Nat) (ex : Int32) (tc : Int32) (es : Int32) (wy : Int64) (tw : Int32) (tb4 : Nat → Int32) (te4 : Nat → Int32) (tk4 : Nat → Int32) (tt4 : Nat → Int32) (ab : Nat → Int32) (re4 : Nat → Int32) (go4 : Nat → Int32) (be : Nat → Int32) (fz : Nat → Int64) (T : Nat → Nat → Nat) (up : Nat → Nat → Bool) (H : Heap) (locs : List Loc) (ls : Array Slot), g3 nk fa up nt tb te tk tt T → g4 nk ab up nt tb4 te4 tk4 tt4 T → okC nk nc fo th tg → va_P (dC, dI) vwCl ((w3 a cI cZ nk pa fa nc fo th tg nt tb te tk tt nu ub ue uk ut re ro fu bl go ra rc ex tc es wy) ++ ((w4 b cI cZ tw nk pa nc fo th tg nt tb4 te4 tk4 tt4 ex tc es wy ab re4 go4 be) ++ ([(ou, .inl (cJ, 1, .inr (.inl fz)))]))) H → va_D (fun q => s.heap.size ≤ q) ((w3 a cI cZ nk pa fa nc fo th tg nt tb te tk tt nu ub ue uk ut re ro fu bl go ra rc ex tc es wy) ++ ((w4 b cI cZ tw nk pa nc fo th tg nt tb4 te4 tk4 tt4 ex tc es wy ab re4 go4 be) ++ ([(ou, .inl (cJ, 1, .inr (.inl fz)))]))) → va_S (fun q => s.heap.size ≤ q) s.heap H locs → lv_has ls 9 [(0, .ref sb), (1, .ref (a 0)), (2, .ref (b 0)), (3, .ref ou), (4, .int (nI i))] → W p l e room_1 s m #[Value.ref sb] below meth c H locs (k0 + 100) (n0 + 3000) Q (F0 m 1475 ls [])) : W p l e room_1 s m #[Value.ref sb] below meth c H locs k0 n0 Q (F0 m 901 ls []) := by
  obtain ⟨hx, hb, hml, hown, hts, hX, hbl, hL, hK, hn, hzt, hzu, hzc, hlt⟩ := id hF0
  obtain ⟨A, hAe⟩ : ∃ A : Nat → Prop, A = fun q => s.heap.size ≤ q := ⟨_, rfl⟩
  have hbA : ¬ A sb := by rw [hAe]; exact Nat.not_le.mpr hbl
  have hA : ∀ q : Nat, s.heap.size ≤ q → A q := fun q h => by rw [hAe]; exact h
  rw [← hAe] at hD hS hzu K
  refine lv_aload_n hx hb dL_law_901 rfl (lv_at hl 1 rfl) ?_
  have hPc := hP.sub (ws' := w3 a cI cZ nk pa fa nc fo th tg nt tb te tk tt nu ub ue uk ut re ro fu bl go ra rc ex tc es wy) [0, 1, 2, 3, 4, 5, 6, 7, 8, 9, 10, 11, 12, 13, 14, 15, 16, 17, 18, 19, 20, 21, 22, 23] rfl
  refine va_calli (va_runV (As := []) (rest := []) ⟨hx, hb, hml, hown, hts⟩ (c_X3_entryCount l dC dI cI cZ cJ a nk pa fa nc fo th tg nt tb te tk tt nu ub ue uk ut re ro fu bl go ra rc ex tc es wy ) (cwV 0 hts gL_law_X3_entryCount rfl rfl rfl (by decide +kernel) ⟨Nat.le_of_ble_eq_true rfl, Nat.le_of_ble_eq_true rfl⟩) ⟨zPre_blind, va_recv hK hPc (ci := 3) (q0 := 0) rfl rfl, zPre_at hPc hK hn⟩ rfl rfl hl.1 rfl (lv_room (Nat.le_of_ble_eq_true rfl)) dL_law_902 ⟨by show _ ≤ 601024; omega, by show _ ≤ 7293034; omega⟩) hS (fun _ _ h => h.elim) (fun _ h => h.elim) (fun r_1 u_9 t H locs ht hvm hw hB hz1 hk1 hS => ?_)
  have hP := zkeep hP hk1
  subst hw
  refine lv_aload_n hx hb dL_law_905 rfl (lv_at hl 2 rfl) ?_
  have hPc := hP.sub (ws' := w4 b cI cZ tw nk pa nc fo th tg nt tb4 te4 tk4 tt4 ex tc es wy ab re4 go4 be) [24, 25, 26, 27, 28, 29, 30, 31, 32, 33, 34, 35, 36] rfl
  have hDc := hD.sub (ws' := w4 b cI cZ tw nk pa nc fo th tg nt tb4 te4 tk4 tt4 ex tc es wy ab re4 go4 be) [24, 25, 26, 27, 28, 29, 30, 31, 32, 33, 34, 35, 36] (by decide) rfl
  have hFc := va_free (wc := w4 b cI cZ tw nk pa nc fo th tg nt tb4 te4 tk4 tt4 ex tc es wy ab re4 go4 be) hD hS hA [24, 25, 26, 27, 28, 29, 30, 31, 32, 33, 34, 35, 36] rfl
  refine va_calli (va_runV (As := []) (rest := [.int (nI nt)]) ⟨hx, hb, hml, hown, hts⟩ (c_X4_entryCount l dC dI cI cZ cJ b tw nk pa nc fo th tg nt tb4 te4 tk4 tt4 ex tc es wy ab re4 go4 be H.size ) (cwV 0 hts gL_law_X4_entryCount rfl rfl rfl (by decide +kernel) ⟨Nat.le_of_ble_eq_true rfl, Nat.le_of_ble_eq_true rfl⟩) ⟨zWr_blind, va_recv hK hPc (ci := 4) (q0 := 0) rfl rfl, zWr_at hPc hK hn (hDc.weaken (fun _ _ _ _ => trivial))⟩ rfl rfl hl.1 rfl (lv_room (Nat.le_of_ble_eq_true rfl)) dL_law_906 ⟨by show _ ≤ 601024; omega, by show _ ≤ 7293034; omega⟩) hS (fun q _ h => hFc q h) hFc (fun r_2 u_9 t H1 locs ht hvm hw hB hz1 hk1 hS => ?_)
  obtain ⟨hP1, -, hD1⟩ := hB
  rw [ht] at hP1
  obtain ⟨hP, hD⟩ := va_join (wr := (w3 a cI cZ nk pa fa nc fo th tg nt tb te tk tt nu ub ue uk ut re ro fu bl go ra rc ex tc es wy) ++ ([(ou, .inl (cJ, 1, .inr (.inl fz)))])) (w1 := w4 b cI cZ 0 nk pa nc fo th tg nt tb4 te4 tk4 tt4 ex tc es wy ab re4 go4 be) hP hD [24, 25, 26, 27, 28, 29, 30, 31, 32, 33, 34, 35, 36] [0, 1, 2, 3, 4, 5, 6, 7, 8, 9, 10, 11, 12, 13, 14, 15, 16, 17, 18, 19, 20, 21, 22, 23, 37] rfl rfl (by decide) (by decide) hk1 hFc hP1 hD1
  generalize H1 = H at hP hS ⊢
  have hP := hP.sub (ws' := (w3 a cI cZ nk pa fa nc fo th tg nt tb te tk tt nu ub ue uk ut re ro fu bl go ra rc ex tc es wy) ++ ((w4 b cI cZ 0 nk pa nc fo th tg nt tb4 te4 tk4 tt4 ex tc es wy ab re4 go4 be) ++ ([(ou, .inl (cJ, 1, .inr (.inl fz)))]))) [0, 1, 2, 3, 4, 5, 6, 7, 8, 9, 10, 11, 12, 13, 14, 15, 16, 17, 18, 19, 20, 21, 22, 23, 25, 26, 27, 28, 29, 30, 31, 32, 33, 34, 35, 36, 37, 24] rfl
  have hD := hD.sub (ws' := (w3 a cI cZ nk pa fa nc fo th tg nt tb te tk tt nu ub ue uk ut re ro fu bl go ra rc ex tc es wy) ++ ((w4 b cI cZ 0 nk pa nc fo th tg nt tb4 te4 tk4 tt4 ex tc es wy ab re4 go4 be) ++ ([(ou, .inl (cJ, 1, .inr (.inl fz)))]))) [0, 1, 2, 3, 4, 5, 6, 7, 8, 9, 10, 11, 12, 13, 14, 15, 16, 17, 18, 19, 20, 21, 22, 23, 25, 26, 27, 28, 29, 30, 31, 32, 33, 34, 35, 36, 37, 24] (by decide) rfl
  have hP : va_P (dC, dI) vwCl ((w3 a cI cZ nk pa fa nc fo th tg nt tb te tk tt nu ub ue uk ut re ro fu bl go ra rc ex tc es wy) ++ ((w4 b cI cZ 0 nk pa nc fo th tg nt tb4 te4 tk4 tt4 ex tc es wy ab re4 go4 be) ++ ([(ou, .inl (cJ, 1, .inr (.inl fz)))]))) H := hP
  have hD : va_D A ((w3 a cI cZ nk pa fa nc fo th tg nt tb te tk tt nu ub ue uk ut re ro fu bl go ra rc ex tc es wy) ++ ((w4 b cI cZ 0 nk pa nc fo th tg nt tb4 te4 tk4 tt4 ex tc es wy ab re4 go4 be) ++ ([(ou, .inl (cJ, 1, .inr (.inl fz)))]))) := hD
  subst hw
  refine lv_icmp_eq (tgt := 1475) hx hb dL_law_909 (by decide) (fun c_3 => ?_) (fun c_3 => ?_)
  · skip
    skip
    refine W.widen (k := k0 + 100) (n := n0 + 3000) (by omega) (by omega) ?_
    exact K nk pa fa nc fo th tg nt tb te tk tt nu ub ue uk ut re ro fu bl go ra rc ex tc es wy 0 tb4 te4 tk4 tt4 ab re4 go4 be fz T up _ _ _ (by first | assumption | omega) (by first | assumption | omega) (by first | assumption | omega) hP hD hS (lv_sub hl [0, 1, 2, 3, 4] rfl)
  · exact absurd rfl c_3

set_option maxHeartbeats 4000000 in
set_option maxRecDepth 100000 in
theorem lk_14 {p : Program} {e : Env} {s : State} {m : MethodId} {below : List Frame} {meth : Method} {c : Code} {Q : State → Prop} (l : Launch) {sb L : Nat} {xs : Nat → Int32} (dC : Nat → ClassId) (dI : Nat → Nat → Nat) (cI cZ cJ : ClassId) (a b : Nat → Nat) (ou i k0 n0 : Nat) (hF0 : lwF p l s m c sb L xs dC dI cI cZ cJ) (hi : i + 5 ≤ L) (hk0 : k0 + 100 ≤ 601024) (hn0 : n0 + 3000 ≤ 7293034) (nk : Nat) (pa : Nat → Int32) (fa : Nat → Int32) (nc : Nat) (fo : Nat → Int32) (th : Nat → Int32) (tg : Nat → Int32) (nt : Nat) (tb : Nat → Int32) (te : Nat → Int32) (tk : Nat → Int32) (tt : Nat → Int32) (nu : Nat) (ub : Nat → Int32) (ue : Nat → Int32) (uk : Nat → Int32) (ut : Nat → Int32) (re : Nat → Int32) (ro : Nat → Int32) (fu : Nat → Int32) (bl : Nat → Int32) (go : Nat → Int32) (ra : Nat → Int32) (rc : Nat) (ex : Int32) (tc : Int32) (es : Int32) (wy : Int64) (tw : Int32) (tb4 : Nat → Int32) (te4 : Nat → Int32) (tk4 : Nat → Int32) (tt4 : Nat → Int32) (ab : Nat → Int32) (re4 : Nat → Int32) (go4 : Nat → Int32) (be : Nat → Int32) (fz : Nat → Int64) (T : Nat → Nat → Nat) (up : Nat → Nat → Bool) (hg : g3 nk fa up nt tb te tk tt T) (hg4 : g4 nk ab up nt tb4 te4 tk4 tt4 T) (hc : okC nk nc fo th tg) (H : Heap) (locs : List Loc) (ls : Array Slot) (hP : va_P (dC, dI) vwCl ((w3 a cI cZ nk pa fa nc fo th tg nt tb te tk tt nu ub ue uk ut re ro fu bl go ra rc ex tc es wy) ++ ((w4 b cI cZ tw nk pa nc fo th tg nt tb4 te4 tk4 tt4 ex tc es wy ab re4 go4 be) ++ ([(ou, .inl (cJ, 1, .inr (.inl fz)))]))) H) (hD : va_D (fun q => s.heap.size ≤ q) ((w3 a cI cZ nk pa fa nc fo th tg nt tb te tk tt nu ub ue uk ut re ro fu bl go ra rc ex tc es wy) ++ ((w4 b cI cZ tw nk pa nc fo th tg nt tb4 te4 tk4 tt4 ex tc es wy ab re4 go4 be) ++ ([(ou, .inl (cJ, 1, .inr (.inl fz)))])))) (hS : va_S (fun q => s.heap.size ≤ q) s.heap H locs) (hl : lv_has ls 9 [(0, .ref sb), (1, .ref (a 0)), (2, .ref (b 0)), (3, .ref ou), (4, .int (nI i))]) (K : ∀ (nk : Nat) (pa : Nat → Int32) (fa : Nat → Int32) (nc : Nat) (fo : Nat → Int32) (th : Nat → Int32) (tg : Nat → Int32) (nt : Nat) (tb : Nat → Int32) (te : Nat → Int32) (tk : Nat → Int32) (tt : Nat → Int32) (nu : Nat) (ub : Nat → Int32) (ue : Nat → Int32) (uk : Nat → Int32) (ut : Nat → Int32) (re : Nat → Int32) (ro : Nat → Int32) (fu : Nat → Int32) (bl : Nat → Int32) (go : Nat → Int32) (ra : Nat → Int32) (rc : Nat) (ex : Int32) (tc : Int32) (es : Int32) (wy : Int64) (tw : Int32) (tb4 : Nat → Int32) (te4 : Nat → Int32) (tk4 : Nat → Int32) (tt4 : Nat → Int32) (ab : Nat → Int32) (re4 : Nat → Int32) (go4 : Nat → Int32) (be : Nat → Int32) (fz : Nat → Int64) (T : Nat → Nat → Nat) (up : Nat → Nat → Bool) (H : Heap) (locs : List Loc) (ls : Array Slot), g3 nk fa up nt tb te tk tt T → g4 nk ab up nt tb4 te4 tk4 tt4 T → okC nk nc fo th tg → va_P (dC, dI) vwCl ((w3 a cI cZ nk pa fa nc fo th tg nt tb te tk tt nu ub ue uk ut re ro fu bl go ra rc ex tc es wy) ++ ((w4 b cI cZ tw nk pa nc fo th tg nt tb4 te4 tk4 tt4 ex tc es wy ab re4 go4 be) ++ ([(ou, .inl (cJ, 1, .inr (.inl fz)))]))) H → va_D (fun q => s.heap.size ≤ q) ((w3 a cI cZ nk pa fa nc fo th tg nt tb te tk tt nu ub ue uk ut re ro fu bl go ra rc ex tc es wy) ++ ((w4 b cI cZ tw nk pa nc fo th tg nt tb4 te4 tk4 tt4 ex tc es wy ab re4 go4 be) ++ ([(ou, .inl (cJ, 1, .inr (.inl fz)))]))) → va_S (fun q => s.heap.size ≤ q) s.heap H locs → lv_has ls 9 [(0, .ref sb), (1, .ref (a 0)), (2, .ref (b 0)), (3, .ref ou), (4, .int (nI i))] → W p l e room_1 s m #[Value.ref sb] below meth c H locs (k0 + 100) (n0 + 3000) Q (F0 m 1475 ls [])) : W p l e room_1 s m #[Value.ref sb] below meth c H locs k0 n0 Q (F0 m 914 ls []) := by
  obtain ⟨hx, hb, hml, hown, hts, hX, hbl, hL, hK, hn, hzt, hzu, hzc, hlt⟩ := id hF0
  obtain ⟨A, hAe⟩ : ∃ A : Nat → Prop, A = fun q => s.heap.size ≤ q := ⟨_, rfl⟩
  have hbA : ¬ A sb := by rw [hAe]; exact Nat.not_le.mpr hbl
  have hA : ∀ q : Nat, s.heap.size ≤ q → A q := fun q h => by rw [hAe]; exact h
  rw [← hAe] at hD hS hzu K
  refine lv_aload_n hx hb dL_law_914 rfl (lv_at hl 1 rfl) ?_
  refine lv_aload_n hx hb dL_law_915 rfl (lv_at hl 0 rfl) ?_
  refine lv_iload hx hb dL_law_916 (lv_at hl 4 rfl) ?_
  refine lv_iconst (v := 1) hx hb dL_law_918 (by decide) ?_
  refine lv_iadd hx hb dL_law_919 ?_
  refine zz_top (y := nI (i + 1)) (nI_add _ _) ?_
  refine va_sld hx hb hX hbl hbA hS (vp_in_nI (n := i + 1) (by omega) (by omega)) dL_law_920 ?_
  refine zz_top (y := xs (i + 1)) (congrArg _ (nI_clamp (by omega))) ?_
  refine lv_aload_n hx hb dL_law_921 rfl (lv_at hl 0 rfl) ?_
  refine lv_iload hx hb dL_law_922 (lv_at hl 4 rfl) ?_
  refine lv_iconst (v := 2) hx hb dL_law_924 (by decide) ?_
  refine lv_iadd hx hb dL_law_925 ?_
  refine zz_top (y := nI (i + 2)) (nI_add _ _) ?_
  refine va_sld hx hb hX hbl hbA hS (vp_in_nI (n := i + 2) (by omega) (by omega)) dL_law_926 ?_
  refine zz_top (y := xs (i + 2)) (congrArg _ (nI_clamp (by omega))) ?_
  refine lv_aload_n hx hb dL_law_927 rfl (lv_at hl 3 rfl) ?_
  have hPc := hP.sub (ws' := (w3 a cI cZ nk pa fa nc fo th tg nt tb te tk tt nu ub ue uk ut re ro fu bl go ra rc ex tc es wy) ++ ([(ou, .inl (cJ, 1, .inr (.inl fz)))])) [0, 1, 2, 3, 4, 5, 6, 7, 8, 9, 10, 11, 12, 13, 14, 15, 16, 17, 18, 19, 20, 21, 22, 23, 37] rfl
  have hDc := hD.sub (ws' := (w3 a cI cZ nk pa fa nc fo th tg nt tb te tk tt nu ub ue uk ut re ro fu bl go ra rc ex tc es wy) ++ ([(ou, .inl (cJ, 1, .inr (.inl fz)))])) [0, 1, 2, 3, 4, 5, 6, 7, 8, 9, 10, 11, 12, 13, 14, 15, 16, 17, 18, 19, 20, 21, 22, 23, 37] (by decide) rfl
  have hFc := va_free (wc := (w3 a cI cZ nk pa fa nc fo th tg nt tb te tk tt nu ub ue uk ut re ro fu bl go ra rc ex tc es wy) ++ ([(ou, .inl (cJ, 1, .inr (.inl fz)))])) hD hS hA [0, 1, 2, 3, 4, 5, 6, 7, 8, 9, 10, 11, 12, 13, 14, 15, 16, 17, 18, 19, 20, 21, 22, 23, 37] rfl
  refine va_calli (vx_runSW (As := [.ref (a 0), .int (xs (i + 1)), .int (xs (i + 2)), .ref ou]) (rest := []) ⟨hx, hb, hml, hown, hts⟩ (c_L_entry l dC dI cI cZ cJ a nk pa fa nc fo th tg nt tb te tk tt nu ub ue uk ut re ro fu bl go ra rc ex tc es wy (xs (i + 1)) (xs (i + 2)) T up ou fz H.size hlt (by first | assumption | omega) (by first | assumption | omega)) (vx_cwSW 4 hts gL_law_L_entry rfl rfl rfl (by decide +kernel) ⟨Nat.le_of_ble_eq_true rfl, Nat.le_of_ble_eq_true rfl⟩) ⟨zTl_blind, zTl_at hPc hK hn (hDc.weaken (fun _ _ _ _ => trivial)) hzt hzu hS hFc hzc⟩ rfl rfl hl.1 rfl (lv_room (Nat.le_of_ble_eq_true rfl)) dL_law_928 ⟨by show _ ≤ 601024; omega, by show _ ≤ 7293034; omega⟩) hS (fun q _ h => hFc q h) hFc (fun r_1 u_9 t H1 locs ht hvm hw hB hz1 hk1 hS => ?_)
  obtain ⟨fz9_1, rfl⟩ : ∃ z, z = u_9 := ⟨_, rfl⟩
  obtain ⟨hP1, -, hD1⟩ := hB
  rw [ht] at hP1
  obtain ⟨hP, hD⟩ := va_join (wr := w4 b cI cZ tw nk pa nc fo th tg nt tb4 te4 tk4 tt4 ex tc es wy ab re4 go4 be) (w1 := (w3 a cI cZ nk pa fa nc fo th tg nt tb te tk tt nu ub ue uk ut re ro fu bl go ra rc ex tc es wy) ++ ([(ou, .inl (cJ, 1, .inr (.inl fz9_1)))])) hP hD [0, 1, 2, 3, 4, 5, 6, 7, 8, 9, 10, 11, 12, 13, 14, 15, 16, 17, 18, 19, 20, 21, 22, 23, 37] [24, 25, 26, 27, 28, 29, 30, 31, 32, 33, 34, 35, 36] rfl rfl (by decide) (by decide) hk1 hFc hP1 hD1
  generalize H1 = H at hP hS ⊢
  have hP := hP.sub (ws' := (w3 a cI cZ nk pa fa nc fo th tg nt tb te tk tt nu ub ue uk ut re ro fu bl go ra rc ex tc es wy) ++ ((w4 b cI cZ tw nk pa nc fo th tg nt tb4 te4 tk4 tt4 ex tc es wy ab re4 go4 be) ++ ([(ou, .inl (cJ, 1, .inr (.inl fz9_1)))]))) [13, 14, 15, 16, 17, 18, 19, 20, 21, 22, 23, 24, 25, 26, 27, 28, 29, 30, 31, 32, 33, 34, 35, 36, 0, 1, 2, 3, 4, 5, 6, 7, 8, 9, 10, 11, 12, 37] rfl
  have hD := hD.sub (ws' := (w3 a cI cZ nk pa fa nc fo th tg nt tb te tk tt nu ub ue uk ut re ro fu bl go ra rc ex tc es wy) ++ ((w4 b cI cZ tw nk pa nc fo th tg nt tb4 te4 tk4 tt4 ex tc es wy ab re4 go4 be) ++ ([(ou, .inl (cJ, 1, .inr (.inl fz9_1)))]))) [13, 14, 15, 16, 17, 18, 19, 20, 21, 22, 23, 24, 25, 26, 27, 28, 29, 30, 31, 32, 33, 34, 35, 36, 0, 1, 2, 3, 4, 5, 6, 7, 8, 9, 10, 11, 12, 37] (by decide) rfl
  have hP : va_P (dC, dI) vwCl ((w3 a cI cZ nk pa fa nc fo th tg nt tb te tk tt nu ub ue uk ut re ro fu bl go ra rc ex tc es wy) ++ ((w4 b cI cZ tw nk pa nc fo th tg nt tb4 te4 tk4 tt4 ex tc es wy ab re4 go4 be) ++ ([(ou, .inl (cJ, 1, .inr (.inl fz9_1)))]))) H := hP
  have hD : va_D A ((w3 a cI cZ nk pa fa nc fo th tg nt tb te tk tt nu ub ue uk ut re ro fu bl go ra rc ex tc es wy) ++ ((w4 b cI cZ tw nk pa nc fo th tg nt tb4 te4 tk4 tt4 ex tc es wy ab re4 go4 be) ++ ([(ou, .inl (cJ, 1, .inr (.inl fz9_1)))]))) := hD
  refine W.widen (k := k0 + 2) (n := n0 + 12) (by omega) (by omega) ?_
  rcases hw with ⟨h_3, h_4, h_5⟩ | ⟨h_6, h_7, h_8⟩
  · skip
    replace h_3 := h_3.symm
    subst h_3
    replace h_4 := h_4.symm
    subst h_4
    have hP : va_P (dC, dI) vwCl ((w3 a cI cZ nk pa fa nc fo th tg nt tb te tk tt nu ub ue uk ut re ro fu bl go ra rc ex tc es wy) ++ ((w4 b cI cZ tw nk pa nc fo th tg nt tb4 te4 tk4 tt4 ex tc es wy ab re4 go4 be) ++ ([(ou, .inl (cJ, 1, .inr (.inl (vp_updL fz 0 ((entV T (xs (i + 1)).toNatClampNeg (xs (i + 2))).toInt64)))))]))) H := hP
    have hD : va_D A ((w3 a cI cZ nk pa fa nc fo th tg nt tb te tk tt nu ub ue uk ut re ro fu bl go ra rc ex tc es wy) ++ ((w4 b cI cZ tw nk pa nc fo th tg nt tb4 te4 tk4 tt4 ex tc es wy ab re4 go4 be) ++ ([(ou, .inl (cJ, 1, .inr (.inl (vp_updL fz 0 ((entV T (xs (i + 1)).toNatClampNeg (xs (i + 2))).toInt64)))))]))) := hD
    refine lv_istore (lv' := [(5, .int 0), (0, .ref sb), (1, .ref (a 0)), (2, .ref (b 0)), (3, .ref ou), (4, .int (nI i))]) hx hb dL_law_931 hl (by decide) rfl (fun ls hl => ?_)
    refine lv_aload_n hx hb dL_law_933 rfl (lv_at hl 3 rfl) ?_
    refine lv_aload_n hx hb dL_law_934 rfl (lv_at hl 1 rfl) ?_
    refine lv_iload hx hb dL_law_935 (lv_at hl 5 rfl) ?_
    refine lv_iconst (v := 1) hx hb dL_law_937 (by decide) ?_
    refine lv_iadd hx hb dL_law_938 ?_
    refine zz_top (y := nI (i + 1)) (nI_add _ _) ?_
    refine va_sld hx hb hX hbl hbA hS (vp_in_nI (n := i + 1) (by omega) (by omega)) dL_law_939 ?_
    refine zz_top (y := xs (i + 1)) (congrArg _ (nI_clamp (by omega))) ?_
    refine lv_aload_n hx hb dL_law_940 rfl (lv_at hl 1 rfl) ?_
    refine lv_iload hx hb dL_law_941 (lv_at hl 5 rfl) ?_
    refine lv_iconst (v := 2) hx hb dL_law_943 (by decide) ?_
    refine lv_iadd hx hb dL_law_944 ?_
    refine zz_top (y := nI (i + 2)) (nI_add _ _) ?_
    refine va_sld hx hb hX hbl hbA hS (vp_in_nI (n := i + 2) (by omega) (by omega)) dL_law_945 ?_
    refine zz_top (y := xs (i + 2)) (congrArg _ (nI_clamp (by omega))) ?_
    have hPc := hP.sub (ws' := w4 b cI cZ tw nk pa nc fo th tg nt tb4 te4 tk4 tt4 ex tc es wy ab re4 go4 be) [24, 25, 26, 27, 28, 29, 30, 31, 32, 33, 34, 35, 36] rfl
    have hDc := hD.sub (ws' := w4 b cI cZ tw nk pa nc fo th tg nt tb4 te4 tk4 tt4 ex tc es wy ab re4 go4 be) [24, 25, 26, 27, 28, 29, 30, 31, 32, 33, 34, 35, 36] (by decide) rfl
    have hFc := va_free (wc := w4 b cI cZ tw nk pa nc fo th tg nt tb4 te4 tk4 tt4 ex tc es wy ab re4 go4 be) hD hS hA [24, 25, 26, 27, 28, 29, 30, 31, 32, 33, 34, 35, 36] rfl
    refine va_calli (va_runV (As := [.int (xs (i + 1)), .int (xs (i + 2))]) (rest := []) ⟨hx, hb, hml, hown, hts⟩ (c_X4_entry l dC dI cI cZ cJ b tw nk pa nc fo th tg nt tb4 te4 tk4 tt4 ex tc es wy ab re4 go4 be (xs (i + 1)) (xs (i + 2)) T up H.size (by first | assumption | omega) (by first | assumption | omega)) (cwV 2 hts gL_law_X4_entry rfl rfl rfl (by decide +kernel) ⟨Nat.le_of_ble_eq_true rfl, Nat.le_of_ble_eq_true rfl⟩) ⟨zWr_blind, va_recv hK hPc (ci := 4) (q0 := 0) rfl rfl, zWr_at hPc hK hn (hDc.weaken (fun _ _ _ _ => trivial))⟩ rfl rfl hl.1 rfl (lv_room (Nat.le_of_ble_eq_true rfl)) dL_law_946 ⟨by show _ ≤ 601024; omega, by show _ ≤ 7293034; omega⟩) hS (fun q _ h => hFc q h) hFc (fun r_9 u_9 t H1 locs ht hvm hw hB hz1 hk1 hS => ?_)
    obtain ⟨tw9_9, rfl⟩ : ∃ z, z = u_9 := ⟨_, rfl⟩
    obtain ⟨hP1, -, hD1⟩ := hB
    rw [ht] at hP1
    obtain ⟨hP, hD⟩ := va_join (wr := (w3 a cI cZ nk pa fa nc fo th tg nt tb te tk tt nu ub ue uk ut re ro fu bl go ra rc ex tc es wy) ++ ([(ou, .inl (cJ, 1, .inr (.inl (vp_updL fz 0 ((entV T (xs (i + 1)).toNatClampNeg (xs (i + 2))).toInt64)))))])) (w1 := w4 b cI cZ tw9_9 nk pa nc fo th tg nt tb4 te4 tk4 tt4 ex tc es wy ab re4 go4 be) hP hD [24, 25, 26, 27, 28, 29, 30, 31, 32, 33, 34, 35, 36] [0, 1, 2, 3, 4, 5, 6, 7, 8, 9, 10, 11, 12, 13, 14, 15, 16, 17, 18, 19, 20, 21, 22, 23, 37] rfl rfl (by decide) (by decide) hk1 hFc hP1 hD1
    generalize H1 = H at hP hS ⊢
    have hP := hP.sub (ws' := (w3 a cI cZ nk pa fa nc fo th tg nt tb te tk tt nu ub ue uk ut re ro fu bl go ra rc ex tc es wy) ++ ((w4 b cI cZ tw9_9 nk pa nc fo th tg nt tb4 te4 tk4 tt4 ex tc es wy ab re4 go4 be) ++ ([(ou, .inl (cJ, 1, .inr (.inl (vp_updL fz 0 ((entV T (xs (i + 1)).toNatClampNeg (xs (i + 2))).toInt64)))))]))) [0, 1, 2, 3, 4, 5, 6, 7, 8, 9, 10, 11, 12, 13, 14, 15, 16, 17, 18, 19, 20, 21, 22, 23, 25, 26, 27, 28, 29, 30, 31, 32, 33, 34, 35, 36, 37, 24] rfl
    have hD := hD.sub (ws' := (w3 a cI cZ nk pa fa nc fo th tg nt tb te tk tt nu ub ue uk ut re ro fu bl go ra rc ex tc es wy) ++ ((w4 b cI cZ tw9_9 nk pa nc fo th tg nt tb4 te4 tk4 tt4 ex tc es wy ab re4 go4 be) ++ ([(ou, .inl (cJ, 1, .inr (.inl (vp_updL fz 0 ((entV T (xs (i + 1)).toNatClampNeg (xs (i + 2))).toInt64)))))]))) [0, 1, 2, 3, 4, 5, 6, 7, 8, 9, 10, 11, 12, 13, 14, 15, 16, 17, 18, 19, 20, 21, 22, 23, 25, 26, 27, 28, 29, 30, 31, 32, 33, 34, 35, 36, 37, 24] (by decide) rfl
    have hP : va_P (dC, dI) vwCl ((w3 a cI cZ nk pa fa nc fo th tg nt tb te tk tt nu ub ue uk ut re ro fu bl go ra rc ex tc es wy) ++ ((w4 b cI cZ tw9_9 nk pa nc fo th tg nt tb4 te4 tk4 tt4 ex tc es wy ab re4 go4 be) ++ ([(ou, .inl (cJ, 1, .inr (.inl (vp_updL fz 0 ((entV T (xs (i + 1)).toNatClampNeg (xs (i + 2))).toInt64)))))]))) H := hP
    have hD : va_D A ((w3 a cI cZ nk pa fa nc fo th tg nt tb te tk tt nu ub ue uk ut re ro fu bl go ra rc ex tc es wy) ++ ((w4 b cI cZ tw9_9 nk pa nc fo th tg nt tb4 te4 tk4 tt4 ex tc es wy ab re4 go4 be) ++ ([(ou, .inl (cJ, 1, .inr (.inl (vp_updL fz 0 ((entV T (xs (i + 1)).toNatClampNeg (xs (i + 2))).toInt64)))))]))) := hD
    rcases hw with ⟨h_11, h_12, h_13⟩ | ⟨h_14, h_15⟩
    · skip
      replace h_12 := h_12.symm
      subst h_12
      replace h_13 := h_13.symm
      subst h_13
      have hP : va_P (dC, dI) vwCl ((w3 a cI cZ nk pa fa nc fo th tg nt tb te tk tt nu ub ue uk ut re ro fu bl go ra rc ex tc es wy) ++ ((w4 b cI cZ 0 nk pa nc fo th tg nt tb4 te4 tk4 tt4 ex tc es wy ab re4 go4 be) ++ ([(ou, .inl (cJ, 1, .inr (.inl (vp_updL fz 0 ((entV T (xs (i + 1)).toNatClampNeg (xs (i + 2))).toInt64)))))]))) H := hP
      have hD : va_D A ((w3 a cI cZ nk pa fa nc fo th tg nt tb te tk tt nu ub ue uk ut re ro fu bl go ra rc ex tc es wy) ++ ((w4 b cI cZ 0 nk pa nc fo th tg nt tb4 te4 tk4 tt4 ex tc es wy ab re4 go4 be) ++ ([(ou, .inl (cJ, 1, .inr (.inl (vp_updL fz 0 ((entV T (xs (i + 1)).toNatClampNeg (xs (i + 2))).toInt64)))))]))) := hD
      refine lv_istore (lv' := [(6, .int (entV T (xs (i + 1)).toNatClampNeg (xs (i + 2)))), (5, .int 0), (0, .ref sb), (1, .ref (a 0)), (2, .ref (b 0)), (3, .ref ou), (4, .int (nI i))]) hx hb dL_law_949 hl (by decide) rfl (fun ls hl => ?_)
      refine lv_aload_n hx hb dL_law_951 rfl (lv_at hl 4 rfl) ?_
      have hPc := hP.sub (ws' := w4 b cI cZ 0 nk pa nc fo th tg nt tb4 te4 tk4 tt4 ex tc es wy ab re4 go4 be) [24, 25, 26, 27, 28, 29, 30, 31, 32, 33, 34, 35, 36] rfl
      refine va_calli (va_runV (As := []) (rest := []) ⟨hx, hb, hml, hown, hts⟩ (c_X4_thrown l dC dI cI cZ cJ b 0 nk pa nc fo th tg nt tb4 te4 tk4 tt4 ex tc es wy ab re4 go4 be ) (cwV 0 hts gL_law_X4_thrown rfl rfl rfl (by decide +kernel) ⟨Nat.le_of_ble_eq_true rfl, Nat.le_of_ble_eq_true rfl⟩) ⟨zPre_blind, va_recv hK hPc (ci := 4) (q0 := 0) rfl rfl, zPre_at hPc hK hn⟩ rfl rfl hl.1 rfl (lv_room (Nat.le_of_ble_eq_true rfl)) dL_law_952 ⟨by show _ ≤ 601024; omega, by show _ ≤ 7293034; omega⟩) hS (fun _ _ h => h.elim) (fun _ h => h.elim) (fun r_16 u_9 t H locs ht hvm hw hB hz1 hk1 hS => ?_)
      have hP := zkeep hP hk1
      subst hw
      refine lv_iload hx hb dL_law_955 (lv_at hl 1 rfl) ?_
      refine lv_icmp_eq (tgt := 962) hx hb dL_law_957 (by decide) (fun c_17 => ?_) (fun c_17 => ?_)
      · skip
        refine lv_iload hx hb dL_law_962 (lv_at hl 1 rfl) ?_
        refine lv_if_ne (tgt := 979) hx hb dL_law_964 (by decide) (fun c_18 => ?_) (fun c_18 => ?_)
        · exact absurd c_18 (by decide)
        · skip
          refine lv_aload_n hx hb dL_law_967 rfl (lv_at hl 5 rfl) ?_
          refine lv_iconst (v := 0) hx hb dL_law_968 (by decide) ?_
          refine va_lald hx hb hK hP 37 2 rfl rfl (vp_in_nI (n := 0) (by omega) (by decide)) dL_law_969 ?_
          refine zz_topl (y := (vp_updL fz 0 ((entV T (xs (i + 1)).toNatClampNeg (xs (i + 2))).toInt64)) 0) (rfl) ?_
          refine lv_iload hx hb dL_law_970 (lv_at hl 0 rfl) ?_
          refine lv_i2l (v := (entV T (xs (i + 1)).toNatClampNeg (xs (i + 2))).toInt64) hx hb dL_law_972 rfl ?_
          refine W.lcmp hx hb dL_law_973 ?_
          refine lv_if_eq (tgt := 979) hx hb dL_law_974 (by decide) (fun c_19 => ?_) (fun c_19 => ?_)
          · skip
            skip
            refine lv_goto (tgt := 1475) hx hb dL_law_979 (by decide) ?_
            refine W.widen (k := k0 + 100) (n := n0 + 3000) (by omega) (by omega) ?_
            exact K nk pa fa nc fo th tg nt tb te tk tt nu ub ue uk ut re ro fu bl go ra rc ex tc es wy 0 tb4 te4 tk4 tt4 ab re4 go4 be (vp_updL fz 0 ((entV T (xs (i + 1)).toNatClampNeg (xs (i + 2))).toInt64)) T up _ _ _ (by first | assumption | omega) (by first | assumption | omega) (by first | assumption | omega) hP hD hS (lv_sub hl [2, 3, 4, 5, 6] rfl)
          · exact absurd ((lg_cmp_eq _ _).mpr (by first | rfl | exact (bL_t hz9).symm | exact (bL_f hz9).symm)) c_19
      · exact absurd c_17 (by decide)
    · skip
      exact absurd (h_5.symm.trans h_14) (by decide)
  · skip
    replace h_6 := h_6.symm
    subst h_6
    replace h_8 := h_8.symm
    subst h_8
    have hP : va_P (dC, dI) vwCl ((w3 a cI cZ nk pa fa nc fo th tg nt tb te tk tt nu ub ue uk ut re ro fu bl go ra rc ex tc es wy) ++ ((w4 b cI cZ tw nk pa nc fo th tg nt tb4 te4 tk4 tt4 ex tc es wy ab re4 go4 be) ++ ([(ou, .inl (cJ, 1, .inr (.inl fz)))]))) H := hP
    have hD : va_D A ((w3 a cI cZ nk pa fa nc fo th tg nt tb te tk tt nu ub ue uk ut re ro fu bl go ra rc ex tc es wy) ++ ((w4 b cI cZ tw nk pa nc fo th tg nt tb4 te4 tk4 tt4 ex tc es wy ab re4 go4 be) ++ ([(ou, .inl (cJ, 1, .inr (.inl fz)))]))) := hD
    refine lv_istore (lv' := [(5, .int 1), (0, .ref sb), (1, .ref (a 0)), (2, .ref (b 0)), (3, .ref ou), (4, .int (nI i))]) hx hb dL_law_931 hl (by decide) rfl (fun ls hl => ?_)
    refine lv_aload_n hx hb dL_law_933 rfl (lv_at hl 3 rfl) ?_
    refine lv_aload_n hx hb dL_law_934 rfl (lv_at hl 1 rfl) ?_
    refine lv_iload hx hb dL_law_935 (lv_at hl 5 rfl) ?_
    refine lv_iconst (v := 1) hx hb dL_law_937 (by decide) ?_
    refine lv_iadd hx hb dL_law_938 ?_
    refine zz_top (y := nI (i + 1)) (nI_add _ _) ?_
    refine va_sld hx hb hX hbl hbA hS (vp_in_nI (n := i + 1) (by omega) (by omega)) dL_law_939 ?_
    refine zz_top (y := xs (i + 1)) (congrArg _ (nI_clamp (by omega))) ?_
    refine lv_aload_n hx hb dL_law_940 rfl (lv_at hl 1 rfl) ?_
    refine lv_iload hx hb dL_law_941 (lv_at hl 5 rfl) ?_
    refine lv_iconst (v := 2) hx hb dL_law_943 (by decide) ?_
    refine lv_iadd hx hb dL_law_944 ?_
    refine zz_top (y := nI (i + 2)) (nI_add _ _) ?_
    refine va_sld hx hb hX hbl hbA hS (vp_in_nI (n := i + 2) (by omega) (by omega)) dL_law_945 ?_
    refine zz_top (y := xs (i + 2)) (congrArg _ (nI_clamp (by omega))) ?_
    have hPc := hP.sub (ws' := w4 b cI cZ tw nk pa nc fo th tg nt tb4 te4 tk4 tt4 ex tc es wy ab re4 go4 be) [24, 25, 26, 27, 28, 29, 30, 31, 32, 33, 34, 35, 36] rfl
    have hDc := hD.sub (ws' := w4 b cI cZ tw nk pa nc fo th tg nt tb4 te4 tk4 tt4 ex tc es wy ab re4 go4 be) [24, 25, 26, 27, 28, 29, 30, 31, 32, 33, 34, 35, 36] (by decide) rfl
    have hFc := va_free (wc := w4 b cI cZ tw nk pa nc fo th tg nt tb4 te4 tk4 tt4 ex tc es wy ab re4 go4 be) hD hS hA [24, 25, 26, 27, 28, 29, 30, 31, 32, 33, 34, 35, 36] rfl
    refine va_calli (va_runV (As := [.int (xs (i + 1)), .int (xs (i + 2))]) (rest := []) ⟨hx, hb, hml, hown, hts⟩ (c_X4_entry l dC dI cI cZ cJ b tw nk pa nc fo th tg nt tb4 te4 tk4 tt4 ex tc es wy ab re4 go4 be (xs (i + 1)) (xs (i + 2)) T up H.size (by first | assumption | omega) (by first | assumption | omega)) (cwV 2 hts gL_law_X4_entry rfl rfl rfl (by decide +kernel) ⟨Nat.le_of_ble_eq_true rfl, Nat.le_of_ble_eq_true rfl⟩) ⟨zWr_blind, va_recv hK hPc (ci := 4) (q0 := 0) rfl rfl, zWr_at hPc hK hn (hDc.weaken (fun _ _ _ _ => trivial))⟩ rfl rfl hl.1 rfl (lv_room (Nat.le_of_ble_eq_true rfl)) dL_law_946 ⟨by show _ ≤ 601024; omega, by show _ ≤ 7293034; omega⟩) hS (fun q _ h => hFc q h) hFc (fun r_20 u_9 t H1 locs ht hvm hw hB hz1 hk1 hS => ?_)
    obtain ⟨tw9_20, rfl⟩ : ∃ z, z = u_9 := ⟨_, rfl⟩
    obtain ⟨hP1, -, hD1⟩ := hB
    rw [ht] at hP1
    obtain ⟨hP, hD⟩ := va_join (wr := (w3 a cI cZ nk pa fa nc fo th tg nt tb te tk tt nu ub ue uk ut re ro fu bl go ra rc ex tc es wy) ++ ([(ou, .inl (cJ, 1, .inr (.inl fz)))])) (w1 := w4 b cI cZ tw9_20 nk pa nc fo th tg nt tb4 te4 tk4 tt4 ex tc es wy ab re4 go4 be) hP hD [24, 25, 26, 27, 28, 29, 30, 31, 32, 33, 34, 35, 36] [0, 1, 2, 3, 4, 5, 6, 7, 8, 9, 10, 11, 12, 13, 14, 15, 16, 17, 18, 19, 20, 21, 22, 23, 37] rfl rfl (by decide) (by decide) hk1 hFc hP1 hD1
    generalize H1 = H at hP hS ⊢
    have hP := hP.sub (ws' := (w3 a cI cZ nk pa fa nc fo th tg nt tb te tk tt nu ub ue uk ut re ro fu bl go ra rc ex tc es wy) ++ ((w4 b cI cZ tw9_20 nk pa nc fo th tg nt tb4 te4 tk4 tt4 ex tc es wy ab re4 go4 be) ++ ([(ou, .inl (cJ, 1, .inr (.inl fz)))]))) [0, 1, 2, 3, 4, 5, 6, 7, 8, 9, 10, 11, 12, 13, 14, 15, 16, 17, 18, 19, 20, 21, 22, 23, 25, 26, 27, 28, 29, 30, 31, 32, 33, 34, 35, 36, 37, 24] rfl
    have hD := hD.sub (ws' := (w3 a cI cZ nk pa fa nc fo th tg nt tb te tk tt nu ub ue uk ut re ro fu bl go ra rc ex tc es wy) ++ ((w4 b cI cZ tw9_20 nk pa nc fo th tg nt tb4 te4 tk4 tt4 ex tc es wy ab re4 go4 be) ++ ([(ou, .inl (cJ, 1, .inr (.inl fz)))]))) [0, 1, 2, 3, 4, 5, 6, 7, 8, 9, 10, 11, 12, 13, 14, 15, 16, 17, 18, 19, 20, 21, 22, 23, 25, 26, 27, 28, 29, 30, 31, 32, 33, 34, 35, 36, 37, 24] (by decide) rfl
    have hP : va_P (dC, dI) vwCl ((w3 a cI cZ nk pa fa nc fo th tg nt tb te tk tt nu ub ue uk ut re ro fu bl go ra rc ex tc es wy) ++ ((w4 b cI cZ tw9_20 nk pa nc fo th tg nt tb4 te4 tk4 tt4 ex tc es wy ab re4 go4 be) ++ ([(ou, .inl (cJ, 1, .inr (.inl fz)))]))) H := hP
    have hD : va_D A ((w3 a cI cZ nk pa fa nc fo th tg nt tb te tk tt nu ub ue uk ut re ro fu bl go ra rc ex tc es wy) ++ ((w4 b cI cZ tw9_20 nk pa nc fo th tg nt tb4 te4 tk4 tt4 ex tc es wy ab re4 go4 be) ++ ([(ou, .inl (cJ, 1, .inr (.inl fz)))]))) := hD
    rcases hw with ⟨h_22, h_23, h_24⟩ | ⟨h_25, h_26⟩
    · skip
      exact absurd (h_7.symm.trans h_22) (by decide)
    · skip
      replace h_26 := h_26.symm
      subst h_26
      have hP : va_P (dC, dI) vwCl ((w3 a cI cZ nk pa fa nc fo th tg nt tb te tk tt nu ub ue uk ut re ro fu bl go ra rc ex tc es wy) ++ ((w4 b cI cZ 1 nk pa nc fo th tg nt tb4 te4 tk4 tt4 ex tc es wy ab re4 go4 be) ++ ([(ou, .inl (cJ, 1, .inr (.inl fz)))]))) H := hP
      have hD : va_D A ((w3 a cI cZ nk pa fa nc fo th tg nt tb te tk tt nu ub ue uk ut re ro fu bl go ra rc ex tc es wy) ++ ((w4 b cI cZ 1 nk pa nc fo th tg nt tb4 te4 tk4 tt4 ex tc es wy ab re4 go4 be) ++ ([(ou, .inl (cJ, 1, .inr (.inl fz)))]))) := hD
      refine lv_istore (lv' := [(6, .int r_20), (5, .int 1), (0, .ref sb), (1, .ref (a 0)), (2, .ref (b 0)), (3, .ref ou), (4, .int (nI i))]) hx hb dL_law_949 hl (by decide) rfl (fun ls hl => ?_)
      refine lv_aload_n hx hb dL_law_951 rfl (lv_at hl 4 rfl) ?_
      have hPc := hP.sub (ws' := w4 b cI cZ 1 nk pa nc fo th tg nt tb4 te4 tk4 tt4 ex tc es wy ab re4 go4 be) [24, 25, 26, 27, 28, 29, 30, 31, 32, 33, 34, 35, 36] rfl
      refine va_calli (va_runV (As := []) (rest := []) ⟨hx, hb, hml, hown, hts⟩ (c_X4_thrown l dC dI cI cZ cJ b 1 nk pa nc fo th tg nt tb4 te4 tk4 tt4 ex tc es wy ab re4 go4 be ) (cwV 0 hts gL_law_X4_thrown rfl rfl rfl (by decide +kernel) ⟨Nat.le_of_ble_eq_true rfl, Nat.le_of_ble_eq_true rfl⟩) ⟨zPre_blind, va_recv hK hPc (ci := 4) (q0 := 0) rfl rfl, zPre_at hPc hK hn⟩ rfl rfl hl.1 rfl (lv_room (Nat.le_of_ble_eq_true rfl)) dL_law_952 ⟨by show _ ≤ 601024; omega, by show _ ≤ 7293034; omega⟩) hS (fun _ _ h => h.elim) (fun _ h => h.elim) (fun r_27 u_9 t H locs ht hvm hw hB hz1 hk1 hS => ?_)
      have hP := zkeep hP hk1
      subst hw
      refine lv_iload hx hb dL_law_955 (lv_at hl 1 rfl) ?_
      refine lv_icmp_eq (tgt := 962) hx hb dL_law_957 (by decide) (fun c_28 => ?_) (fun c_28 => ?_)
      · skip
        refine lv_iload hx hb dL_law_962 (lv_at hl 1 rfl) ?_
        refine lv_if_ne (tgt := 979) hx hb dL_law_964 (by decide) (fun c_29 => ?_) (fun c_29 => ?_)
        · skip
          refine lv_goto (tgt := 1475) hx hb dL_law_979 (by decide) ?_
          refine W.widen (k := k0 + 100) (n := n0 + 3000) (by omega) (by omega) ?_
          exact K nk pa fa nc fo th tg nt tb te tk tt nu ub ue uk ut re ro fu bl go ra rc ex tc es wy 1 tb4 te4 tk4 tt4 ab re4 go4 be fz T up _ _ _ (by first | assumption | omega) (by first | assumption | omega) (by first | assumption | omega) hP hD hS (lv_sub hl [2, 3, 4, 5, 6] rfl)
        · exact absurd c_29 (by decide)
      · exact absurd c_28 (by decide)

set_option maxHeartbeats 4000000 in
set_option maxRecDepth 100000 in
theorem lk_15 {p : Program} {e : Env} {s : State} {m : MethodId} {below : List Frame} {meth : Method} {c : Code} {Q : State → Prop} (l : Launch) {sb L : Nat} {xs : Nat → Int32} (dC : Nat → ClassId) (dI : Nat → Nat → Nat) (cI cZ cJ : ClassId) (a b : Nat → Nat) (ou i k0 n0 : Nat) (hF0 : lwF p l s m c sb L xs dC dI cI cZ cJ) (hi : i + 5 ≤ L) (hk0 : k0 + 100 ≤ 601024) (hn0 : n0 + 3000 ≤ 7293034) (nk : Nat) (pa : Nat → Int32) (fa : Nat → Int32) (nc : Nat) (fo : Nat → Int32) (th : Nat → Int32) (tg : Nat → Int32) (nt : Nat) (tb : Nat → Int32) (te : Nat → Int32) (tk : Nat → Int32) (tt : Nat → Int32) (nu : Nat) (ub : Nat → Int32) (ue : Nat → Int32) (uk : Nat → Int32) (ut : Nat → Int32) (re : Nat → Int32) (ro : Nat → Int32) (fu : Nat → Int32) (bl : Nat → Int32) (go : Nat → Int32) (ra : Nat → Int32) (rc : Nat) (ex : Int32) (tc : Int32) (es : Int32) (wy : Int64) (tw : Int32) (tb4 : Nat → Int32) (te4 : Nat → Int32) (tk4 : Nat → Int32) (tt4 : Nat → Int32) (ab : Nat → Int32) (re4 : Nat → Int32) (go4 : Nat → Int32) (be : Nat → Int32) (fz : Nat → Int64) (T : Nat → Nat → Nat) (up : Nat → Nat → Bool) (hg : g3 nk fa up nt tb te tk tt T) (hg4 : g4 nk ab up nt tb4 te4 tk4 tt4 T) (hc : okC nk nc fo th tg) (H : Heap) (locs : List Loc) (ls : Array Slot) (hP : va_P (dC, dI) vwCl ((w3 a cI cZ nk pa fa nc fo th tg nt tb te tk tt nu ub ue uk ut re ro fu bl go ra rc ex tc es wy) ++ ((w4 b cI cZ tw nk pa nc fo th tg nt tb4 te4 tk4 tt4 ex tc es wy ab re4 go4 be) ++ ([(ou, .inl (cJ, 1, .inr (.inl fz)))]))) H) (hD : va_D (fun q => s.heap.size ≤ q) ((w3 a cI cZ nk pa fa nc fo th tg nt tb te tk tt nu ub ue uk ut re ro fu bl go ra rc ex tc es wy) ++ ((w4 b cI cZ tw nk pa nc fo th tg nt tb4 te4 tk4 tt4 ex tc es wy ab re4 go4 be) ++ ([(ou, .inl (cJ, 1, .inr (.inl fz)))])))) (hS : va_S (fun q => s.heap.size ≤ q) s.heap H locs) (hl : lv_has ls 9 [(0, .ref sb), (1, .ref (a 0)), (2, .ref (b 0)), (3, .ref ou), (4, .int (nI i))]) (K : ∀ (nk : Nat) (pa : Nat → Int32) (fa : Nat → Int32) (nc : Nat) (fo : Nat → Int32) (th : Nat → Int32) (tg : Nat → Int32) (nt : Nat) (tb : Nat → Int32) (te : Nat → Int32) (tk : Nat → Int32) (tt : Nat → Int32) (nu : Nat) (ub : Nat → Int32) (ue : Nat → Int32) (uk : Nat → Int32) (ut : Nat → Int32) (re : Nat → Int32) (ro : Nat → Int32) (fu : Nat → Int32) (bl : Nat → Int32) (go : Nat → Int32) (ra : Nat → Int32) (rc : Nat) (ex : Int32) (tc : Int32) (es : Int32) (wy : Int64) (tw : Int32) (tb4 : Nat → Int32) (te4 : Nat → Int32) (tk4 : Nat → Int32) (tt4 : Nat → Int32) (ab : Nat → Int32) (re4 : Nat → Int32) (go4 : Nat → Int32) (be : Nat → Int32) (fz : Nat → Int64) (T : Nat → Nat → Nat) (up : Nat → Nat → Bool) (H : Heap) (locs : List Loc) (ls : Array Slot), g3 nk fa up nt tb te tk tt T → g4 nk ab up nt tb4 te4 tk4 tt4 T → okC nk nc fo th tg → va_P (dC, dI) vwCl ((w3 a cI cZ nk pa fa nc fo th tg nt tb te tk tt nu ub ue uk ut re ro fu bl go ra rc ex tc es wy) ++ ((w4 b cI cZ tw nk pa nc fo th tg nt tb4 te4 tk4 tt4 ex tc es wy ab re4 go4 be) ++ ([(ou, .inl (cJ, 1, .inr (.inl fz)))]))) H → va_D (fun q => s.heap.size ≤ q) ((w3 a cI cZ nk pa fa nc fo th tg nt tb te tk tt nu ub ue uk ut re ro fu bl go ra rc ex tc es wy) ++ ((w4 b cI cZ tw nk pa nc fo th tg nt tb4 te4 tk4 tt4 ex tc es wy ab re4 go4 be) ++ ([(ou, .inl (cJ, 1, .inr (.inl fz)))]))) → va_S (fun q => s.heap.size ≤ q) s.heap H locs → lv_has ls 9 [(0, .ref sb), (1, .ref (a 0)), (2, .ref (b 0)), (3, .ref ou), (4, .int (nI i))] → W p l e room_1 s m #[Value.ref sb] below meth c H locs (k0 + 100) (n0 + 3000) Q (F0 m 1475 ls [])) : W p l e room_1 s m #[Value.ref sb] below meth c H locs k0 n0 Q (F0 m 982 ls []) := by
  obtain ⟨hx, hb, hml, hown, hts, hX, hbl, hL, hK, hn, hzt, hzu, hzc, hlt⟩ := id hF0
  obtain ⟨A, hAe⟩ : ∃ A : Nat → Prop, A = fun q => s.heap.size ≤ q := ⟨_, rfl⟩
  have hbA : ¬ A sb := by rw [hAe]; exact Nat.not_le.mpr hbl
  have hA : ∀ q : Nat, s.heap.size ≤ q → A q := fun q h => by rw [hAe]; exact h
  rw [← hAe] at hD hS hzu K
  refine lv_aload_n hx hb dL_law_982 rfl (lv_at hl 1 rfl) ?_
  refine lv_aload_n hx hb dL_law_983 rfl (lv_at hl 0 rfl) ?_
  refine lv_iload hx hb dL_law_984 (lv_at hl 4 rfl) ?_
  refine lv_iconst (v := 1) hx hb dL_law_986 (by decide) ?_
  refine lv_iadd hx hb dL_law_987 ?_
  refine zz_top (y := nI (i + 1)) (nI_add _ _) ?_
  refine va_sld hx hb hX hbl hbA hS (vp_in_nI (n := i + 1) (by omega) (by omega)) dL_law_988 ?_
  refine zz_top (y := xs (i + 1)) (congrArg _ (nI_clamp (by omega))) ?_
  refine lv_aload_n hx hb dL_law_989 rfl (lv_at hl 0 rfl) ?_
  refine lv_iload hx hb dL_law_990 (lv_at hl 4 rfl) ?_
  refine lv_iconst (v := 2) hx hb dL_law_992 (by decide) ?_
  refine lv_iadd hx hb dL_law_993 ?_
  refine zz_top (y := nI (i + 2)) (nI_add _ _) ?_
  refine va_sld hx hb hX hbl hbA hS (vp_in_nI (n := i + 2) (by omega) (by omega)) dL_law_994 ?_
  refine zz_top (y := xs (i + 2)) (congrArg _ (nI_clamp (by omega))) ?_
  refine lv_aload_n hx hb dL_law_995 rfl (lv_at hl 3 rfl) ?_
  have hPc := hP.sub (ws' := (w3 a cI cZ nk pa fa nc fo th tg nt tb te tk tt nu ub ue uk ut re ro fu bl go ra rc ex tc es wy) ++ ([(ou, .inl (cJ, 1, .inr (.inl fz)))])) [0, 1, 2, 3, 4, 5, 6, 7, 8, 9, 10, 11, 12, 13, 14, 15, 16, 17, 18, 19, 20, 21, 22, 23, 37] rfl
  have hDc := hD.sub (ws' := (w3 a cI cZ nk pa fa nc fo th tg nt tb te tk tt nu ub ue uk ut re ro fu bl go ra rc ex tc es wy) ++ ([(ou, .inl (cJ, 1, .inr (.inl fz)))])) [0, 1, 2, 3, 4, 5, 6, 7, 8, 9, 10, 11, 12, 13, 14, 15, 16, 17, 18, 19, 20, 21, 22, 23, 37] (by decide) rfl
  have hFc := va_free (wc := (w3 a cI cZ nk pa fa nc fo th tg nt tb te tk tt nu ub ue uk ut re ro fu bl go ra rc ex tc es wy) ++ ([(ou, .inl (cJ, 1, .inr (.inl fz)))])) hD hS hA [0, 1, 2, 3, 4, 5, 6, 7, 8, 9, 10, 11, 12, 13, 14, 15, 16, 17, 18, 19, 20, 21, 22, 23, 37] rfl
  refine va_calli (vx_runSW (As := [.ref (a 0), .int (xs (i + 1)), .int (xs (i + 2)), .ref ou]) (rest := []) ⟨hx, hb, hml, hown, hts⟩ (c_L_taker l dC dI cI cZ cJ a nk pa fa nc fo th tg nt tb te tk tt nu ub ue uk ut re ro fu bl go ra rc ex tc es wy (xs (i + 1)) (xs (i + 2)) T up ou fz H.size hlt (by first | assumption | omega) (by first | assumption | omega)) (vx_cwSW 4 hts gL_law_L_taker rfl rfl rfl (by decide +kernel) ⟨Nat.le_of_ble_eq_true rfl, Nat.le_of_ble_eq_true rfl⟩) ⟨zTl_blind, zTl_at hPc hK hn (hDc.weaken (fun _ _ _ _ => trivial)) hzt hzu hS hFc hzc⟩ rfl rfl hl.1 rfl (lv_room (Nat.le_of_ble_eq_true rfl)) dL_law_996 ⟨by show _ ≤ 601024; omega, by show _ ≤ 7293034; omega⟩) hS (fun q _ h => hFc q h) hFc (fun r_1 u_9 t H1 locs ht hvm hw hB hz1 hk1 hS => ?_)
  obtain ⟨fz9_1, rfl⟩ : ∃ z, z = u_9 := ⟨_, rfl⟩
  obtain ⟨hP1, -, hD1⟩ := hB
  rw [ht] at hP1
  obtain ⟨hP, hD⟩ := va_join (wr := w4 b cI cZ tw nk pa nc fo th tg nt tb4 te4 tk4 tt4 ex tc es wy ab re4 go4 be) (w1 := (w3 a cI cZ nk pa fa nc fo th tg nt tb te tk tt nu ub ue uk ut re ro fu bl go ra rc ex tc es wy) ++ ([(ou, .inl (cJ, 1, .inr (.inl fz9_1)))])) hP hD [0, 1, 2, 3, 4, 5, 6, 7, 8, 9, 10, 11, 12, 13, 14, 15, 16, 17, 18, 19, 20, 21, 22, 23, 37] [24, 25, 26, 27, 28, 29, 30, 31, 32, 33, 34, 35, 36] rfl rfl (by decide) (by decide) hk1 hFc hP1 hD1
  generalize H1 = H at hP hS ⊢
  have hP := hP.sub (ws' := (w3 a cI cZ nk pa fa nc fo th tg nt tb te tk tt nu ub ue uk ut re ro fu bl go ra rc ex tc es wy) ++ ((w4 b cI cZ tw nk pa nc fo th tg nt tb4 te4 tk4 tt4 ex tc es wy ab re4 go4 be) ++ ([(ou, .inl (cJ, 1, .inr (.inl fz9_1)))]))) [13, 14, 15, 16, 17, 18, 19, 20, 21, 22, 23, 24, 25, 26, 27, 28, 29, 30, 31, 32, 33, 34, 35, 36, 0, 1, 2, 3, 4, 5, 6, 7, 8, 9, 10, 11, 12, 37] rfl
  have hD := hD.sub (ws' := (w3 a cI cZ nk pa fa nc fo th tg nt tb te tk tt nu ub ue uk ut re ro fu bl go ra rc ex tc es wy) ++ ((w4 b cI cZ tw nk pa nc fo th tg nt tb4 te4 tk4 tt4 ex tc es wy ab re4 go4 be) ++ ([(ou, .inl (cJ, 1, .inr (.inl fz9_1)))]))) [13, 14, 15, 16, 17, 18, 19, 20, 21, 22, 23, 24, 25, 26, 27, 28, 29, 30, 31, 32, 33, 34, 35, 36, 0, 1, 2, 3, 4, 5, 6, 7, 8, 9, 10, 11, 12, 37] (by decide) rfl
  have hP : va_P (dC, dI) vwCl ((w3 a cI cZ nk pa fa nc fo th tg nt tb te tk tt nu ub ue uk ut re ro fu bl go ra rc ex tc es wy) ++ ((w4 b cI cZ tw nk pa nc fo th tg nt tb4 te4 tk4 tt4 ex tc es wy ab re4 go4 be) ++ ([(ou, .inl (cJ, 1, .inr (.inl fz9_1)))]))) H := hP
  have hD : va_D A ((w3 a cI cZ nk pa fa nc fo th tg nt tb te tk tt nu ub ue uk ut re ro fu bl go ra rc ex tc es wy) ++ ((w4 b cI cZ tw nk pa nc fo th tg nt tb4 te4 tk4 tt4 ex tc es wy ab re4 go4 be) ++ ([(ou, .inl (cJ, 1, .inr (.inl fz9_1)))]))) := hD
  refine W.widen (k := k0 + 2) (n := n0 + 12) (by omega) (by omega) ?_
  rcases hw with ⟨h_3, h_4, h_5⟩ | ⟨h_6, h_7, h_8⟩
  · skip
    replace h_3 := h_3.symm
    subst h_3
    replace h_4 := h_4.symm
    subst h_4
    have hP : va_P (dC, dI) vwCl ((w3 a cI cZ nk pa fa nc fo th tg nt tb te tk tt nu ub ue uk ut re ro fu bl go ra rc ex tc es wy) ++ ((w4 b cI cZ tw nk pa nc fo th tg nt tb4 te4 tk4 tt4 ex tc es wy ab re4 go4 be) ++ ([(ou, .inl (cJ, 1, .inr (.inl (vp_updL fz 0 ((tkI T nt up (xs (i + 1)).toNatClampNeg (xs (i + 2)).toNatClampNeg).toInt64)))))]))) H := hP
    have hD : va_D A ((w3 a cI cZ nk pa fa nc fo th tg nt tb te tk tt nu ub ue uk ut re ro fu bl go ra rc ex tc es wy) ++ ((w4 b cI cZ tw nk pa nc fo th tg nt tb4 te4 tk4 tt4 ex tc es wy ab re4 go4 be) ++ ([(ou, .inl (cJ, 1, .inr (.inl (vp_updL fz 0 ((tkI T nt up (xs (i + 1)).toNatClampNeg (xs (i + 2)).toNatClampNeg).toInt64)))))]))) := hD
    refine lv_istore (lv' := [(5, .int 0), (0, .ref sb), (1, .ref (a 0)), (2, .ref (b 0)), (3, .ref ou), (4, .int (nI i))]) hx hb dL_law_999 hl (by decide) rfl (fun ls hl => ?_)
    refine lv_aload_n hx hb dL_law_1001 rfl (lv_at hl 3 rfl) ?_
    refine lv_aload_n hx hb dL_law_1002 rfl (lv_at hl 1 rfl) ?_
    refine lv_iload hx hb dL_law_1003 (lv_at hl 5 rfl) ?_
    refine lv_iconst (v := 1) hx hb dL_law_1005 (by decide) ?_
    refine lv_iadd hx hb dL_law_1006 ?_
    refine zz_top (y := nI (i + 1)) (nI_add _ _) ?_
    refine va_sld hx hb hX hbl hbA hS (vp_in_nI (n := i + 1) (by omega) (by omega)) dL_law_1007 ?_
    refine zz_top (y := xs (i + 1)) (congrArg _ (nI_clamp (by omega))) ?_
    refine lv_aload_n hx hb dL_law_1008 rfl (lv_at hl 1 rfl) ?_
    refine lv_iload hx hb dL_law_1009 (lv_at hl 5 rfl) ?_
    refine lv_iconst (v := 2) hx hb dL_law_1011 (by decide) ?_
    refine lv_iadd hx hb dL_law_1012 ?_
    refine zz_top (y := nI (i + 2)) (nI_add _ _) ?_
    refine va_sld hx hb hX hbl hbA hS (vp_in_nI (n := i + 2) (by omega) (by omega)) dL_law_1013 ?_
    refine zz_top (y := xs (i + 2)) (congrArg _ (nI_clamp (by omega))) ?_
    have hPc := hP.sub (ws' := w4 b cI cZ tw nk pa nc fo th tg nt tb4 te4 tk4 tt4 ex tc es wy ab re4 go4 be) [24, 25, 26, 27, 28, 29, 30, 31, 32, 33, 34, 35, 36] rfl
    have hDc := hD.sub (ws' := w4 b cI cZ tw nk pa nc fo th tg nt tb4 te4 tk4 tt4 ex tc es wy ab re4 go4 be) [24, 25, 26, 27, 28, 29, 30, 31, 32, 33, 34, 35, 36] (by decide) rfl
    have hFc := va_free (wc := w4 b cI cZ tw nk pa nc fo th tg nt tb4 te4 tk4 tt4 ex tc es wy ab re4 go4 be) hD hS hA [24, 25, 26, 27, 28, 29, 30, 31, 32, 33, 34, 35, 36] rfl
    refine va_calli (va_runV (As := [.int (xs (i + 1)), .int (xs (i + 2))]) (rest := []) ⟨hx, hb, hml, hown, hts⟩ (c_X4_taker l dC dI cI cZ cJ b tw nk pa nc fo th tg nt tb4 te4 tk4 tt4 ex tc es wy ab re4 go4 be (xs (i + 1)) (xs (i + 2)) T up H.size (by first | assumption | omega) (by first | assumption | omega)) (cwV 2 hts gL_law_X4_taker rfl rfl rfl (by decide +kernel) ⟨Nat.le_of_ble_eq_true rfl, Nat.le_of_ble_eq_true rfl⟩) ⟨zWr_blind, va_recv hK hPc (ci := 4) (q0 := 0) rfl rfl, zWr_at hPc hK hn (hDc.weaken (fun _ _ _ _ => trivial))⟩ rfl rfl hl.1 rfl (lv_room (Nat.le_of_ble_eq_true rfl)) dL_law_1014 ⟨by show _ ≤ 601024; omega, by show _ ≤ 7293034; omega⟩) hS (fun q _ h => hFc q h) hFc (fun r_9 u_9 t H1 locs ht hvm hw hB hz1 hk1 hS => ?_)
    obtain ⟨tw9_9, rfl⟩ : ∃ z, z = u_9 := ⟨_, rfl⟩
    obtain ⟨hP1, -, hD1⟩ := hB
    rw [ht] at hP1
    obtain ⟨hP, hD⟩ := va_join (wr := (w3 a cI cZ nk pa fa nc fo th tg nt tb te tk tt nu ub ue uk ut re ro fu bl go ra rc ex tc es wy) ++ ([(ou, .inl (cJ, 1, .inr (.inl (vp_updL fz 0 ((tkI T nt up (xs (i + 1)).toNatClampNeg (xs (i + 2)).toNatClampNeg).toInt64)))))])) (w1 := w4 b cI cZ tw9_9 nk pa nc fo th tg nt tb4 te4 tk4 tt4 ex tc es wy ab re4 go4 be) hP hD [24, 25, 26, 27, 28, 29, 30, 31, 32, 33, 34, 35, 36] [0, 1, 2, 3, 4, 5, 6, 7, 8, 9, 10, 11, 12, 13, 14, 15, 16, 17, 18, 19, 20, 21, 22, 23, 37] rfl rfl (by decide) (by decide) hk1 hFc hP1 hD1
    generalize H1 = H at hP hS ⊢
    have hP := hP.sub (ws' := (w3 a cI cZ nk pa fa nc fo th tg nt tb te tk tt nu ub ue uk ut re ro fu bl go ra rc ex tc es wy) ++ ((w4 b cI cZ tw9_9 nk pa nc fo th tg nt tb4 te4 tk4 tt4 ex tc es wy ab re4 go4 be) ++ ([(ou, .inl (cJ, 1, .inr (.inl (vp_updL fz 0 ((tkI T nt up (xs (i + 1)).toNatClampNeg (xs (i + 2)).toNatClampNeg).toInt64)))))]))) [0, 1, 2, 3, 4, 5, 6, 7, 8, 9, 10, 11, 12, 13, 14, 15, 16, 17, 18, 19, 20, 21, 22, 23, 25, 26, 27, 28, 29, 30, 31, 32, 33, 34, 35, 36, 37, 24] rfl
    have hD := hD.sub (ws' := (w3 a cI cZ nk pa fa nc fo th tg nt tb te tk tt nu ub ue uk ut re ro fu bl go ra rc ex tc es wy) ++ ((w4 b cI cZ tw9_9 nk pa nc fo th tg nt tb4 te4 tk4 tt4 ex tc es wy ab re4 go4 be) ++ ([(ou, .inl (cJ, 1, .inr (.inl (vp_updL fz 0 ((tkI T nt up (xs (i + 1)).toNatClampNeg (xs (i + 2)).toNatClampNeg).toInt64)))))]))) [0, 1, 2, 3, 4, 5, 6, 7, 8, 9, 10, 11, 12, 13, 14, 15, 16, 17, 18, 19, 20, 21, 22, 23, 25, 26, 27, 28, 29, 30, 31, 32, 33, 34, 35, 36, 37, 24] (by decide) rfl
    have hP : va_P (dC, dI) vwCl ((w3 a cI cZ nk pa fa nc fo th tg nt tb te tk tt nu ub ue uk ut re ro fu bl go ra rc ex tc es wy) ++ ((w4 b cI cZ tw9_9 nk pa nc fo th tg nt tb4 te4 tk4 tt4 ex tc es wy ab re4 go4 be) ++ ([(ou, .inl (cJ, 1, .inr (.inl (vp_updL fz 0 ((tkI T nt up (xs (i + 1)).toNatClampNeg (xs (i + 2)).toNatClampNeg).toInt64)))))]))) H := hP
    have hD : va_D A ((w3 a cI cZ nk pa fa nc fo th tg nt tb te tk tt nu ub ue uk ut re ro fu bl go ra rc ex tc es wy) ++ ((w4 b cI cZ tw9_9 nk pa nc fo th tg nt tb4 te4 tk4 tt4 ex tc es wy ab re4 go4 be) ++ ([(ou, .inl (cJ, 1, .inr (.inl (vp_updL fz 0 ((tkI T nt up (xs (i + 1)).toNatClampNeg (xs (i + 2)).toNatClampNeg).toInt64)))))]))) := hD
    rcases hw with ⟨h_11, h_12, h_13⟩ | ⟨h_14, h_15⟩
    · skip
      replace h_12 := h_12.symm
      subst h_12
      replace h_13 := h_13.symm
      subst h_13
      have hP : va_P (dC, dI) vwCl ((w3 a cI cZ nk pa fa nc fo th tg nt tb te tk tt nu ub ue uk ut re ro fu bl go ra rc ex tc es wy) ++ ((w4 b cI cZ 0 nk pa nc fo th tg nt tb4 te4 tk4 tt4 ex tc es wy ab re4 go4 be) ++ ([(ou, .inl (cJ, 1, .inr (.inl (vp_updL fz 0 ((tkI T nt up (xs (i + 1)).toNatClampNeg (xs (i + 2)).toNatClampNeg).toInt64)))))]))) H := hP
      have hD : va_D A ((w3 a cI cZ nk pa fa nc fo th tg nt tb te tk tt nu ub ue uk ut re ro fu bl go ra rc ex tc es wy) ++ ((w4 b cI cZ 0 nk pa nc fo th tg nt tb4 te4 tk4 tt4 ex tc es wy ab re4 go4 be) ++ ([(ou, .inl (cJ, 1, .inr (.inl (vp_updL fz 0 ((tkI T nt up (xs (i + 1)).toNatClampNeg (xs (i + 2)).toNatClampNeg).toInt64)))))]))) := hD
      refine lv_istore (lv' := [(6, .int (tkI T nt up (xs (i + 1)).toNatClampNeg (xs (i + 2)).toNatClampNeg)), (5, .int 0), (0, .ref sb), (1, .ref (a 0)), (2, .ref (b 0)), (3, .ref ou), (4, .int (nI i))]) hx hb dL_law_1017 hl (by decide) rfl (fun ls hl => ?_)
      refine lv_aload_n hx hb dL_law_1019 rfl (lv_at hl 4 rfl) ?_
      have hPc := hP.sub (ws' := w4 b cI cZ 0 nk pa nc fo th tg nt tb4 te4 tk4 tt4 ex tc es wy ab re4 go4 be) [24, 25, 26, 27, 28, 29, 30, 31, 32, 33, 34, 35, 36] rfl
      refine va_calli (va_runV (As := []) (rest := []) ⟨hx, hb, hml, hown, hts⟩ (c_X4_thrown l dC dI cI cZ cJ b 0 nk pa nc fo th tg nt tb4 te4 tk4 tt4 ex tc es wy ab re4 go4 be ) (cwV 0 hts gL_law_X4_thrown rfl rfl rfl (by decide +kernel) ⟨Nat.le_of_ble_eq_true rfl, Nat.le_of_ble_eq_true rfl⟩) ⟨zPre_blind, va_recv hK hPc (ci := 4) (q0 := 0) rfl rfl, zPre_at hPc hK hn⟩ rfl rfl hl.1 rfl (lv_room (Nat.le_of_ble_eq_true rfl)) dL_law_1020 ⟨by show _ ≤ 601024; omega, by show _ ≤ 7293034; omega⟩) hS (fun _ _ h => h.elim) (fun _ h => h.elim) (fun r_16 u_9 t H locs ht hvm hw hB hz1 hk1 hS => ?_)
      have hP := zkeep hP hk1
      subst hw
      refine lv_iload hx hb dL_law_1023 (lv_at hl 1 rfl) ?_
      refine lv_icmp_eq (tgt := 1030) hx hb dL_law_1025 (by decide) (fun c_17 => ?_) (fun c_17 => ?_)
      · skip
        refine lv_iload hx hb dL_law_1030 (lv_at hl 1 rfl) ?_
        refine lv_if_ne (tgt := 1047) hx hb dL_law_1032 (by decide) (fun c_18 => ?_) (fun c_18 => ?_)
        · exact absurd c_18 (by decide)
        · skip
          refine lv_aload_n hx hb dL_law_1035 rfl (lv_at hl 5 rfl) ?_
          refine lv_iconst (v := 0) hx hb dL_law_1036 (by decide) ?_
          refine va_lald hx hb hK hP 37 2 rfl rfl (vp_in_nI (n := 0) (by omega) (by decide)) dL_law_1037 ?_
          refine zz_topl (y := (vp_updL fz 0 ((tkI T nt up (xs (i + 1)).toNatClampNeg (xs (i + 2)).toNatClampNeg).toInt64)) 0) (rfl) ?_
          refine lv_iload hx hb dL_law_1038 (lv_at hl 0 rfl) ?_
          refine lv_i2l (v := (tkI T nt up (xs (i + 1)).toNatClampNeg (xs (i + 2)).toNatClampNeg).toInt64) hx hb dL_law_1040 rfl ?_
          refine W.lcmp hx hb dL_law_1041 ?_
          refine lv_if_eq (tgt := 1047) hx hb dL_law_1042 (by decide) (fun c_19 => ?_) (fun c_19 => ?_)
          · skip
            skip
            refine lv_goto (tgt := 1475) hx hb dL_law_1047 (by decide) ?_
            refine W.widen (k := k0 + 100) (n := n0 + 3000) (by omega) (by omega) ?_
            exact K nk pa fa nc fo th tg nt tb te tk tt nu ub ue uk ut re ro fu bl go ra rc ex tc es wy 0 tb4 te4 tk4 tt4 ab re4 go4 be (vp_updL fz 0 ((tkI T nt up (xs (i + 1)).toNatClampNeg (xs (i + 2)).toNatClampNeg).toInt64)) T up _ _ _ (by first | assumption | omega) (by first | assumption | omega) (by first | assumption | omega) hP hD hS (lv_sub hl [2, 3, 4, 5, 6] rfl)
          · exact absurd ((lg_cmp_eq _ _).mpr (by first | rfl | exact (bL_t hz9).symm | exact (bL_f hz9).symm)) c_19
      · exact absurd c_17 (by decide)
    · skip
      exact absurd (h_5.symm.trans h_14) (by decide)
  · skip
    replace h_6 := h_6.symm
    subst h_6
    replace h_8 := h_8.symm
    subst h_8
    have hP : va_P (dC, dI) vwCl ((w3 a cI cZ nk pa fa nc fo th tg nt tb te tk tt nu ub ue uk ut re ro fu bl go ra rc ex tc es wy) ++ ((w4 b cI cZ tw nk pa nc fo th tg nt tb4 te4 tk4 tt4 ex tc es wy ab re4 go4 be) ++ ([(ou, .inl (cJ, 1, .inr (.inl fz)))]))) H := hP
    have hD : va_D A ((w3 a cI cZ nk pa fa nc fo th tg nt tb te tk tt nu ub ue uk ut re ro fu bl go ra rc ex tc es wy) ++ ((w4 b cI cZ tw nk pa nc fo th tg nt tb4 te4 tk4 tt4 ex tc es wy ab re4 go4 be) ++ ([(ou, .inl (cJ, 1, .inr (.inl fz)))]))) := hD
    refine lv_istore (lv' := [(5, .int 1), (0, .ref sb), (1, .ref (a 0)), (2, .ref (b 0)), (3, .ref ou), (4, .int (nI i))]) hx hb dL_law_999 hl (by decide) rfl (fun ls hl => ?_)
    refine lv_aload_n hx hb dL_law_1001 rfl (lv_at hl 3 rfl) ?_
    refine lv_aload_n hx hb dL_law_1002 rfl (lv_at hl 1 rfl) ?_
    refine lv_iload hx hb dL_law_1003 (lv_at hl 5 rfl) ?_
    refine lv_iconst (v := 1) hx hb dL_law_1005 (by decide) ?_
    refine lv_iadd hx hb dL_law_1006 ?_
    refine zz_top (y := nI (i + 1)) (nI_add _ _) ?_
    refine va_sld hx hb hX hbl hbA hS (vp_in_nI (n := i + 1) (by omega) (by omega)) dL_law_1007 ?_
    refine zz_top (y := xs (i + 1)) (congrArg _ (nI_clamp (by omega))) ?_
    refine lv_aload_n hx hb dL_law_1008 rfl (lv_at hl 1 rfl) ?_
    refine lv_iload hx hb dL_law_1009 (lv_at hl 5 rfl) ?_
    refine lv_iconst (v := 2) hx hb dL_law_1011 (by decide) ?_
    refine lv_iadd hx hb dL_law_1012 ?_
    refine zz_top (y := nI (i + 2)) (nI_add _ _) ?_
    refine va_sld hx hb hX hbl hbA hS (vp_in_nI (n := i + 2) (by omega) (by omega)) dL_law_1013 ?_
    refine zz_top (y := xs (i + 2)) (congrArg _ (nI_clamp (by omega))) ?_
    have hPc := hP.sub (ws' := w4 b cI cZ tw nk pa nc fo th tg nt tb4 te4 tk4 tt4 ex tc es wy ab re4 go4 be) [24, 25, 26, 27, 28, 29, 30, 31, 32, 33, 34, 35, 36] rfl
    have hDc := hD.sub (ws' := w4 b cI cZ tw nk pa nc fo th tg nt tb4 te4 tk4 tt4 ex tc es wy ab re4 go4 be) [24, 25, 26, 27, 28, 29, 30, 31, 32, 33, 34, 35, 36] (by decide) rfl
    have hFc := va_free (wc := w4 b cI cZ tw nk pa nc fo th tg nt tb4 te4 tk4 tt4 ex tc es wy ab re4 go4 be) hD hS hA [24, 25, 26, 27, 28, 29, 30, 31, 32, 33, 34, 35, 36] rfl
    refine va_calli (va_runV (As := [.int (xs (i + 1)), .int (xs (i + 2))]) (rest := []) ⟨hx, hb, hml, hown, hts⟩ (c_X4_taker l dC dI cI cZ cJ b tw nk pa nc fo th tg nt tb4 te4 tk4 tt4 ex tc es wy ab re4 go4 be (xs (i + 1)) (xs (i + 2)) T up H.size (by first | assumption | omega) (by first | assumption | omega)) (cwV 2 hts gL_law_X4_taker rfl rfl rfl (by decide +kernel) ⟨Nat.le_of_ble_eq_true rfl, Nat.le_of_ble_eq_true rfl⟩) ⟨zWr_blind, va_recv hK hPc (ci := 4) (q0 := 0) rfl rfl, zWr_at hPc hK hn (hDc.weaken (fun _ _ _ _ => trivial))⟩ rfl rfl hl.1 rfl (lv_room (Nat.le_of_ble_eq_true rfl)) dL_law_1014 ⟨by show _ ≤ 601024; omega, by show _ ≤ 7293034; omega⟩) hS (fun q _ h => hFc q h) hFc (fun r_20 u_9 t H1 locs ht hvm hw hB hz1 hk1 hS => ?_)
    obtain ⟨tw9_20, rfl⟩ : ∃ z, z = u_9 := ⟨_, rfl⟩
    obtain ⟨hP1, -, hD1⟩ := hB
    rw [ht] at hP1
    obtain ⟨hP, hD⟩ := va_join (wr := (w3 a cI cZ nk pa fa nc fo th tg nt tb te tk tt nu ub ue uk ut re ro fu bl go ra rc ex tc es wy) ++ ([(ou, .inl (cJ, 1, .inr (.inl fz)))])) (w1 := w4 b cI cZ tw9_20 nk pa nc fo th tg nt tb4 te4 tk4 tt4 ex tc es wy ab re4 go4 be) hP hD [24, 25, 26, 27, 28, 29, 30, 31, 32, 33, 34, 35, 36] [0, 1, 2, 3, 4, 5, 6, 7, 8, 9, 10, 11, 12, 13, 14, 15, 16, 17, 18, 19, 20, 21, 22, 23, 37] rfl rfl (by decide) (by decide) hk1 hFc hP1 hD1
    generalize H1 = H at hP hS ⊢
    have hP := hP.sub (ws' := (w3 a cI cZ nk pa fa nc fo th tg nt tb te tk tt nu ub ue uk ut re ro fu bl go ra rc ex tc es wy) ++ ((w4 b cI cZ tw9_20 nk pa nc fo th tg nt tb4 te4 tk4 tt4 ex tc es wy ab re4 go4 be) ++ ([(ou, .inl (cJ, 1, .inr (.inl fz)))]))) [0, 1, 2, 3, 4, 5, 6, 7, 8, 9, 10, 11, 12, 13, 14, 15, 16, 17, 18, 19, 20, 21, 22, 23, 25, 26, 27, 28, 29, 30, 31, 32, 33, 34, 35, 36, 37, 24] rfl
    have hD := hD.sub (ws' := (w3 a cI cZ nk pa fa nc fo th tg nt tb te tk tt nu ub ue uk ut re ro fu bl go ra rc ex tc es wy) ++ ((w4 b cI cZ tw9_20 nk pa nc fo th tg nt tb4 te4 tk4 tt4 ex tc es wy ab re4 go4 be) ++ ([(ou, .inl (cJ, 1, .inr (.inl fz)))]))) [0, 1, 2, 3, 4, 5, 6, 7, 8, 9, 10, 11, 12, 13, 14, 15, 16, 17, 18, 19, 20, 21, 22, 23, 25, 26, 27, 28, 29, 30, 31, 32, 33, 34, 35, 36, 37, 24] (by decide) rfl
    have hP : va_P (dC, dI) vwCl ((w3 a cI cZ nk pa fa nc fo th tg nt tb te tk tt nu ub ue uk ut re ro fu bl go ra rc ex tc es wy) ++ ((w4 b cI cZ tw9_20 nk pa nc fo th tg nt tb4 te4 tk4 tt4 ex tc es wy ab re4 go4 be) ++ ([(ou, .inl (cJ, 1, .inr (.inl fz)))]))) H := hP
    have hD : va_D A ((w3 a cI cZ nk pa fa nc fo th tg nt tb te tk tt nu ub ue uk ut re ro fu bl go ra rc ex tc es wy) ++ ((w4 b cI cZ tw9_20 nk pa nc fo th tg nt tb4 te4 tk4 tt4 ex tc es wy ab re4 go4 be) ++ ([(ou, .inl (cJ, 1, .inr (.inl fz)))]))) := hD
    rcases hw with ⟨h_22, h_23, h_24⟩ | ⟨h_25, h_26⟩
    · skip
      exact absurd (h_7.symm.trans h_22) (by decide)
    · skip
      replace h_26 := h_26.symm
      subst h_26
      have hP : va_P (dC, dI) vwCl ((w3 a cI cZ nk pa fa nc fo th tg nt tb te tk tt nu ub ue uk ut re ro fu bl go ra rc ex tc es wy) ++ ((w4 b cI cZ 1 nk pa nc fo th tg nt tb4 te4 tk4 tt4 ex tc es wy ab re4 go4 be) ++ ([(ou, .inl (cJ, 1, .inr (.inl fz)))]))) H := hP
      have hD : va_D A ((w3 a cI cZ nk pa fa nc fo th tg nt tb te tk tt nu ub ue uk ut re ro fu bl go ra rc ex tc es wy) ++ ((w4 b cI cZ 1 nk pa nc fo th tg nt tb4 te4 tk4 tt4 ex tc es wy ab re4 go4 be) ++ ([(ou, .inl (cJ, 1, .inr (.inl fz)))]))) := hD
      refine lv_istore (lv' := [(6, .int r_20), (5, .int 1), (0, .ref sb), (1, .ref (a 0)), (2, .ref (b 0)), (3, .ref ou), (4, .int (nI i))]) hx hb dL_law_1017 hl (by decide) rfl (fun ls hl => ?_)
      refine lv_aload_n hx hb dL_law_1019 rfl (lv_at hl 4 rfl) ?_
      have hPc := hP.sub (ws' := w4 b cI cZ 1 nk pa nc fo th tg nt tb4 te4 tk4 tt4 ex tc es wy ab re4 go4 be) [24, 25, 26, 27, 28, 29, 30, 31, 32, 33, 34, 35, 36] rfl
      refine va_calli (va_runV (As := []) (rest := []) ⟨hx, hb, hml, hown, hts⟩ (c_X4_thrown l dC dI cI cZ cJ b 1 nk pa nc fo th tg nt tb4 te4 tk4 tt4 ex tc es wy ab re4 go4 be ) (cwV 0 hts gL_law_X4_thrown rfl rfl rfl (by decide +kernel) ⟨Nat.le_of_ble_eq_true rfl, Nat.le_of_ble_eq_true rfl⟩) ⟨zPre_blind, va_recv hK hPc (ci := 4) (q0 := 0) rfl rfl, zPre_at hPc hK hn⟩ rfl rfl hl.1 rfl (lv_room (Nat.le_of_ble_eq_true rfl)) dL_law_1020 ⟨by show _ ≤ 601024; omega, by show _ ≤ 7293034; omega⟩) hS (fun _ _ h => h.elim) (fun _ h => h.elim) (fun r_27 u_9 t H locs ht hvm hw hB hz1 hk1 hS => ?_)
      have hP := zkeep hP hk1
      subst hw
      refine lv_iload hx hb dL_law_1023 (lv_at hl 1 rfl) ?_
      refine lv_icmp_eq (tgt := 1030) hx hb dL_law_1025 (by decide) (fun c_28 => ?_) (fun c_28 => ?_)
      · skip
        refine lv_iload hx hb dL_law_1030 (lv_at hl 1 rfl) ?_
        refine lv_if_ne (tgt := 1047) hx hb dL_law_1032 (by decide) (fun c_29 => ?_) (fun c_29 => ?_)
        · skip
          refine lv_goto (tgt := 1475) hx hb dL_law_1047 (by decide) ?_
          refine W.widen (k := k0 + 100) (n := n0 + 3000) (by omega) (by omega) ?_
          exact K nk pa fa nc fo th tg nt tb te tk tt nu ub ue uk ut re ro fu bl go ra rc ex tc es wy 1 tb4 te4 tk4 tt4 ab re4 go4 be fz T up _ _ _ (by first | assumption | omega) (by first | assumption | omega) (by first | assumption | omega) hP hD hS (lv_sub hl [2, 3, 4, 5, 6] rfl)
        · exact absurd c_29 (by decide)
      · exact absurd c_28 (by decide)

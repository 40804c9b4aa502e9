set_option maxHeartbeats 4000000 in
set_option maxRecDepth 100000 in
theorem lk_24 {p : Program} {e : Env} {s : State} {m : MethodId} {below : List Frame} {meth : Method} {c : Code} {Q : State → Prop} (l : Launch) {sb L : Nat} {xs : Nat → Int32} (dC : Nat → ClassId) (dI : Nat → Nat → Nat) (cI cZ cJ : ClassId) (a b : Nat → Nat) (ou i k0 n0 : Nat) (hF0 : lwF p l s m c sb L xs dC dI cI cZ cJ) (hi : i + 5 ≤ L) (hk0 : k0 + 100 ≤ 601024) (hn0 : n0 + 3000 ≤ 7293034) (nk : Nat) (pa : Nat → Int32) (fa : Nat → Int32) (nc : Nat) (fo : Nat → Int32) (th : Nat → Int32) (tg : Nat → Int32) (nt : Nat) (tb : Nat → Int32) (te : Nat → Int32) (tk : Nat → Int32) (tt : Nat → Int32) (nu : Nat) (ub : Nat → Int32) (ue : Nat → Int32) (uk : Nat → Int32) (ut : Nat → Int32) (re : Nat → Int32) (ro : Nat → Int32) (fu : Nat → Int32) (bl : Nat → Int32) (go : Nat → Int32) (ra : Nat → Int32) (rc : Nat) (ex : Int32) (tc : Int32) (es : Int32) (wy : Int64) (tw : Int32) (tb4 : Nat → Int32) (te4 : Nat → Int32) (tk4 : Nat → Int32) (tt4 : Nat → Int32) (ab : Nat → Int32) (re4 : Nat → Int32) (go4 : Nat → Int32) (be : Nat → Int32) (fz : Nat → Int64) (T : Nat → Nat → Nat) (up : Nat → Nat → Bool) (hg : g3 nk fa up nt tb te tk tt T) (hg4 : g4 nk ab up nt tb4 te4 tk4 tt4 T) (hc : okC nk nc fo th tg) (H : Heap) (locs : List Loc) (ls : Array Slot) (hP : va_P (dC, dI) vwCl ((w3 a cI cZ nk pa fa nc fo th tg nt tb te tk tt nu ub ue uk ut re ro fu bl go ra rc ex tc es wy) ++ ((w4 b cI cZ tw nk pa nc fo th tg nt tb4 te4 tk4 tt4 ex tc es wy ab re4 go4 be) ++ ([(ou, .inl (cJ, 1, .inr (.inl fz)))]))) H) (hD : va_D (fun q => s.heap.size ≤ q) ((w3 a cI cZ nk pa fa nc fo th tg nt tb te tk tt nu ub ue uk ut re ro fu bl go ra rc ex tc es wy) ++ ((w4 b cI cZ tw nk pa nc fo th tg nt tb4 te4 tk4 tt4 ex tc es wy ab re4 go4 be) ++ ([(ou, .inl (cJ, 1, .inr (.inl fz)))])))) (hS : va_S (fun q => s.heap.size ≤ q) s.heap H locs) (hl : lv_has ls 9 [(0, .ref sb), (1, .ref (a 0)), (2, .ref (b 0)), (3, .ref ou), (4, .int (nI i))]) (K : ∀ (nk : Nat) (pa : Nat → Int32) (fa : Nat → Int32) (nc : Nat) (fo : Nat → Int32) (th : Nat → Int32) (tg : Nat → Int32) (nt : Nat) (tb : Nat → Int32) (te : Nat → Int32) (tk : Nat → Int32) (tt : Nat → Int32) (nu : Nat) (ub : Nat → Int32) (ue : Nat → Int32) (uk : Nat → Int32) (ut : Nat → Int32) (re : Nat → Int32) (ro : Nat → Int32) (fu : Nat → Int32) (bl : Nat → Int32) (go : Nat → Int32) (ra : Nat → Int32) (rc : Nat) (ex : Int32) (tc : Int32) (es : Int32) (wy : Int64) (tw : Int32) (tb4 : Nat → Int32) (te4 : Nat → Int32) (tk4 : Nat → Int32) (tt4 : Nat → Int32) (ab : Nat → Int32) (re4 : Nat → Int32) (go4 : Nat → Int32) (be : Nat → Int32) (fz : Nat → Int64) (T : Nat → Nat → Nat) (up : Nat → Nat → Bool) (H : Heap) (locs : List Loc) (ls : Array Slot), g3 nk fa up nt tb te tk tt T → g4 nk ab up nt tb4 te4 tk4 tt4 T → okC nk nc fo th tg → va_P (dC, dI) vwCl ((w3 a cI cZ nk pa fa nc fo th tg nt tb te tk tt nu ub ue uk ut re ro fu bl go ra rc ex tc es wy) ++ ((w4 b cI cZ tw nk pa nc fo th tg nt tb4 te4 tk4 tt4 ex tc es wy ab re4 go4 be) ++ ([(ou, .inl (cJ, 1, .inr (.inl fz)))]))) H → va_D (fun q => s.heap.size ≤ q) ((w3 a cI cZ nk pa fa nc fo th tg nt tb te tk tt nu ub ue uk ut re ro fu bl go ra rc ex tc es wy) ++ ((w4 b cI cZ tw nk pa nc fo th tg nt tb4 te4 tk4 tt4 ex tc es wy ab re4 go4 be) ++ ([(ou, .inl (cJ, 1, .inr (.inl fz)))]))) → va_S (fun q => s.heap.size ≤ q) s.heap H locs → lv_has ls 9 [(0, .ref sb), (1, .ref (a 0)), (2, .ref (b 0)), (3, .ref ou), (4, .int (nI i))] → W p l e room_1 s m #[Value.ref sb] below meth c H locs (k0 + 100) (n0 + 3000) Q (F0 m 1475 ls [])) : W p l e room_1 s m #[Value.ref sb] below meth c H locs k0 n0 Q (F0 m 1282 ls []) := by
  obtain ⟨hx, hb, hml, hown, hts, hX, hbl, hL, hK, hn, hzt, hzu, hzc, hlt⟩ := id hF0
  obtain ⟨A, hAe⟩ : ∃ A : Nat → Prop, A = fun q => s.heap.size ≤ q := ⟨_, rfl⟩
  have hbA : ¬ A sb := by rw [hAe]; exact Nat.not_le.mpr hbl
  have hA : ∀ q : Nat, s.heap.size ≤ q → A q := fun q h => by rw [hAe]; exact h
  rw [← hAe] at hD hS hzu K
  refine lv_aload_n hx hb dL_law_1282 rfl (lv_at hl 1 rfl) ?_
  have hPc := hP.sub (ws' := w3 a cI cZ nk pa fa nc fo th tg nt tb te tk tt nu ub ue uk ut re ro fu bl go ra rc ex tc es wy) [0, 1, 2, 3, 4, 5, 6, 7, 8, 9, 10, 11, 12, 13, 14, 15, 16, 17, 18, 19, 20, 21, 22, 23] rfl
  have hDc := hD.sub (ws' := w3 a cI cZ nk pa fa nc fo th tg nt tb te tk tt nu ub ue uk ut re ro fu bl go ra rc ex tc es wy) [0, 1, 2, 3, 4, 5, 6, 7, 8, 9, 10, 11, 12, 13, 14, 15, 16, 17, 18, 19, 20, 21, 22, 23] (by decide) rfl
  have hFc := va_free (wc := w3 a cI cZ nk pa fa nc fo th tg nt tb te tk tt nu ub ue uk ut re ro fu bl go ra rc ex tc es wy) hD hS hA [0, 1, 2, 3, 4, 5, 6, 7, 8, 9, 10, 11, 12, 13, 14, 15, 16, 17, 18, 19, 20, 21, 22, 23] rfl
  refine va_calli (va_runV (As := []) (rest := []) ⟨hx, hb, hml, hown, hts⟩ (c_X3_improve l dC dI cI cZ cJ a nk pa fa nc fo th tg nt tb te tk tt nu ub ue uk ut re ro fu bl go ra rc ex tc es wy T up H.size (by first | assumption | omega) (by first | assumption | omega)) (cwV 0 hts gL_law_X3_improve rfl rfl rfl (by decide +kernel) ⟨Nat.le_of_ble_eq_true rfl, Nat.le_of_ble_eq_true rfl⟩) ⟨zWr_blind, va_recv hK hPc (ci := 3) (q0 := 0) rfl rfl, zWr_at hPc hK hn (hDc.weaken (fun _ _ _ _ => trivial))⟩ rfl rfl hl.1 rfl (lv_room (Nat.le_of_ble_eq_true rfl)) dL_law_1283 ⟨by show _ ≤ 601024; omega, by show _ ≤ 7293034; omega⟩) hS (fun q _ h => hFc q h) hFc (fun r_1 u_9 t H1 locs ht hvm hw hB hz1 hk1 hS => ?_)
  obtain ⟨re9_1, ro9_2, rc9_3, fu9_4, bl9_5, go9_6, nt9_7, tb9_8, te9_9, tk9_10, tt9_11, nu9_12, ub9_13, ue9_14, uk9_15, ut9_16⟩ := u_9
  dsimp only at hw hB
  obtain ⟨hP1, -, hD1⟩ := hB
  rw [ht] at hP1
  obtain ⟨hP, hD⟩ := va_join (wr := (w4 b cI cZ tw nk pa nc fo th tg nt tb4 te4 tk4 tt4 ex tc es wy ab re4 go4 be) ++ ([(ou, .inl (cJ, 1, .inr (.inl fz)))])) (w1 := w3 a cI cZ nk pa fa nc fo th tg nt9_7 tb9_8 te9_9 tk9_10 tt9_11 nu9_12 ub9_13 ue9_14 uk9_15 ut9_16 re9_1 ro9_2 fu9_4 bl9_5 go9_6 ra rc9_3 ex tc es wy) hP hD [0, 1, 2, 3, 4, 5, 6, 7, 8, 9, 10, 11, 12, 13, 14, 15, 16, 17, 18, 19, 20, 21, 22, 23] [24, 25, 26, 27, 28, 29, 30, 31, 32, 33, 34, 35, 36, 37] rfl rfl (by decide) (by decide) hk1 hFc hP1 hD1
  generalize H1 = H at hP hS ⊢
  have hP := hP.sub (ws' := (w3 a cI cZ nk pa fa nc fo th tg nt9_7 tb9_8 te9_9 tk9_10 tt9_11 nu9_12 ub9_13 ue9_14 uk9_15 ut9_16 re9_1 ro9_2 fu9_4 bl9_5 go9_6 ra rc9_3 ex tc es wy) ++ ((w4 b cI cZ tw nk pa nc fo th tg nt tb4 te4 tk4 tt4 ex tc es wy ab re4 go4 be) ++ ([(ou, .inl (cJ, 1, .inr (.inl fz)))]))) [14, 15, 16, 17, 18, 19, 20, 21, 22, 23, 24, 25, 26, 27, 28, 29, 30, 31, 32, 33, 34, 35, 36, 37, 0, 1, 2, 3, 4, 5, 6, 7, 8, 9, 10, 11, 12, 13] rfl
  have hD := hD.sub (ws' := (w3 a cI cZ nk pa fa nc fo th tg nt9_7 tb9_8 te9_9 tk9_10 tt9_11 nu9_12 ub9_13 ue9_14 uk9_15 ut9_16 re9_1 ro9_2 fu9_4 bl9_5 go9_6 ra rc9_3 ex tc es wy) ++ ((w4 b cI cZ tw nk pa nc fo th tg nt tb4 te4 tk4 tt4 ex tc es wy ab re4 go4 be) ++ ([(ou, .inl (cJ, 1, .inr (.inl fz)))]))) [14, 15, 16, 17, 18, 19, 20, 21, 22, 23, 24, 25, 26, 27, 28, 29, 30, 31, 32, 33, 34, 35, 36, 37, 0, 1, 2, 3, 4, 5, 6, 7, 8, 9, 10, 11, 12, 13] (by decide) rfl
  have hP : va_P (dC, dI) vwCl ((w3 a cI cZ nk pa fa nc fo th tg nt9_7 tb9_8 te9_9 tk9_10 tt9_11 nu9_12 ub9_13 ue9_14 uk9_15 ut9_16 re9_1 ro9_2 fu9_4 bl9_5 go9_6 ra rc9_3 ex tc es wy) ++ ((w4 b cI cZ tw nk pa nc fo th tg nt tb4 te4 tk4 tt4 ex tc es wy ab re4 go4 be) ++ ([(ou, .inl (cJ, 1, .inr (.inl fz)))]))) H := hP
  have hD : va_D A ((w3 a cI cZ nk pa fa nc fo th tg nt9_7 tb9_8 te9_9 tk9_10 tt9_11 nu9_12 ub9_13 ue9_14 uk9_15 ut9_16 re9_1 ro9_2 fu9_4 bl9_5 go9_6 ra rc9_3 ex tc es wy) ++ ((w4 b cI cZ tw nk pa nc fo th tg nt tb4 te4 tk4 tt4 ex tc es wy ab re4 go4 be) ++ ([(ou, .inl (cJ, 1, .inr (.inl fz)))]))) := hD
  obtain ⟨hw0, hw⟩ := hw
  subst hw0
  rcases hw with ⟨h_18, h_19⟩
  replace h_18 := h_18.symm
  subst h_18
  have hP : va_P (dC, dI) vwCl ((w3 a cI cZ nk pa fa nc fo th tg ((iL (rR nk nc fo th tg up) 26 ((T, nt), 0)).1.2) tb9_8 te9_9 tk9_10 tt9_11 nu9_12 ub9_13 ue9_14 uk9_15 ut9_16 re9_1 ro9_2 fu9_4 bl9_5 go9_6 ra rc9_3 ex tc es wy) ++ ((w4 b cI cZ tw nk pa nc fo th tg nt tb4 te4 tk4 tt4 ex tc es wy ab re4 go4 be) ++ ([(ou, .inl (cJ, 1, .inr (.inl fz)))]))) H := hP
  have hD : va_D A ((w3 a cI cZ nk pa fa nc fo th tg ((iL (rR nk nc fo th tg up) 26 ((T, nt), 0)).1.2) tb9_8 te9_9 tk9_10 tt9_11 nu9_12 ub9_13 ue9_14 uk9_15 ut9_16 re9_1 ro9_2 fu9_4 bl9_5 go9_6 ra rc9_3 ex tc es wy) ++ ((w4 b cI cZ tw nk pa nc fo th tg nt tb4 te4 tk4 tt4 ex tc es wy ab re4 go4 be) ++ ([(ou, .inl (cJ, 1, .inr (.inl fz)))]))) := hD
  refine lv_aload_n hx hb dL_law_1286 rfl (lv_at hl 2 rfl) ?_
  have hPc := hP.sub (ws' := w4 b cI cZ tw nk pa nc fo th tg nt tb4 te4 tk4 tt4 ex tc es wy ab re4 go4 be) [24, 25, 26, 27, 28, 29, 30, 31, 32, 33, 34, 35, 36] rfl
  have hDc := hD.sub (ws' := w4 b cI cZ tw nk pa nc fo th tg nt tb4 te4 tk4 tt4 ex tc es wy ab re4 go4 be) [24, 25, 26, 27, 28, 29, 30, 31, 32, 33, 34, 35, 36] (by decide) rfl
  have hFc := va_free (wc := w4 b cI cZ tw nk pa nc fo th tg nt tb4 te4 tk4 tt4 ex tc es wy ab re4 go4 be) hD hS hA [24, 25, 26, 27, 28, 29, 30, 31, 32, 33, 34, 35, 36] rfl
  refine va_calli (va_runV (As := []) (rest := [.int (nI ((iL (rR nk nc fo th tg up) 26 ((T, nt), 0)).2))]) ⟨hx, hb, hml, hown, hts⟩ (c_X4_improve l dC dI cI cZ cJ b tw nk pa nc fo th tg nt tb4 te4 tk4 tt4 ex tc es wy ab re4 go4 be T up H.size (by first | assumption | omega) (by first | assumption | omega)) (cwV 0 hts gL_law_X4_improve rfl rfl rfl (by decide +kernel) ⟨Nat.le_of_ble_eq_true rfl, Nat.le_of_ble_eq_true rfl⟩) ⟨zWr_blind, va_recv hK hPc (ci := 4) (q0 := 0) rfl rfl, zWr_at hPc hK hn (hDc.weaken (fun _ _ _ _ => trivial))⟩ rfl rfl hl.1 rfl (lv_room (Nat.le_of_ble_eq_true rfl)) dL_law_1287 ⟨by show _ ≤ 601024; omega, by show _ ≤ 7293034; omega⟩) hS (fun q _ h => hFc q h) hFc (fun r_20 u_9 t H1 locs ht hvm hw hB hz1 hk1 hS => ?_)
  obtain ⟨re9_20, go9_21, nt9_22, tb9_23, te9_24, tk9_25, tt9_26, be9_27⟩ := u_9
  dsimp only at hw hB
  obtain ⟨hP1, -, hD1⟩ := hB
  rw [ht] at hP1
  obtain ⟨hP, hD⟩ := va_join (wr := (w3 a cI cZ nk pa fa nc fo th tg ((iL (rR nk nc fo th tg up) 26 ((T, nt), 0)).1.2) tb9_8 te9_9 tk9_10 tt9_11 nu9_12 ub9_13 ue9_14 uk9_15 ut9_16 re9_1 ro9_2 fu9_4 bl9_5 go9_6 ra rc9_3 ex tc es wy) ++ ([(ou, .inl (cJ, 1, .inr (.inl fz)))])) (w1 := w4 b cI cZ 0 nk pa nc fo th tg nt9_22 tb9_23 te9_24 tk9_25 tt9_26 ex tc es wy ab re9_20 go9_21 be9_27) hP hD [24, 25, 26, 27, 28, 29, 30, 31, 32, 33, 34, 35, 36] [0, 1, 2, 3, 4, 5, 6, 7, 8, 9, 10, 11, 12, 13, 14, 15, 16, 17, 18, 19, 20, 21, 22, 23, 37] rfl rfl (by decide) (by decide) hk1 hFc hP1 hD1
  generalize H1 = H at hP hS ⊢
  have hP := hP.sub (ws' := (w3 a cI cZ nk pa fa nc fo th tg ((iL (rR nk nc fo th tg up) 26 ((T, nt), 0)).1.2) tb9_8 te9_9 tk9_10 tt9_11 nu9_12 ub9_13 ue9_14 uk9_15 ut9_16 re9_1 ro9_2 fu9_4 bl9_5 go9_6 ra rc9_3 ex tc es wy) ++ ((w4 b cI cZ 0 nk pa nc fo th tg nt9_22 tb9_23 te9_24 tk9_25 tt9_26 ex tc es wy ab re9_20 go9_21 be9_27) ++ ([(ou, .inl (cJ, 1, .inr (.inl fz)))]))) [0, 1, 2, 3, 4, 5, 6, 7, 8, 9, 10, 11, 12, 13, 14, 15, 16, 17, 18, 19, 20, 21, 22, 23, 25, 26, 27, 28, 29, 30, 31, 32, 33, 34, 35, 36, 37, 24] rfl
  have hD := hD.sub (ws' := (w3 a cI cZ nk pa fa nc fo th tg ((iL (rR nk nc fo th tg up) 26 ((T, nt), 0)).1.2) tb9_8 te9_9 tk9_10 tt9_11 nu9_12 ub9_13 ue9_14 uk9_15 ut9_16 re9_1 ro9_2 fu9_4 bl9_5 go9_6 ra rc9_3 ex tc es wy) ++ ((w4 b cI cZ 0 nk pa nc fo th tg nt9_22 tb9_23 te9_24 tk9_25 tt9_26 ex tc es wy ab re9_20 go9_21 be9_27) ++ ([(ou, .inl (cJ, 1, .inr (.inl fz)))]))) [0, 1, 2, 3, 4, 5, 6, 7, 8, 9, 10, 11, 12, 13, 14, 15, 16, 17, 18, 19, 20, 21, 22, 23, 25, 26, 27, 28, 29, 30, 31, 32, 33, 34, 35, 36, 37, 24] (by decide) rfl
  have hP : va_P (dC, dI) vwCl ((w3 a cI cZ nk pa fa nc fo th tg ((iL (rR nk nc fo th tg up) 26 ((T, nt), 0)).1.2) tb9_8 te9_9 tk9_10 tt9_11 nu9_12 ub9_13 ue9_14 uk9_15 ut9_16 re9_1 ro9_2 fu9_4 bl9_5 go9_6 ra rc9_3 ex tc es wy) ++ ((w4 b cI cZ 0 nk pa nc fo th tg nt9_22 tb9_23 te9_24 tk9_25 tt9_26 ex tc es wy ab re9_20 go9_21 be9_27) ++ ([(ou, .inl (cJ, 1, .inr (.inl fz)))]))) H := hP
  have hD : va_D A ((w3 a cI cZ nk pa fa nc fo th tg ((iL (rR nk nc fo th tg up) 26 ((T, nt), 0)).1.2) tb9_8 te9_9 tk9_10 tt9_11 nu9_12 ub9_13 ue9_14 uk9_15 ut9_16 re9_1 ro9_2 fu9_4 bl9_5 go9_6 ra rc9_3 ex tc es wy) ++ ((w4 b cI cZ 0 nk pa nc fo th tg nt9_22 tb9_23 te9_24 tk9_25 tt9_26 ex tc es wy ab re9_20 go9_21 be9_27) ++ ([(ou, .inl (cJ, 1, .inr (.inl fz)))]))) := hD
  refine W.widen (k := k0 + 78) (n := n0 + 1872) (by omega) (by omega) ?_
  obtain ⟨hw0, hw⟩ := hw
  subst hw0
  rcases hw with ⟨h_29, h_30⟩
  replace h_29 := h_29.symm
  subst h_29
  have hP : va_P (dC, dI) vwCl ((w3 a cI cZ nk pa fa nc fo th tg ((iL (rR nk nc fo th tg up) 26 ((T, nt), 0)).1.2) tb9_8 te9_9 tk9_10 tt9_11 nu9_12 ub9_13 ue9_14 uk9_15 ut9_16 re9_1 ro9_2 fu9_4 bl9_5 go9_6 ra rc9_3 ex tc es wy) ++ ((w4 b cI cZ 0 nk pa nc fo th tg ((iL (rR nk nc fo th tg up) 26 ((T, nt), 0)).1.2) tb9_23 te9_24 tk9_25 tt9_26 ex tc es wy ab re9_20 go9_21 be9_27) ++ ([(ou, .inl (cJ, 1, .inr (.inl fz)))]))) H := hP
  have hD : va_D A ((w3 a cI cZ nk pa fa nc fo th tg ((iL (rR nk nc fo th tg up) 26 ((T, nt), 0)).1.2) tb9_8 te9_9 tk9_10 tt9_11 nu9_12 ub9_13 ue9_14 uk9_15 ut9_16 re9_1 ro9_2 fu9_4 bl9_5 go9_6 ra rc9_3 ex tc es wy) ++ ((w4 b cI cZ 0 nk pa nc fo th tg ((iL (rR nk nc fo th tg up) 26 ((T, nt), 0)).1.2) tb9_23 te9_24 tk9_25 tt9_26 ex tc es wy ab re9_20 go9_21 be9_27) ++ ([(ou, .inl (cJ, 1, .inr (.inl fz)))]))) := hD
  refine lv_icmp_eq (tgt := 1475) hx hb dL_law_1290 (by decide) (fun c_31 => ?_) (fun c_31 => ?_)
  · skip
    skip
    refine W.widen (k := k0 + 100) (n := n0 + 3000) (by omega) (by omega) ?_
    exact K nk pa fa nc fo th tg ((iL (rR nk nc fo th tg up) 26 ((T, nt), 0)).1.2) tb9_8 te9_9 tk9_10 tt9_11 nu9_12 ub9_13 ue9_14 uk9_15 ut9_16 re9_1 ro9_2 fu9_4 bl9_5 go9_6 ra rc9_3 ex tc es wy 0 tb9_23 te9_24 tk9_25 tt9_26 ab re9_20 go9_21 be9_27 fz ((iL (rR nk nc fo th tg up) 26 ((T, nt), 0)).1.1) up _ _ _ (by first | assumption | omega) (by first | assumption | omega) (by first | assumption | omega) hP hD hS (lv_sub hl [0, 1, 2, 3, 4] rfl)
  · exact absurd rfl c_31

set_option maxHeartbeats 4000000 in
set_option maxRecDepth 100000 in
theorem lk_25 {p : Program} {e : Env} {s : State} {m : MethodId} {below : List Frame} {meth : Method} {c : Code} {Q : State → Prop} (l : Launch) {sb L : Nat} {xs : Nat → Int32} (dC : Nat → ClassId) (dI : Nat → Nat → Nat) (cI cZ cJ : ClassId) (a b : Nat → Nat) (ou i k0 n0 : Nat) (hF0 : lwF p l s m c sb L xs dC dI cI cZ cJ) (hi : i + 5 ≤ L) (hk0 : k0 + 100 ≤ 601024) (hn0 : n0 + 3000 ≤ 7293034) (nk : Nat) (pa : Nat → Int32) (fa : Nat → Int32) (nc : Nat) (fo : Nat → Int32) (th : Nat → Int32) (tg : Nat → Int32) (nt : Nat) (tb : Nat → Int32) (te : Nat → Int32) (tk : Nat → Int32) (tt : Nat → Int32) (nu : Nat) (ub : Nat → Int32) (ue : Nat → Int32) (uk : Nat → Int32) (ut : Nat → Int32) (re : Nat → Int32) (ro : Nat → Int32) (fu : Nat → Int32) (bl : Nat → Int32) (go : Nat → Int32) (ra : Nat → Int32) (rc : Nat) (ex : Int32) (tc : Int32) (es : Int32) (wy : Int64) (tw : Int32) (tb4 : Nat → Int32) (te4 : Nat → Int32) (tk4 : Nat → Int32) (tt4 : Nat → Int32) (ab : Nat → Int32) (re4 : Nat → Int32) (go4 : Nat → Int32) (be : Nat → Int32) (fz : Nat → Int64) (T : Nat → Nat → Nat) (up : Nat → Nat → Bool) (hg : g3 nk fa up nt tb te tk tt T) (hg4 : g4 nk ab up nt tb4 te4 tk4 tt4 T) (hc : okC nk nc fo th tg) (H : Heap) (locs : List Loc) (ls : Array Slot) (hP : va_P (dC, dI) vwCl ((w3 a cI cZ nk pa fa nc fo th tg nt tb te tk tt nu ub ue uk ut re ro fu bl go ra rc ex tc es wy) ++ ((w4 b cI cZ tw nk pa nc fo th tg nt tb4 te4 tk4 tt4 ex tc es wy ab re4 go4 be) ++ ([(ou, .inl (cJ, 1, .inr (.inl fz)))]))) H) (hD : va_D (fun q => s.heap.size ≤ q) ((w3 a cI cZ nk pa fa nc fo th tg nt tb te tk tt nu ub ue uk ut re ro fu bl go ra rc ex tc es wy) ++ ((w4 b cI cZ tw nk pa nc fo th tg nt tb4 te4 tk4 tt4 ex tc es wy ab re4 go4 be) ++ ([(ou, .inl (cJ, 1, .inr (.inl fz)))])))) (hS : va_S (fun q => s.heap.size ≤ q) s.heap H locs) (hl : lv_has ls 9 [(0, .ref sb), (1, .ref (a 0)), (2, .ref (b 0)), (3, .ref ou), (4, .int (nI i))]) (K : ∀ (nk : Nat) (pa : Nat → Int32) (fa : Nat → Int32) (nc : Nat) (fo : Nat → Int32) (th : Nat → Int32) (tg : Nat → Int32) (nt : Nat) (tb : Nat → Int32) (te : Nat → Int32) (tk : Nat → Int32) (tt : Nat → Int32) (nu : Nat) (ub : Nat → Int32) (ue : Nat → Int32) (uk : Nat → Int32) (ut : Nat → Int32) (re : Nat → Int32) (ro : Nat → Int32) (fu : Nat → Int32) (bl : Nat → Int32) (go : Nat → Int32) (ra : Nat → Int32) (rc : Nat) (ex : Int32) (tc : Int32) (es : Int32) (wy : Int64) (tw : Int32) (tb4 : Nat → Int32) (te4 : Nat → Int32) (tk4 : Nat → Int32) (tt4 : Nat → Int32) (ab : Nat → Int32) (re4 : Nat → Int32) (go4 : Nat → Int32) (be : Nat → Int32) (fz : Nat → Int64) (T : Nat → Nat → Nat) (up : Nat → Nat → Bool) (H : Heap) (locs : List Loc) (ls : Array Slot), g3 nk fa up nt tb te tk tt T → g4 nk ab up nt tb4 te4 tk4 tt4 T → okC nk nc fo th tg → va_P (dC, dI) vwCl ((w3 a cI cZ nk pa fa nc fo th tg nt tb te tk tt nu ub ue uk ut re ro fu bl go ra rc ex tc es wy) ++ ((w4 b cI cZ tw nk pa nc fo th tg nt tb4 te4 tk4 tt4 ex tc es wy ab re4 go4 be) ++ ([(ou, .inl (cJ, 1, .inr (.inl fz)))]))) H → va_D (fun q => s.heap.size ≤ q) ((w3 a cI cZ nk pa fa nc fo th tg nt tb te tk tt nu ub ue uk ut re ro fu bl go ra rc ex tc es wy) ++ ((w4 b cI cZ tw nk pa nc fo th tg nt tb4 te4 tk4 tt4 ex tc es wy ab re4 go4 be) ++ ([(ou, .inl (cJ, 1, .inr (.inl fz)))]))) → va_S (fun q => s.heap.size ≤ q) s.heap H locs → lv_has ls 9 [(0, .ref sb), (1, .ref (a 0)), (2, .ref (b 0)), (3, .ref ou), (4, .int (nI i))] → W p l e room_1 s m #[Value.ref sb] below meth c H locs (k0 + 100) (n0 + 3000) Q (F0 m 1475 ls [])) : W p l e room_1 s m #[Value.ref sb] below meth c H locs k0 n0 Q (F0 m 1295 ls []) := by
  obtain ⟨hx, hb, hml, hown, hts, hX, hbl, hL, hK, hn, hzt, hzu, hzc, hlt⟩ := id hF0
  obtain ⟨A, hAe⟩ : ∃ A : Nat → Prop, A = fun q => s.heap.size ≤ q := ⟨_, rfl⟩
  have hbA : ¬ A sb := by rw [hAe]; exact Nat.not_le.mpr hbl
  have hA : ∀ q : Nat, s.heap.size ≤ q → A q := fun q h => by rw [hAe]; exact h
  rw [← hAe] at hD hS hzu K
  refine lv_aload_n hx hb dL_law_1295 rfl (lv_at hl 1 rfl) ?_
  have hPc := hP.sub (ws' := w3 a cI cZ nk pa fa nc fo th tg nt tb te tk tt nu ub ue uk ut re ro fu bl go ra rc ex tc es wy) [0, 1, 2, 3, 4, 5, 6, 7, 8, 9, 10, 11, 12, 13, 14, 15, 16, 17, 18, 19, 20, 21, 22, 23] rfl
  have hDc := hD.sub (ws' := w3 a cI cZ nk pa fa nc fo th tg nt tb te tk tt nu ub ue uk ut re ro fu bl go ra rc ex tc es wy) [0, 1, 2, 3, 4, 5, 6, 7, 8, 9, 10, 11, 12, 13, 14, 15, 16, 17, 18, 19, 20, 21, 22, 23] (by decide) rfl
  have hFc := va_free (wc := w3 a cI cZ nk pa fa nc fo th tg nt tb te tk tt nu ub ue uk ut re ro fu bl go ra rc ex tc es wy) hD hS hA [0, 1, 2, 3, 4, 5, 6, 7, 8, 9, 10, 11, 12, 13, 14, 15, 16, 17, 18, 19, 20, 21, 22, 23] rfl
  refine va_calli (va_runV (As := []) (rest := []) ⟨hx, hb, hml, hown, hts⟩ (c_X3_sweep l dC dI cI cZ cJ a nk pa fa nc fo th tg nt tb te tk tt nu ub ue uk ut re ro fu bl go ra rc ex tc es wy T up H.size (by first | assumption | omega) (by first | assumption | omega)) (cwV 0 hts gL_law_X3_sweep rfl rfl rfl (by decide +kernel) ⟨Nat.le_of_ble_eq_true rfl, Nat.le_of_ble_eq_true rfl⟩) ⟨zWr_blind, va_recv hK hPc (ci := 3) (q0 := 0) rfl rfl, zWr_at hPc hK hn (hDc.weaken (fun _ _ _ _ => trivial))⟩ rfl rfl hl.1 rfl (lv_room (Nat.le_of_ble_eq_true rfl)) dL_law_1296 ⟨by show _ ≤ 601024; omega, by show _ ≤ 7293034; omega⟩) hS (fun q _ h => hFc q h) hFc (fun r_1 u_9 t H1 locs ht hvm hw hB hz1 hk1 hS => ?_)
  obtain ⟨re9_1, ro9_2, rc9_3, ra9_4, nt9_5, tb9_6, te9_7, tk9_8, tt9_9, nc9_10, fo9_11, th9_12, tg9_13⟩ := u_9
  dsimp only at hw hB
  obtain ⟨hP1, -, hD1⟩ := hB
  rw [ht] at hP1
  obtain ⟨hP, hD⟩ := va_join (wr := (w4 b cI cZ tw nk pa nc fo th tg nt tb4 te4 tk4 tt4 ex tc es wy ab re4 go4 be) ++ ([(ou, .inl (cJ, 1, .inr (.inl fz)))])) (w1 := w3 a cI cZ nk pa fa nc9_10 fo9_11 th9_12 tg9_13 nt9_5 tb9_6 te9_7 tk9_8 tt9_9 nu ub ue uk ut re9_1 ro9_2 fu bl go ra9_4 rc9_3 ex tc es wy) hP hD [0, 1, 2, 3, 4, 5, 6, 7, 8, 9, 10, 11, 12, 13, 14, 15, 16, 17, 18, 19, 20, 21, 22, 23] [24, 25, 26, 27, 28, 29, 30, 31, 32, 33, 34, 35, 36, 37] rfl rfl (by decide) (by decide) hk1 hFc hP1 hD1
  generalize H1 = H at hP hS ⊢
  have hP := hP.sub (ws' := (w3 a cI cZ nk pa fa nc9_10 fo9_11 th9_12 tg9_13 nt9_5 tb9_6 te9_7 tk9_8 tt9_9 nu ub ue uk ut re9_1 ro9_2 fu bl go ra9_4 rc9_3 ex tc es wy) ++ ((w4 b cI cZ tw nk pa nc fo th tg nt tb4 te4 tk4 tt4 ex tc es wy ab re4 go4 be) ++ ([(ou, .inl (cJ, 1, .inr (.inl fz)))]))) [14, 15, 16, 17, 18, 19, 20, 21, 22, 23, 24, 25, 26, 27, 28, 29, 30, 31, 32, 33, 34, 35, 36, 37, 0, 1, 2, 3, 4, 5, 6, 7, 8, 9, 10, 11, 12, 13] rfl
  have hD := hD.sub (ws' := (w3 a cI cZ nk pa fa nc9_10 fo9_11 th9_12 tg9_13 nt9_5 tb9_6 te9_7 tk9_8 tt9_9 nu ub ue uk ut re9_1 ro9_2 fu bl go ra9_4 rc9_3 ex tc es wy) ++ ((w4 b cI cZ tw nk pa nc fo th tg nt tb4 te4 tk4 tt4 ex tc es wy ab re4 go4 be) ++ ([(ou, .inl (cJ, 1, .inr (.inl fz)))]))) [14, 15, 16, 17, 18, 19, 20, 21, 22, 23, 24, 25, 26, 27, 28, 29, 30, 31, 32, 33, 34, 35, 36, 37, 0, 1, 2, 3, 4, 5, 6, 7, 8, 9, 10, 11, 12, 13] (by decide) rfl
  have hP : va_P (dC, dI) vwCl ((w3 a cI cZ nk pa fa nc9_10 fo9_11 th9_12 tg9_13 nt9_5 tb9_6 te9_7 tk9_8 tt9_9 nu ub ue uk ut re9_1 ro9_2 fu bl go ra9_4 rc9_3 ex tc es wy) ++ ((w4 b cI cZ tw nk pa nc fo th tg nt tb4 te4 tk4 tt4 ex tc es wy ab re4 go4 be) ++ ([(ou, .inl (cJ, 1, .inr (.inl fz)))]))) H := hP
  have hD : va_D A ((w3 a cI cZ nk pa fa nc9_10 fo9_11 th9_12 tg9_13 nt9_5 tb9_6 te9_7 tk9_8 tt9_9 nu ub ue uk ut re9_1 ro9_2 fu bl go ra9_4 rc9_3 ex tc es wy) ++ ((w4 b cI cZ tw nk pa nc fo th tg nt tb4 te4 tk4 tt4 ex tc es wy ab re4 go4 be) ++ ([(ou, .inl (cJ, 1, .inr (.inl fz)))]))) := hD
  obtain ⟨hw0, hw⟩ := hw
  subst hw0
  rcases hw with ⟨h_15, h_16, h_17, h_18⟩
  replace h_17 := h_17.symm
  subst h_17
  have hP : va_P (dC, dI) vwCl ((w3 a cI cZ nk pa fa nc9_10 fo9_11 th9_12 tg9_13 ((swT (rmN (RB nk nc fo th tg T nt up) nc) T nt).2) tb9_6 te9_7 tk9_8 tt9_9 nu ub ue uk ut re9_1 ro9_2 fu bl go ra9_4 rc9_3 ex tc es wy) ++ ((w4 b cI cZ tw nk pa nc fo th tg nt tb4 te4 tk4 tt4 ex tc es wy ab re4 go4 be) ++ ([(ou, .inl (cJ, 1, .inr (.inl fz)))]))) H := hP
  have hD : va_D A ((w3 a cI cZ nk pa fa nc9_10 fo9_11 th9_12 tg9_13 ((swT (rmN (RB nk nc fo th tg T nt up) nc) T nt).2) tb9_6 te9_7 tk9_8 tt9_9 nu ub ue uk ut re9_1 ro9_2 fu bl go ra9_4 rc9_3 ex tc es wy) ++ ((w4 b cI cZ tw nk pa nc fo th tg nt tb4 te4 tk4 tt4 ex tc es wy ab re4 go4 be) ++ ([(ou, .inl (cJ, 1, .inr (.inl fz)))]))) := hD
  refine lv_aload_n hx hb dL_law_1299 rfl (lv_at hl 2 rfl) ?_
  have hPc := hP.sub (ws' := w4 b cI cZ tw nk pa nc fo th tg nt tb4 te4 tk4 tt4 ex tc es wy ab re4 go4 be) [24, 25, 26, 27, 28, 29, 30, 31, 32, 33, 34, 35, 36] rfl
  have hDc := hD.sub (ws' := w4 b cI cZ tw nk pa nc fo th tg nt tb4 te4 tk4 tt4 ex tc es wy ab re4 go4 be) [24, 25, 26, 27, 28, 29, 30, 31, 32, 33, 34, 35, 36] (by decide) rfl
  have hFc := va_free (wc := w4 b cI cZ tw nk pa nc fo th tg nt tb4 te4 tk4 tt4 ex tc es wy ab re4 go4 be) hD hS hA [24, 25, 26, 27, 28, 29, 30, 31, 32, 33, 34, 35, 36] rfl
  refine va_calli (va_runV (As := []) (rest := [.int (nI (nc - (swC (RB nk nc fo th tg T nt up) (rmN (RB nk nc fo th tg T nt up) nc) nc fo th tg).2.2.2))]) ⟨hx, hb, hml, hown, hts⟩ (c_X4_sweep l dC dI cI cZ cJ b tw nk pa nc fo th tg nt tb4 te4 tk4 tt4 ex tc es wy ab re4 go4 be T up H.size (by first | assumption | omega) (by first | assumption | omega)) (cwV 0 hts gL_law_X4_sweep rfl rfl rfl (by decide +kernel) ⟨Nat.le_of_ble_eq_true rfl, Nat.le_of_ble_eq_true rfl⟩) ⟨zWr_blind, va_recv hK hPc (ci := 4) (q0 := 0) rfl rfl, zWr_at hPc hK hn (hDc.weaken (fun _ _ _ _ => trivial))⟩ rfl rfl hl.1 rfl (lv_room (Nat.le_of_ble_eq_true rfl)) dL_law_1300 ⟨by show _ ≤ 601024; omega, by show _ ≤ 7293034; omega⟩) hS (fun q _ h => hFc q h) hFc (fun r_19 u_9 t H1 locs ht hvm hw hB hz1 hk1 hS => ?_)
  obtain ⟨re9_19, nt9_20, tb9_21, te9_22, tk9_23, tt9_24, nc9_25, fo9_26, th9_27, tg9_28⟩ := u_9
  dsimp only at hw hB
  obtain ⟨hP1, -, hD1⟩ := hB
  rw [ht] at hP1
  obtain ⟨hP, hD⟩ := va_join (wr := (w3 a cI cZ nk pa fa nc9_10 fo9_11 th9_12 tg9_13 ((swT (rmN (RB nk nc fo th tg T nt up) nc) T nt).2) tb9_6 te9_7 tk9_8 tt9_9 nu ub ue uk ut re9_1 ro9_2 fu bl go ra9_4 rc9_3 ex tc es wy) ++ ([(ou, .inl (cJ, 1, .inr (.inl fz)))])) (w1 := w4 b cI cZ 0 nk pa nc9_25 fo9_26 th9_27 tg9_28 nt9_20 tb9_21 te9_22 tk9_23 tt9_24 ex tc es wy ab re9_19 go4 be) hP hD [24, 25, 26, 27, 28, 29, 30, 31, 32, 33, 34, 35, 36] [0, 1, 2, 3, 4, 5, 6, 7, 8, 9, 10, 11, 12, 13, 14, 15, 16, 17, 18, 19, 20, 21, 22, 23, 37] rfl rfl (by decide) (by decide) hk1 hFc hP1 hD1
  generalize H1 = H at hP hS ⊢
  have hP := hP.sub (ws' := (w3 a cI cZ nk pa fa nc9_10 fo9_11 th9_12 tg9_13 ((swT (rmN (RB nk nc fo th tg T nt up) nc) T nt).2) tb9_6 te9_7 tk9_8 tt9_9 nu ub ue uk ut re9_1 ro9_2 fu bl go ra9_4 rc9_3 ex tc es wy) ++ ((w4 b cI cZ 0 nk pa nc9_25 fo9_26 th9_27 tg9_28 nt9_20 tb9_21 te9_22 tk9_23 tt9_24 ex tc es wy ab re9_19 go4 be) ++ ([(ou, .inl (cJ, 1, .inr (.inl fz)))]))) [0, 1, 2, 3, 4, 5, 6, 7, 8, 9, 10, 11, 12, 13, 14, 15, 16, 17, 18, 19, 20, 21, 22, 23, 25, 26, 27, 28, 29, 30, 31, 32, 33, 34, 35, 36, 37, 24] rfl
  have hD := hD.sub (ws' := (w3 a cI cZ nk pa fa nc9_10 fo9_11 th9_12 tg9_13 ((swT (rmN (RB nk nc fo th tg T nt up) nc) T nt).2) tb9_6 te9_7 tk9_8 tt9_9 nu ub ue uk ut re9_1 ro9_2 fu bl go ra9_4 rc9_3 ex tc es wy) ++ ((w4 b cI cZ 0 nk pa nc9_25 fo9_26 th9_27 tg9_28 nt9_20 tb9_21 te9_22 tk9_23 tt9_24 ex tc es wy ab re9_19 go4 be) ++ ([(ou, .inl (cJ, 1, .inr (.inl fz)))]))) [0, 1, 2, 3, 4, 5, 6, 7, 8, 9, 10, 11, 12, 13, 14, 15, 16, 17, 18, 19, 20, 21, 22, 23, 25, 26, 27, 28, 29, 30, 31, 32, 33, 34, 35, 36, 37, 24] (by decide) rfl
  have hP : va_P (dC, dI) vwCl ((w3 a cI cZ nk pa fa nc9_10 fo9_11 th9_12 tg9_13 ((swT (rmN (RB nk nc fo th tg T nt up) nc) T nt).2) tb9_6 te9_7 tk9_8 tt9_9 nu ub ue uk ut re9_1 ro9_2 fu bl go ra9_4 rc9_3 ex tc es wy) ++ ((w4 b cI cZ 0 nk pa nc9_25 fo9_26 th9_27 tg9_28 nt9_20 tb9_21 te9_22 tk9_23 tt9_24 ex tc es wy ab re9_19 go4 be) ++ ([(ou, .inl (cJ, 1, .inr (.inl fz)))]))) H := hP
  have hD : va_D A ((w3 a cI cZ nk pa fa nc9_10 fo9_11 th9_12 tg9_13 ((swT (rmN (RB nk nc fo th tg T nt up) nc) T nt).2) tb9_6 te9_7 tk9_8 tt9_9 nu ub ue uk ut re9_1 ro9_2 fu bl go ra9_4 rc9_3 ex tc es wy) ++ ((w4 b cI cZ 0 nk pa nc9_25 fo9_26 th9_27 tg9_28 nt9_20 tb9_21 te9_22 tk9_23 tt9_24 ex tc es wy ab re9_19 go4 be) ++ ([(ou, .inl (cJ, 1, .inr (.inl fz)))]))) := hD
  refine W.widen (k := k0 + 1) (n := n0 + 49) (by omega) (by omega) ?_
  obtain ⟨hw0, hw⟩ := hw
  subst hw0
  rcases hw with ⟨h_30, h_31, h_32, h_33⟩
  replace h_32 := h_32.symm
  subst h_32
  have h_30_t := h_30.trans h_15.symm
  injection h_30_t with h_30_0 h_30_r0
  injection h_30_r0 with h_30_1 h_30_r1
  injection h_30_r1 with h_30_2 h_30_r2
  replace h_30_0 := h_30_0.symm
  subst h_30_0
  replace h_30_1 := h_30_1.symm
  subst h_30_1
  replace h_30_2 := h_30_2.symm
  subst h_30_2
  replace h_30_r2 := h_30_r2.symm
  subst h_30_r2
  have hP : va_P (dC, dI) vwCl ((w3 a cI cZ nk pa fa nc9_10 fo9_11 th9_12 tg9_13 ((swT (rmN (RB nk nc fo th tg T nt up) nc) T nt).2) tb9_6 te9_7 tk9_8 tt9_9 nu ub ue uk ut re9_1 ro9_2 fu bl go ra9_4 rc9_3 ex tc es wy) ++ ((w4 b cI cZ 0 nk pa nc9_10 fo9_11 th9_12 tg9_13 ((swT (rmN (RB nk nc fo th tg T nt up) nc) T nt).2) tb9_21 te9_22 tk9_23 tt9_24 ex tc es wy ab re9_19 go4 be) ++ ([(ou, .inl (cJ, 1, .inr (.inl fz)))]))) H := hP
  have hD : va_D A ((w3 a cI cZ nk pa fa nc9_10 fo9_11 th9_12 tg9_13 ((swT (rmN (RB nk nc fo th tg T nt up) nc) T nt).2) tb9_6 te9_7 tk9_8 tt9_9 nu ub ue uk ut re9_1 ro9_2 fu bl go ra9_4 rc9_3 ex tc es wy) ++ ((w4 b cI cZ 0 nk pa nc9_10 fo9_11 th9_12 tg9_13 ((swT (rmN (RB nk nc fo th tg T nt up) nc) T nt).2) tb9_21 te9_22 tk9_23 tt9_24 ex tc es wy ab re9_19 go4 be) ++ ([(ou, .inl (cJ, 1, .inr (.inl fz)))]))) := hD
  refine lv_icmp_eq (tgt := 1475) hx hb dL_law_1303 (by decide) (fun c_34 => ?_) (fun c_34 => ?_)
  · skip
    skip
    refine W.widen (k := k0 + 100) (n := n0 + 3000) (by omega) (by omega) ?_
    exact K nk pa fa nc9_10 fo9_11 th9_12 tg9_13 ((swT (rmN (RB nk nc fo th tg T nt up) nc) T nt).2) tb9_6 te9_7 tk9_8 tt9_9 nu ub ue uk ut re9_1 ro9_2 fu bl go ra9_4 rc9_3 ex tc es wy 0 tb9_21 te9_22 tk9_23 tt9_24 ab re9_19 go4 be fz ((swT (rmN (RB nk nc fo th tg T nt up) nc) T nt).1) up _ _ _ (by first | assumption | omega) (by first | assumption | omega) (by first | assumption | omega) hP hD hS (lv_sub hl [0, 1, 2, 3, 4] rfl)
  · exact absurd rfl c_34

set_option maxHeartbeats 4000000 in
set_option maxRecDepth 100000 in
theorem lk_26 {p : Program} {e : Env} {s : State} {m : MethodId} {below : List Frame} {meth : Method} {c : Code} {Q : State → Prop} (l : Launch) {sb L : Nat} {xs : Nat → Int32} (dC : Nat → ClassId) (dI : Nat → Nat → Nat) (cI cZ cJ : ClassId) (a b : Nat → Nat) (ou i k0 n0 : Nat) (hF0 : lwF p l s m c sb L xs dC dI cI cZ cJ) (hi : i + 5 ≤ L) (hk0 : k0 + 100 ≤ 601024) (hn0 : n0 + 3000 ≤ 7293034) (nk : Nat) (pa : Nat → Int32) (fa : Nat → Int32) (nc : Nat) (fo : Nat → Int32) (th : Nat → Int32) (tg : Nat → Int32) (nt : Nat) (tb : Nat → Int32) (te : Nat → Int32) (tk : Nat → Int32) (tt : Nat → Int32) (nu : Nat) (ub : Nat → Int32) (ue : Nat → Int32) (uk : Nat → Int32) (ut : Nat → Int32) (re : Nat → Int32) (ro : Nat → Int32) (fu : Nat → Int32) (bl : Nat → Int32) (go : Nat → Int32) (ra : Nat → Int32) (rc : Nat) (ex : Int32) (tc : Int32) (es : Int32) (wy : Int64) (tw : Int32) (tb4 : Nat → Int32) (te4 : Nat → Int32) (tk4 : Nat → Int32) (tt4 : Nat → Int32) (ab : Nat → Int32) (re4 : Nat → Int32) (go4 : Nat → Int32) (be : Nat → Int32) (fz : Nat → Int64) (T : Nat → Nat → Nat) (up : Nat → Nat → Bool) (hg : g3 nk fa up nt tb te tk tt T) (hg4 : g4 nk ab up nt tb4 te4 tk4 tt4 T) (hc : okC nk nc fo th tg) (H : Heap) (locs : List Loc) (ls : Array Slot) (hP : va_P (dC, dI) vwCl ((w3 a cI cZ nk pa fa nc fo th tg nt tb te tk tt nu ub ue uk ut re ro fu bl go ra rc ex tc es wy) ++ ((w4 b cI cZ tw nk pa nc fo th tg nt tb4 te4 tk4 tt4 ex tc es wy ab re4 go4 be) ++ ([(ou, .inl (cJ, 1, .inr (.inl fz)))]))) H) (hD : va_D (fun q => s.heap.size ≤ q) ((w3 a cI cZ nk pa fa nc fo th tg nt tb te tk tt nu ub ue uk ut re ro fu bl go ra rc ex tc es wy) ++ ((w4 b cI cZ tw nk pa nc fo th tg nt tb4 te4 tk4 tt4 ex tc es wy ab re4 go4 be) ++ ([(ou, .inl (cJ, 1, .inr (.inl fz)))])))) (hS : va_S (fun q => s.heap.size ≤ q) s.heap H locs) (hl : lv_has ls 9 [(0, .ref sb), (1, .ref (a 0)), (2, .ref (b 0)), (3, .ref ou), (4, .int (nI i))]) (K : ∀ (nk : Nat) (pa : Nat → Int32) (fa : Nat → Int32) (nc : Nat) (fo : Nat → Int32) (th : Nat → Int32) (tg : Nat → Int32) (nt : Nat) (tb : Nat → Int32) (te : Nat → Int32) (tk : Nat → Int32) (tt : Nat → Int32) (nu : Nat) (ub : Nat → Int32) (ue : Nat → Int32) (uk : Nat → Int32) (ut : Nat → Int32) (re : Nat → Int32) (ro : Nat → Int32) (fu : Nat → Int32) (bl : Nat → Int32) (go : Nat → Int32) (ra : Nat → Int32) (rc : Nat) (ex : Int32) (tc : Int32) (es : Int32) (wy : Int64) (tw : Int32) (tb4 : Nat → Int32) (te4 : Nat → Int32) (tk4 : Nat → Int32) (tt4 : Nat → Int32) (ab : Nat → Int32) (re4 : Nat → Int32) (go4 : Nat → Int32) (be : Nat → Int32) (fz : Nat → Int64) (T : Nat → Nat → Nat) (up : Nat → Nat → Bool) (H : Heap) (locs : List Loc) (ls : Array Slot), g3 nk fa up nt tb te tk tt T → g4 nk ab up nt tb4 te4 tk4 tt4 T → okC nk nc fo th tg → va_P (dC, dI) vwCl ((w3 a cI cZ nk pa fa nc fo th tg nt tb te tk tt nu ub ue uk ut re ro fu bl go ra rc ex tc es wy) ++ ((w4 b cI cZ tw nk pa nc fo th tg nt tb4 te4 tk4 tt4 ex tc es wy ab re4 go4 be) ++ ([(ou, .inl (cJ, 1, .inr (.inl fz)))]))) H → va_D (fun q => s.heap.size ≤ q) ((w3 a cI cZ nk pa fa nc fo th tg nt tb te tk tt nu ub ue uk ut re ro fu bl go ra rc ex tc es wy) ++ ((w4 b cI cZ tw nk pa nc fo th tg nt tb4 te4 tk4 tt4 ex tc es wy ab re4 go4 be) ++ ([(ou, .inl (cJ, 1, .inr (.inl fz)))]))) → va_S (fun q => s.heap.size ≤ q) s.heap H locs → lv_has ls 9 [(0, .ref sb), (1, .ref (a 0)), (2, .ref (b 0)), (3, .ref ou), (4, .int (nI i))] → W p l e room_1 s m #[Value.ref sb] below meth c H locs (k0 + 100) (n0 + 3000) Q (F0 m 1475 ls [])) : W p l e room_1 s m #[Value.ref sb] below meth c H locs k0 n0 Q (F0 m 1308 ls []) := by
  obtain ⟨hx, hb, hml, hown, hts, hX, hbl, hL, hK, hn, hzt, hzu, hzc, hlt⟩ := id hF0
  obtain ⟨A, hAe⟩ : ∃ A : Nat → Prop, A = fun q => s.heap.size ≤ q := ⟨_, rfl⟩
  have hbA : ¬ A sb := by rw [hAe]; exact Nat.not_le.mpr hbl
  have hA : ∀ q : Nat, s.heap.size ≤ q → A q := fun q h => by rw [hAe]; exact h
  rw [← hAe] at hD hS hzu K
  refine lv_aload_n hx hb dL_law_1308 rfl (lv_at hl 1 rfl) ?_
  refine lv_aload_n hx hb dL_law_1309 rfl (lv_at hl 0 rfl) ?_
  refine lv_iload hx hb dL_law_1310 (lv_at hl 4 rfl) ?_
  refine lv_iconst (v := 1) hx hb dL_law_1312 (by decide) ?_
  refine lv_iadd hx hb dL_law_1313 ?_
  refine zz_top (y := nI (i + 1)) (nI_add _ _) ?_
  refine va_sld hx hb hX hbl hbA hS (vp_in_nI (n := i + 1) (by omega) (by omega)) dL_law_1314 ?_
  refine zz_top (y := xs (i + 1)) (congrArg _ (nI_clamp (by omega))) ?_
  refine lv_i2l (v := (xs (i + 1)).toInt64) hx hb dL_law_1315 rfl ?_
  refine lv_bipush (v := 32) hx hb dL_law_1316 (by decide) ?_
  refine lv_lshl (v := ((xs (i + 1)).toInt64) <<< ((32 : Int32).toInt64 &&& 63)) hx hb dL_law_1318 rfl ?_
  refine lv_aload_n hx hb dL_law_1319 rfl (lv_at hl 0 rfl) ?_
  refine lv_iload hx hb dL_law_1320 (lv_at hl 4 rfl) ?_
  refine lv_iconst (v := 2) hx hb dL_law_1322 (by decide) ?_
  refine lv_iadd hx hb dL_law_1323 ?_
  refine zz_top (y := nI (i + 2)) (nI_add _ _) ?_
  refine va_sld hx hb hX hbl hbA hS (vp_in_nI (n := i + 2) (by omega) (by omega)) dL_law_1324 ?_
  refine zz_top (y := xs (i + 2)) (congrArg _ (nI_clamp (by omega))) ?_
  refine lv_i2l (v := (xs (i + 2)).toInt64) hx hb dL_law_1325 rfl ?_
  refine lv_ldc2 (own := RL) (v := 4294967295) hx hb hown (hts (.constantLong RL 173 4294967295) (by decide +kernel)) dL_law_1326 ?_
  refine lv_land hx hb dL_law_1329 ?_
  refine lv_lor hx hb dL_law_1330 ?_
  refine lv_aload_n hx hb dL_law_1331 rfl (lv_at hl 0 rfl) ?_
  refine lv_iload hx hb dL_law_1332 (lv_at hl 4 rfl) ?_
  refine lv_iconst (v := 3) hx hb dL_law_1334 (by decide) ?_
  refine lv_iadd hx hb dL_law_1335 ?_
  refine zz_top (y := nI (i + 3)) (nI_add _ _) ?_
  refine va_sld hx hb hX hbl hbA hS (vp_in_nI (n := i + 3) (by omega) (by omega)) dL_law_1336 ?_
  refine zz_top (y := xs (i + 3)) (congrArg _ (nI_clamp (by omega))) ?_
  refine lv_aload_n hx hb dL_law_1337 rfl (lv_at hl 3 rfl) ?_
  have hPc := hP.sub (ws' := (w3 a cI cZ nk pa fa nc fo th tg nt tb te tk tt nu ub ue uk ut re ro fu bl go ra rc ex tc es wy) ++ ([(ou, .inl (cJ, 1, .inr (.inl fz)))])) [0, 1, 2, 3, 4, 5, 6, 7, 8, 9, 10, 11, 12, 13, 14, 15, 16, 17, 18, 19, 20, 21, 22, 23, 37] rfl
  have hDc := hD.sub (ws' := (w3 a cI cZ nk pa fa nc fo th tg nt tb te tk tt nu ub ue uk ut re ro fu bl go ra rc ex tc es wy) ++ ([(ou, .inl (cJ, 1, .inr (.inl fz)))])) [0, 1, 2, 3, 4, 5, 6, 7, 8, 9, 10, 11, 12, 13, 14, 15, 16, 17, 18, 19, 20, 21, 22, 23, 37] (by decide) rfl
  have hFc := va_free (wc := (w3 a cI cZ nk pa fa nc fo th tg nt tb te tk tt nu ub ue uk ut re ro fu bl go ra rc ex tc es wy) ++ ([(ou, .inl (cJ, 1, .inr (.inl fz)))])) hD hS hA [0, 1, 2, 3, 4, 5, 6, 7, 8, 9, 10, 11, 12, 13, 14, 15, 16, 17, 18, 19, 20, 21, 22, 23, 37] rfl
  refine va_calli (vx_runSW (As := [.ref (a 0), .long ((((xs (i + 1)).toInt64) <<< ((32 : Int32).toInt64 &&& 63)) ||| (((xs (i + 2)).toInt64) &&& 4294967295)), .int (xs (i + 3)), .ref ou]) (rest := []) ⟨hx, hb, hml, hown, hts⟩ (c_L_run l dC dI cI cZ cJ a nk pa fa nc fo th tg nt tb te tk tt nu ub ue uk ut re ro fu bl go ra rc ex tc es wy ((((xs (i + 1)).toInt64) <<< ((32 : Int32).toInt64 &&& 63)) ||| (((xs (i + 2)).toInt64) &&& 4294967295)) (xs (i + 3)) T up ou fz H.size hlt (by first | assumption | omega) (by first | assumption | omega)) (vx_cwSW 4 hts gL_law_L_run rfl rfl rfl (by decide +kernel) ⟨Nat.le_of_ble_eq_true rfl, Nat.le_of_ble_eq_true rfl⟩) ⟨zTl_blind, zTl_at hPc hK hn (hDc.weaken (fun _ _ _ _ => trivial)) hzt hzu hS hFc hzc⟩ rfl rfl hl.1 rfl (lv_room (Nat.le_of_ble_eq_true rfl)) dL_law_1338 ⟨by show _ ≤ 601024; omega, by show _ ≤ 7293034; omega⟩) hS (fun q _ h => hFc q h) hFc (fun r_1 u_9 t H1 locs ht hvm hw hB hz1 hk1 hS => ?_)
  obtain ⟨v_o_1, v_o_2, v_o_3, v_o_4, fz9_5⟩ := u_9
  dsimp only at hw hB
  obtain ⟨hP1, -, hD1⟩ := hB
  rw [ht] at hP1
  obtain ⟨hP, hD⟩ := va_join (wr := w4 b cI cZ tw nk pa nc fo th tg nt tb4 te4 tk4 tt4 ex tc es wy ab re4 go4 be) (w1 := (w3 a cI cZ nk pa fa nc fo th tg nt tb te tk tt nu ub ue uk ut re ro fu bl go ra rc v_o_1 v_o_2 v_o_3 v_o_4) ++ ([(ou, .inl (cJ, 1, .inr (.inl fz9_5)))])) hP hD [0, 1, 2, 3, 4, 5, 6, 7, 8, 9, 10, 11, 12, 13, 14, 15, 16, 17, 18, 19, 20, 21, 22, 23, 37] [24, 25, 26, 27, 28, 29, 30, 31, 32, 33, 34, 35, 36] rfl rfl (by decide) (by decide) hk1 hFc hP1 hD1
  generalize H1 = H at hP hS ⊢
  have hP := hP.sub (ws' := (w3 a cI cZ nk pa fa nc fo th tg nt tb te tk tt nu ub ue uk ut re ro fu bl go ra rc v_o_1 v_o_2 v_o_3 v_o_4) ++ ((w4 b cI cZ tw nk pa nc fo th tg nt tb4 te4 tk4 tt4 ex tc es wy ab re4 go4 be) ++ ([(ou, .inl (cJ, 1, .inr (.inl fz9_5)))]))) [13, 14, 15, 16, 17, 18, 19, 20, 21, 22, 23, 24, 25, 26, 27, 28, 29, 30, 31, 32, 33, 34, 35, 36, 0, 1, 2, 3, 4, 5, 6, 7, 8, 9, 10, 11, 12, 37] rfl
  have hD := hD.sub (ws' := (w3 a cI cZ nk pa fa nc fo th tg nt tb te tk tt nu ub ue uk ut re ro fu bl go ra rc v_o_1 v_o_2 v_o_3 v_o_4) ++ ((w4 b cI cZ tw nk pa nc fo th tg nt tb4 te4 tk4 tt4 ex tc es wy ab re4 go4 be) ++ ([(ou, .inl (cJ, 1, .inr (.inl fz9_5)))]))) [13, 14, 15, 16, 17, 18, 19, 20, 21, 22, 23, 24, 25, 26, 27, 28, 29, 30, 31, 32, 33, 34, 35, 36, 0, 1, 2, 3, 4, 5, 6, 7, 8, 9, 10, 11, 12, 37] (by decide) rfl
  have hP : va_P (dC, dI) vwCl ((w3 a cI cZ nk pa fa nc fo th tg nt tb te tk tt nu ub ue uk ut re ro fu bl go ra rc v_o_1 v_o_2 v_o_3 v_o_4) ++ ((w4 b cI cZ tw nk pa nc fo th tg nt tb4 te4 tk4 tt4 ex tc es wy ab re4 go4 be) ++ ([(ou, .inl (cJ, 1, .inr (.inl fz9_5)))]))) H := hP
  have hD : va_D A ((w3 a cI cZ nk pa fa nc fo th tg nt tb te tk tt nu ub ue uk ut re ro fu bl go ra rc v_o_1 v_o_2 v_o_3 v_o_4) ++ ((w4 b cI cZ tw nk pa nc fo th tg nt tb4 te4 tk4 tt4 ex tc es wy ab re4 go4 be) ++ ([(ou, .inl (cJ, 1, .inr (.inl fz9_5)))]))) := hD
  refine W.widen (k := k0 + 1) (n := n0 + 6) (by omega) (by omega) ?_
  rcases hw with ⟨x_7, x_8, x_9, x_10, ⟨h_11, h_12, h_13, h_14, h_15, h_16, ⟨h_17, h_18, h_19⟩⟩⟩ | ⟨h_20, h_21, h_22, h_23, h_24, h_25, h_26⟩
  · skip
    replace h_11 := h_11.symm
    subst h_11
    replace h_12 := h_12.symm
    subst h_12
    replace h_13 := h_13.symm
    subst h_13
    replace h_14 := h_14.symm
    subst h_14
    replace h_15 := h_15.symm
    subst h_15
    replace h_16 := h_16.symm
    subst h_16
    replace h_18 := h_18.symm
    subst h_18
    have hP : va_P (dC, dI) vwCl ((w3 a cI cZ nk pa fa nc fo th tg nt tb te tk tt nu ub ue uk ut re ro fu bl go ra rc (nI (rnS nc (stS fo th tg nk T nt up) (xs (i + 3)).toNatClampNeg ((0, ((((xs (i + 1)).toInt64) <<< ((32 : Int32).toInt64 &&& 63)) ||| (((xs (i + 2)).toInt64) &&& 4294967295)).toInt.toNat, 0, 0, -1, 7) : RS)).2.2.1) x_8 x_9 x_10) ++ ((w4 b cI cZ tw nk pa nc fo th tg nt tb4 te4 tk4 tt4 ex tc es wy ab re4 go4 be) ++ ([(ou, .inl (cJ, 1, .inr (.inl (vp_updL fz 0 ((ouS nc (rnS nc (stS fo th tg nk T nt up) (xs (i + 3)).toNatClampNeg ((0, ((((xs (i + 1)).toInt64) <<< ((32 : Int32).toInt64 &&& 63)) ||| (((xs (i + 2)).toInt64) &&& 4294967295)).toInt.toNat, 0, 0, -1, 7) : RS))).toInt64)))))]))) H := hP
    have hD : va_D A ((w3 a cI cZ nk pa fa nc fo th tg nt tb te tk tt nu ub ue uk ut re ro fu bl go ra rc (nI (rnS nc (stS fo th tg nk T nt up) (xs (i + 3)).toNatClampNeg ((0, ((((xs (i + 1)).toInt64) <<< ((32 : Int32).toInt64 &&& 63)) ||| (((xs (i + 2)).toInt64) &&& 4294967295)).toInt.toNat, 0, 0, -1, 7) : RS)).2.2.1) x_8 x_9 x_10) ++ ((w4 b cI cZ tw nk pa nc fo th tg nt tb4 te4 tk4 tt4 ex tc es wy ab re4 go4 be) ++ ([(ou, .inl (cJ, 1, .inr (.inl (vp_updL fz 0 ((ouS nc (rnS nc (stS fo th tg nk T nt up) (xs (i + 3)).toNatClampNeg ((0, ((((xs (i + 1)).toInt64) <<< ((32 : Int32).toInt64 &&& 63)) ||| (((xs (i + 2)).toInt64) &&& 4294967295)).toInt.toNat, 0, 0, -1, 7) : RS))).toInt64)))))]))) := hD
    refine lv_istore (lv' := [(5, .int 0), (0, .ref sb), (1, .ref (a 0)), (2, .ref (b 0)), (3, .ref ou), (4, .int (nI i))]) hx hb dL_law_1341 hl (by decide) rfl (fun ls hl => ?_)
    refine lv_aload_n hx hb dL_law_1343 rfl (lv_at hl 3 rfl) ?_
    refine lv_aload_n hx hb dL_law_1344 rfl (lv_at hl 1 rfl) ?_
    refine lv_iload hx hb dL_law_1345 (lv_at hl 5 rfl) ?_
    refine lv_iconst (v := 1) hx hb dL_law_1347 (by decide) ?_
    refine lv_iadd hx hb dL_law_1348 ?_
    refine zz_top (y := nI (i + 1)) (nI_add _ _) ?_
    refine va_sld hx hb hX hbl hbA hS (vp_in_nI (n := i + 1) (by omega) (by omega)) dL_law_1349 ?_
    refine zz_top (y := xs (i + 1)) (congrArg _ (nI_clamp (by omega))) ?_
    refine lv_i2l (v := (xs (i + 1)).toInt64) hx hb dL_law_1350 rfl ?_
    refine lv_bipush (v := 32) hx hb dL_law_1351 (by decide) ?_
    refine lv_lshl (v := ((xs (i + 1)).toInt64) <<< ((32 : Int32).toInt64 &&& 63)) hx hb dL_law_1353 rfl ?_
    refine lv_aload_n hx hb dL_law_1354 rfl (lv_at hl 1 rfl) ?_
    refine lv_iload hx hb dL_law_1355 (lv_at hl 5 rfl) ?_
    refine lv_iconst (v := 2) hx hb dL_law_1357 (by decide) ?_
    refine lv_iadd hx hb dL_law_1358 ?_
    refine zz_top (y := nI (i + 2)) (nI_add _ _) ?_
    refine va_sld hx hb hX hbl hbA hS (vp_in_nI (n := i + 2) (by omega) (by omega)) dL_law_1359 ?_
    refine zz_top (y := xs (i + 2)) (congrArg _ (nI_clamp (by omega))) ?_
    refine lv_i2l (v := (xs (i + 2)).toInt64) hx hb dL_law_1360 rfl ?_
    refine lv_ldc2 (own := RL) (v := 4294967295) hx hb hown (hts (.constantLong RL 173 4294967295) (by decide +kernel)) dL_law_1361 ?_
    refine lv_land hx hb dL_law_1364 ?_
    refine lv_lor hx hb dL_law_1365 ?_
    refine lv_aload_n hx hb dL_law_1366 rfl (lv_at hl 1 rfl) ?_
    refine lv_iload hx hb dL_law_1367 (lv_at hl 5 rfl) ?_
    refine lv_iconst (v := 3) hx hb dL_law_1369 (by decide) ?_
    refine lv_iadd hx hb dL_law_1370 ?_
    refine zz_top (y := nI (i + 3)) (nI_add _ _) ?_
    refine va_sld hx hb hX hbl hbA hS (vp_in_nI (n := i + 3) (by omega) (by omega)) dL_law_1371 ?_
    refine zz_top (y := xs (i + 3)) (congrArg _ (nI_clamp (by omega))) ?_
    have hPc := hP.sub (ws' := w4 b cI cZ tw nk pa nc fo th tg nt tb4 te4 tk4 tt4 ex tc es wy ab re4 go4 be) [24, 25, 26, 27, 28, 29, 30, 31, 32, 33, 34, 35, 36] rfl
    have hDc := hD.sub (ws' := w4 b cI cZ tw nk pa nc fo th tg nt tb4 te4 tk4 tt4 ex tc es wy ab re4 go4 be) [24, 25, 26, 27, 28, 29, 30, 31, 32, 33, 34, 35, 36] (by decide) rfl
    have hFc := va_free (wc := w4 b cI cZ tw nk pa nc fo th tg nt tb4 te4 tk4 tt4 ex tc es wy ab re4 go4 be) hD hS hA [24, 25, 26, 27, 28, 29, 30, 31, 32, 33, 34, 35, 36] rfl
    refine va_calli (va_runV (As := [.long ((((xs (i + 1)).toInt64) <<< ((32 : Int32).toInt64 &&& 63)) ||| (((xs (i + 2)).toInt64) &&& 4294967295)), .int (xs (i + 3))]) (rest := []) ⟨hx, hb, hml, hown, hts⟩ (c_X4_run l dC dI cI cZ cJ b tw nk pa nc fo th tg nt tb4 te4 tk4 tt4 ex tc es wy ab re4 go4 be ((((xs (i + 1)).toInt64) <<< ((32 : Int32).toInt64 &&& 63)) ||| (((xs (i + 2)).toInt64) &&& 4294967295)) (xs (i + 3)) T up H.size (by first | assumption | omega) (by first | assumption | omega)) (cwV 2 hts gL_law_X4_run rfl rfl rfl (by decide +kernel) ⟨Nat.le_of_ble_eq_true rfl, Nat.le_of_ble_eq_true rfl⟩) ⟨zWr_blind, va_recv hK hPc (ci := 4) (q0 := 0) rfl rfl, zWr_at hPc hK hn (hDc.weaken (fun _ _ _ _ => trivial))⟩ rfl rfl hl.1 rfl (lv_room (Nat.le_of_ble_eq_true rfl)) dL_law_1372 ⟨by show _ ≤ 601024; omega, by show _ ≤ 7293034; omega⟩) hS (fun q _ h => hFc q h) hFc (fun r_27 u_9 t H1 locs ht hvm hw hB hz1 hk1 hS => ?_)
    obtain ⟨tw9_27, ex9_28, tc9_29, es9_30, wy9_31⟩ := u_9
    dsimp only at hw hB
    obtain ⟨hP1, -, hD1⟩ := hB
    rw [ht] at hP1
    obtain ⟨hP, hD⟩ := va_join (wr := (w3 a cI cZ nk pa fa nc fo th tg nt tb te tk tt nu ub ue uk ut re ro fu bl go ra rc (nI (rnS nc (stS fo th tg nk T nt up) (xs (i + 3)).toNatClampNeg ((0, ((((xs (i + 1)).toInt64) <<< ((32 : Int32).toInt64 &&& 63)) ||| (((xs (i + 2)).toInt64) &&& 4294967295)).toInt.toNat, 0, 0, -1, 7) : RS)).2.2.1) x_8 x_9 x_10) ++ ([(ou, .inl (cJ, 1, .inr (.inl (vp_updL fz 0 ((ouS nc (rnS nc (stS fo th tg nk T nt up) (xs (i + 3)).toNatClampNeg ((0, ((((xs (i + 1)).toInt64) <<< ((32 : Int32).toInt64 &&& 63)) ||| (((xs (i + 2)).toInt64) &&& 4294967295)).toInt.toNat, 0, 0, -1, 7) : RS))).toInt64)))))])) (w1 := w4 b cI cZ tw9_27 nk pa nc fo th tg nt tb4 te4 tk4 tt4 ex9_28 tc9_29 es9_30 wy9_31 ab re4 go4 be) hP hD [24, 25, 26, 27, 28, 29, 30, 31, 32, 33, 34, 35, 36] [0, 1, 2, 3, 4, 5, 6, 7, 8, 9, 10, 11, 12, 13, 14, 15, 16, 17, 18, 19, 20, 21, 22, 23, 37] rfl rfl (by decide) (by decide) hk1 hFc hP1 hD1
    generalize H1 = H at hP hS ⊢
    have hP := hP.sub (ws' := (w3 a cI cZ nk pa fa nc fo th tg nt tb te tk tt nu ub ue uk ut re ro fu bl go ra rc (nI (rnS nc (stS fo th tg nk T nt up) (xs (i + 3)).toNatClampNeg ((0, ((((xs (i + 1)).toInt64) <<< ((32 : Int32).toInt64 &&& 63)) ||| (((xs (i + 2)).toInt64) &&& 4294967295)).toInt.toNat, 0, 0, -1, 7) : RS)).2.2.1) x_8 x_9 x_10) ++ ((w4 b cI cZ tw9_27 nk pa nc fo th tg nt tb4 te4 tk4 tt4 ex9_28 tc9_29 es9_30 wy9_31 ab re4 go4 be) ++ ([(ou, .inl (cJ, 1, .inr (.inl (vp_updL fz 0 ((ouS nc (rnS nc (stS fo th tg nk T nt up) (xs (i + 3)).toNatClampNeg ((0, ((((xs (i + 1)).toInt64) <<< ((32 : Int32).toInt64 &&& 63)) ||| (((xs (i + 2)).toInt64) &&& 4294967295)).toInt.toNat, 0, 0, -1, 7) : RS))).toInt64)))))]))) [0, 1, 2, 3, 4, 5, 6, 7, 8, 9, 10, 11, 12, 13, 14, 15, 16, 17, 18, 19, 20, 21, 22, 23, 25, 26, 27, 28, 29, 30, 31, 32, 33, 34, 35, 36, 37, 24] rfl
    have hD := hD.sub (ws' := (w3 a cI cZ nk pa fa nc fo th tg nt tb te tk tt nu ub ue uk ut re ro fu bl go ra rc (nI (rnS nc (stS fo th tg nk T nt up) (xs (i + 3)).toNatClampNeg ((0, ((((xs (i + 1)).toInt64) <<< ((32 : Int32).toInt64 &&& 63)) ||| (((xs (i + 2)).toInt64) &&& 4294967295)).toInt.toNat, 0, 0, -1, 7) : RS)).2.2.1) x_8 x_9 x_10) ++ ((w4 b cI cZ tw9_27 nk pa nc fo th tg nt tb4 te4 tk4 tt4 ex9_28 tc9_29 es9_30 wy9_31 ab re4 go4 be) ++ ([(ou, .inl (cJ, 1, .inr (.inl (vp_updL fz 0 ((ouS nc (rnS nc (stS fo th tg nk T nt up) (xs (i + 3)).toNatClampNeg ((0, ((((xs (i + 1)).toInt64) <<< ((32 : Int32).toInt64 &&& 63)) ||| (((xs (i + 2)).toInt64) &&& 4294967295)).toInt.toNat, 0, 0, -1, 7) : RS))).toInt64)))))]))) [0, 1, 2, 3, 4, 5, 6, 7, 8, 9, 10, 11, 12, 13, 14, 15, 16, 17, 18, 19, 20, 21, 22, 23, 25, 26, 27, 28, 29, 30, 31, 32, 33, 34, 35, 36, 37, 24] (by decide) rfl
    have hP : va_P (dC, dI) vwCl ((w3 a cI cZ nk pa fa nc fo th tg nt tb te tk tt nu ub ue uk ut re ro fu bl go ra rc (nI (rnS nc (stS fo th tg nk T nt up) (xs (i + 3)).toNatClampNeg ((0, ((((xs (i + 1)).toInt64) <<< ((32 : Int32).toInt64 &&& 63)) ||| (((xs (i + 2)).toInt64) &&& 4294967295)).toInt.toNat, 0, 0, -1, 7) : RS)).2.2.1) x_8 x_9 x_10) ++ ((w4 b cI cZ tw9_27 nk pa nc fo th tg nt tb4 te4 tk4 tt4 ex9_28 tc9_29 es9_30 wy9_31 ab re4 go4 be) ++ ([(ou, .inl (cJ, 1, .inr (.inl (vp_updL fz 0 ((ouS nc (rnS nc (stS fo th tg nk T nt up) (xs (i + 3)).toNatClampNeg ((0, ((((xs (i + 1)).toInt64) <<< ((32 : Int32).toInt64 &&& 63)) ||| (((xs (i + 2)).toInt64) &&& 4294967295)).toInt.toNat, 0, 0, -1, 7) : RS))).toInt64)))))]))) H := hP
    have hD : va_D A ((w3 a cI cZ nk pa fa nc fo th tg nt tb te tk tt nu ub ue uk ut re ro fu bl go ra rc (nI (rnS nc (stS fo th tg nk T nt up) (xs (i + 3)).toNatClampNeg ((0, ((((xs (i + 1)).toInt64) <<< ((32 : Int32).toInt64 &&& 63)) ||| (((xs (i + 2)).toInt64) &&& 4294967295)).toInt.toNat, 0, 0, -1, 7) : RS)).2.2.1) x_8 x_9 x_10) ++ ((w4 b cI cZ tw9_27 nk pa nc fo th tg nt tb4 te4 tk4 tt4 ex9_28 tc9_29 es9_30 wy9_31 ab re4 go4 be) ++ ([(ou, .inl (cJ, 1, .inr (.inl (vp_updL fz 0 ((ouS nc (rnS nc (stS fo th tg nk T nt up) (xs (i + 3)).toNatClampNeg ((0, ((((xs (i + 1)).toInt64) <<< ((32 : Int32).toInt64 &&& 63)) ||| (((xs (i + 2)).toInt64) &&& 4294967295)).toInt.toNat, 0, 0, -1, 7) : RS))).toInt64)))))]))) := hD
    rcases hw with ⟨h_33, h_34, h_35, h_36, h_37, h_38⟩ | ⟨h_39, h_40, h_41, h_42, h_43⟩
    · skip
      exact absurd (h_17.symm.trans h_33) (by decide)
    · skip
      replace h_40 := h_40.symm
      subst h_40
      replace h_41 := h_41.symm
      subst h_41
      replace h_42 := h_42.symm
      subst h_42
      have h_43_t := h_43.trans h_19.symm
      injection h_43_t with h_43_0 h_43_r0
      injection h_43_r0 with h_43_1 h_43_r1
      replace h_43_0 := h_43_0.symm
      subst h_43_0
      replace h_43_1 := h_43_1.symm
      subst h_43_1
      replace h_43_r1 := h_43_r1.symm
      subst h_43_r1
      have hP : va_P (dC, dI) vwCl ((w3 a cI cZ nk pa fa nc fo th tg nt tb te tk tt nu ub ue uk ut re ro fu bl go ra rc (nI (rnS nc (stS fo th tg nk T nt up) (xs (i + 3)).toNatClampNeg ((0, ((((xs (i + 1)).toInt64) <<< ((32 : Int32).toInt64 &&& 63)) ||| (((xs (i + 2)).toInt64) &&& 4294967295)).toInt.toNat, 0, 0, -1, 7) : RS)).2.2.1) x_8 x_9 x_10) ++ ((w4 b cI cZ 0 nk pa nc fo th tg nt tb4 te4 tk4 tt4 (nI (rnS nc (stS fo th tg nk T nt up) (xs (i + 3)).toNatClampNeg ((0, ((((xs (i + 1)).toInt64) <<< ((32 : Int32).toInt64 &&& 63)) ||| (((xs (i + 2)).toInt64) &&& 4294967295)).toInt.toNat, 0, 0, -1, 7) : RS)).2.2.1) x_8 x_9 x_10 ab re4 go4 be) ++ ([(ou, .inl (cJ, 1, .inr (.inl (vp_updL fz 0 ((ouS nc (rnS nc (stS fo th tg nk T nt up) (xs (i + 3)).toNatClampNeg ((0, ((((xs (i + 1)).toInt64) <<< ((32 : Int32).toInt64 &&& 63)) ||| (((xs (i + 2)).toInt64) &&& 4294967295)).toInt.toNat, 0, 0, -1, 7) : RS))).toInt64)))))]))) H := hP
      have hD : va_D A ((w3 a cI cZ nk pa fa nc fo th tg nt tb te tk tt nu ub ue uk ut re ro fu bl go ra rc (nI (rnS nc (stS fo th tg nk T nt up) (xs (i + 3)).toNatClampNeg ((0, ((((xs (i + 1)).toInt64) <<< ((32 : Int32).toInt64 &&& 63)) ||| (((xs (i + 2)).toInt64) &&& 4294967295)).toInt.toNat, 0, 0, -1, 7) : RS)).2.2.1) x_8 x_9 x_10) ++ ((w4 b cI cZ 0 nk pa nc fo th tg nt tb4 te4 tk4 tt4 (nI (rnS nc (stS fo th tg nk T nt up) (xs (i + 3)).toNatClampNeg ((0, ((((xs (i + 1)).toInt64) <<< ((32 : Int32).toInt64 &&& 63)) ||| (((xs (i + 2)).toInt64) &&& 4294967295)).toInt.toNat, 0, 0, -1, 7) : RS)).2.2.1) x_8 x_9 x_10 ab re4 go4 be) ++ ([(ou, .inl (cJ, 1, .inr (.inl (vp_updL fz 0 ((ouS nc (rnS nc (stS fo th tg nk T nt up) (xs (i + 3)).toNatClampNeg ((0, ((((xs (i + 1)).toInt64) <<< ((32 : Int32).toInt64 &&& 63)) ||| (((xs (i + 2)).toInt64) &&& 4294967295)).toInt.toNat, 0, 0, -1, 7) : RS))).toInt64)))))]))) := hD
      refine lv_istore (lv' := [(6, .int (ouS nc (rnS nc (stS fo th tg nk T nt up) (xs (i + 3)).toNatClampNeg ((0, ((((xs (i + 1)).toInt64) <<< ((32 : Int32).toInt64 &&& 63)) ||| (((xs (i + 2)).toInt64) &&& 4294967295)).toInt.toNat, 0, 0, -1, 7) : RS)))), (5, .int 0), (0, .ref sb), (1, .ref (a 0)), (2, .ref (b 0)), (3, .ref ou), (4, .int (nI i))]) hx hb dL_law_1375 hl (by decide) rfl (fun ls hl => ?_)
      refine lv_aload_n hx hb dL_law_1377 rfl (lv_at hl 4 rfl) ?_
      have hPc := hP.sub (ws' := w4 b cI cZ 0 nk pa nc fo th tg nt tb4 te4 tk4 tt4 (nI (rnS nc (stS fo th tg nk T nt up) (xs (i + 3)).toNatClampNeg ((0, ((((xs (i + 1)).toInt64) <<< ((32 : Int32).toInt64 &&& 63)) ||| (((xs (i + 2)).toInt64) &&& 4294967295)).toInt.toNat, 0, 0, -1, 7) : RS)).2.2.1) x_8 x_9 x_10 ab re4 go4 be) [24, 25, 26, 27, 28, 29, 30, 31, 32, 33, 34, 35, 36] rfl
      refine va_calli (va_runV (As := []) (rest := []) ⟨hx, hb, hml, hown, hts⟩ (c_X4_thrown l dC dI cI cZ cJ b 0 nk pa nc fo th tg nt tb4 te4 tk4 tt4 (nI (rnS nc (stS fo th tg nk T nt up) (xs (i + 3)).toNatClampNeg ((0, ((((xs (i + 1)).toInt64) <<< ((32 : Int32).toInt64 &&& 63)) ||| (((xs (i + 2)).toInt64) &&& 4294967295)).toInt.toNat, 0, 0, -1, 7) : RS)).2.2.1) x_8 x_9 x_10 ab re4 go4 be ) (cwV 0 hts gL_law_X4_thrown rfl rfl rfl (by decide +kernel) ⟨Nat.le_of_ble_eq_true rfl, Nat.le_of_ble_eq_true rfl⟩) ⟨zPre_blind, va_recv hK hPc (ci := 4) (q0 := 0) rfl rfl, zPre_at hPc hK hn⟩ rfl rfl hl.1 rfl (lv_room (Nat.le_of_ble_eq_true rfl)) dL_law_1378 ⟨by show _ ≤ 601024; omega, by show _ ≤ 7293034; omega⟩) hS (fun _ _ h => h.elim) (fun _ h => h.elim) (fun r_44 u_9 t H locs ht hvm hw hB hz1 hk1 hS => ?_)
      have hP := zkeep hP hk1
      subst hw
      refine lv_iload hx hb dL_law_1381 (lv_at hl 1 rfl) ?_
      refine lv_icmp_eq (tgt := 1388) hx hb dL_law_1383 (by decide) (fun c_45 => ?_) (fun c_45 => ?_)
      · skip
        refine lv_iload hx hb dL_law_1388 (lv_at hl 1 rfl) ?_
        refine lv_if_ne (tgt := 1405) hx hb dL_law_1390 (by decide) (fun c_46 => ?_) (fun c_46 => ?_)
        · exact absurd c_46 (by decide)
        · skip
          refine lv_aload_n hx hb dL_law_1393 rfl (lv_at hl 5 rfl) ?_
          refine lv_iconst (v := 0) hx hb dL_law_1394 (by decide) ?_
          refine va_lald hx hb hK hP 37 2 rfl rfl (vp_in_nI (n := 0) (by omega) (by decide)) dL_law_1395 ?_
          refine zz_topl (y := (vp_updL fz 0 ((ouS nc (rnS nc (stS fo th tg nk T nt up) (xs (i + 3)).toNatClampNeg ((0, ((((xs (i + 1)).toInt64) <<< ((32 : Int32).toInt64 &&& 63)) ||| (((xs (i + 2)).toInt64) &&& 4294967295)).toInt.toNat, 0, 0, -1, 7) : RS))).toInt64)) 0) (rfl) ?_
          refine lv_iload hx hb dL_law_1396 (lv_at hl 0 rfl) ?_
          refine lv_i2l (v := (ouS nc (rnS nc (stS fo th tg nk T nt up) (xs (i + 3)).toNatClampNeg ((0, ((((xs (i + 1)).toInt64) <<< ((32 : Int32).toInt64 &&& 63)) ||| (((xs (i + 2)).toInt64) &&& 4294967295)).toInt.toNat, 0, 0, -1, 7) : RS))).toInt64) hx hb dL_law_1398 rfl ?_
          refine W.lcmp hx hb dL_law_1399 ?_
          refine lv_if_eq (tgt := 1405) hx hb dL_law_1400 (by decide) (fun c_47 => ?_) (fun c_47 => ?_)
          · skip
            skip
            refine lv_goto (tgt := 1475) hx hb dL_law_1405 (by decide) ?_
            refine W.widen (k := k0 + 100) (n := n0 + 3000) (by omega) (by omega) ?_
            exact K nk pa fa nc fo th tg nt tb te tk tt nu ub ue uk ut re ro fu bl go ra rc (nI (rnS nc (stS fo th tg nk T nt up) (xs (i + 3)).toNatClampNeg ((0, ((((xs (i + 1)).toInt64) <<< ((32 : Int32).toInt64 &&& 63)) ||| (((xs (i + 2)).toInt64) &&& 4294967295)).toInt.toNat, 0, 0, -1, 7) : RS)).2.2.1) x_8 x_9 x_10 0 tb4 te4 tk4 tt4 ab re4 go4 be (vp_updL fz 0 ((ouS nc (rnS nc (stS fo th tg nk T nt up) (xs (i + 3)).toNatClampNeg ((0, ((((xs (i + 1)).toInt64) <<< ((32 : Int32).toInt64 &&& 63)) ||| (((xs (i + 2)).toInt64) &&& 4294967295)).toInt.toNat, 0, 0, -1, 7) : RS))).toInt64)) T up _ _ _ (by first | assumption | omega) (by first | assumption | omega) (by first | assumption | omega) hP hD hS (lv_sub hl [2, 3, 4, 5, 6] rfl)
          · exact absurd ((lg_cmp_eq _ _).mpr (by first | rfl | exact (bL_t hz9).symm | exact (bL_f hz9).symm)) c_47
      · exact absurd c_45 (by decide)
  · skip
    replace h_20 := h_20.symm
    subst h_20
    replace h_22 := h_22.symm
    subst h_22
    replace h_23 := h_23.symm
    subst h_23
    replace h_24 := h_24.symm
    subst h_24
    replace h_25 := h_25.symm
    subst h_25
    replace h_26 := h_26.symm
    subst h_26
    have hP : va_P (dC, dI) vwCl ((w3 a cI cZ nk pa fa nc fo th tg nt tb te tk tt nu ub ue uk ut re ro fu bl go ra rc ex tc es wy) ++ ((w4 b cI cZ tw nk pa nc fo th tg nt tb4 te4 tk4 tt4 ex tc es wy ab re4 go4 be) ++ ([(ou, .inl (cJ, 1, .inr (.inl fz)))]))) H := hP
    have hD : va_D A ((w3 a cI cZ nk pa fa nc fo th tg nt tb te tk tt nu ub ue uk ut re ro fu bl go ra rc ex tc es wy) ++ ((w4 b cI cZ tw nk pa nc fo th tg nt tb4 te4 tk4 tt4 ex tc es wy ab re4 go4 be) ++ ([(ou, .inl (cJ, 1, .inr (.inl fz)))]))) := hD
    refine lv_istore (lv' := [(5, .int 1), (0, .ref sb), (1, .ref (a 0)), (2, .ref (b 0)), (3, .ref ou), (4, .int (nI i))]) hx hb dL_law_1341 hl (by decide) rfl (fun ls hl => ?_)
    refine lv_aload_n hx hb dL_law_1343 rfl (lv_at hl 3 rfl) ?_
    refine lv_aload_n hx hb dL_law_1344 rfl (lv_at hl 1 rfl) ?_
    refine lv_iload hx hb dL_law_1345 (lv_at hl 5 rfl) ?_
    refine lv_iconst (v := 1) hx hb dL_law_1347 (by decide) ?_
    refine lv_iadd hx hb dL_law_1348 ?_
    refine zz_top (y := nI (i + 1)) (nI_add _ _) ?_
    refine va_sld hx hb hX hbl hbA hS (vp_in_nI (n := i + 1) (by omega) (by omega)) dL_law_1349 ?_
    refine zz_top (y := xs (i + 1)) (congrArg _ (nI_clamp (by omega))) ?_
    refine lv_i2l (v := (xs (i + 1)).toInt64) hx hb dL_law_1350 rfl ?_
    refine lv_bipush (v := 32) hx hb dL_law_1351 (by decide) ?_
    refine lv_lshl (v := ((xs (i + 1)).toInt64) <<< ((32 : Int32).toInt64 &&& 63)) hx hb dL_law_1353 rfl ?_
    refine lv_aload_n hx hb dL_law_1354 rfl (lv_at hl 1 rfl) ?_
    refine lv_iload hx hb dL_law_1355 (lv_at hl 5 rfl) ?_
    refine lv_iconst (v := 2) hx hb dL_law_1357 (by decide) ?_
    refine lv_iadd hx hb dL_law_1358 ?_
    refine zz_top (y := nI (i + 2)) (nI_add _ _) ?_
    refine va_sld hx hb hX hbl hbA hS (vp_in_nI (n := i + 2) (by omega) (by omega)) dL_law_1359 ?_
    refine zz_top (y := xs (i + 2)) (congrArg _ (nI_clamp (by omega))) ?_
    refine lv_i2l (v := (xs (i + 2)).toInt64) hx hb dL_law_1360 rfl ?_
    refine lv_ldc2 (own := RL) (v := 4294967295) hx hb hown (hts (.constantLong RL 173 4294967295) (by decide +kernel)) dL_law_1361 ?_
    refine lv_land hx hb dL_law_1364 ?_
    refine lv_lor hx hb dL_law_1365 ?_
    refine lv_aload_n hx hb dL_law_1366 rfl (lv_at hl 1 rfl) ?_
    refine lv_iload hx hb dL_law_1367 (lv_at hl 5 rfl) ?_
    refine lv_iconst (v := 3) hx hb dL_law_1369 (by decide) ?_
    refine lv_iadd hx hb dL_law_1370 ?_
    refine zz_top (y := nI (i + 3)) (nI_add _ _) ?_
    refine va_sld hx hb hX hbl hbA hS (vp_in_nI (n := i + 3) (by omega) (by omega)) dL_law_1371 ?_
    refine zz_top (y := xs (i + 3)) (congrArg _ (nI_clamp (by omega))) ?_
    have hPc := hP.sub (ws' := w4 b cI cZ tw nk pa nc fo th tg nt tb4 te4 tk4 tt4 ex tc es wy ab re4 go4 be) [24, 25, 26, 27, 28, 29, 30, 31, 32, 33, 34, 35, 36] rfl
    have hDc := hD.sub (ws' := w4 b cI cZ tw nk pa nc fo th tg nt tb4 te4 tk4 tt4 ex tc es wy ab re4 go4 be) [24, 25, 26, 27, 28, 29, 30, 31, 32, 33, 34, 35, 36] (by decide) rfl
    have hFc := va_free (wc := w4 b cI cZ tw nk pa nc fo th tg nt tb4 te4 tk4 tt4 ex tc es wy ab re4 go4 be) hD hS hA [24, 25, 26, 27, 28, 29, 30, 31, 32, 33, 34, 35, 36] rfl
    refine va_calli (va_runV (As := [.long ((((xs (i + 1)).toInt64) <<< ((32 : Int32).toInt64 &&& 63)) ||| (((xs (i + 2)).toInt64) &&& 4294967295)), .int (xs (i + 3))]) (rest := []) ⟨hx, hb, hml, hown, hts⟩ (c_X4_run l dC dI cI cZ cJ b tw nk pa nc fo th tg nt tb4 te4 tk4 tt4 ex tc es wy ab re4 go4 be ((((xs (i + 1)).toInt64) <<< ((32 : Int32).toInt64 &&& 63)) ||| (((xs (i + 2)).toInt64) &&& 4294967295)) (xs (i + 3)) T up H.size (by first | assumption | omega) (by first | assumption | omega)) (cwV 2 hts gL_law_X4_run rfl rfl rfl (by decide +kernel) ⟨Nat.le_of_ble_eq_true rfl, Nat.le_of_ble_eq_true rfl⟩) ⟨zWr_blind, va_recv hK hPc (ci := 4) (q0 := 0) rfl rfl, zWr_at hPc hK hn (hDc.weaken (fun _ _ _ _ => trivial))⟩ rfl rfl hl.1 rfl (lv_room (Nat.le_of_ble_eq_true rfl)) dL_law_1372 ⟨by show _ ≤ 601024; omega, by show _ ≤ 7293034; omega⟩) hS (fun q _ h => hFc q h) hFc (fun r_48 u_9 t H1 locs ht hvm hw hB hz1 hk1 hS => ?_)
    obtain ⟨tw9_48, ex9_49, tc9_50, es9_51, wy9_52⟩ := u_9
    dsimp only at hw hB
    obtain ⟨hP1, -, hD1⟩ := hB
    rw [ht] at hP1
    obtain ⟨hP, hD⟩ := va_join (wr := (w3 a cI cZ nk pa fa nc fo th tg nt tb te tk tt nu ub ue uk ut re ro fu bl go ra rc ex tc es wy) ++ ([(ou, .inl (cJ, 1, .inr (.inl fz)))])) (w1 := w4 b cI cZ tw9_48 nk pa nc fo th tg nt tb4 te4 tk4 tt4 ex9_49 tc9_50 es9_51 wy9_52 ab re4 go4 be) hP hD [24, 25, 26, 27, 28, 29, 30, 31, 32, 33, 34, 35, 36] [0, 1, 2, 3, 4, 5, 6, 7, 8, 9, 10, 11, 12, 13, 14, 15, 16, 17, 18, 19, 20, 21, 22, 23, 37] rfl rfl (by decide) (by decide) hk1 hFc hP1 hD1
    generalize H1 = H at hP hS ⊢
    have hP := hP.sub (ws' := (w3 a cI cZ nk pa fa nc fo th tg nt tb te tk tt nu ub ue uk ut re ro fu bl go ra rc ex tc es wy) ++ ((w4 b cI cZ tw9_48 nk pa nc fo th tg nt tb4 te4 tk4 tt4 ex9_49 tc9_50 es9_51 wy9_52 ab re4 go4 be) ++ ([(ou, .inl (cJ, 1, .inr (.inl fz)))]))) [0, 1, 2, 3, 4, 5, 6, 7, 8, 9, 10, 11, 12, 13, 14, 15, 16, 17, 18, 19, 20, 21, 22, 23, 25, 26, 27, 28, 29, 30, 31, 32, 33, 34, 35, 36, 37, 24] rfl
    have hD := hD.sub (ws' := (w3 a cI cZ nk pa fa nc fo th tg nt tb te tk tt nu ub ue uk ut re ro fu bl go ra rc ex tc es wy) ++ ((w4 b cI cZ tw9_48 nk pa nc fo th tg nt tb4 te4 tk4 tt4 ex9_49 tc9_50 es9_51 wy9_52 ab re4 go4 be) ++ ([(ou, .inl (cJ, 1, .inr (.inl fz)))]))) [0, 1, 2, 3, 4, 5, 6, 7, 8, 9, 10, 11, 12, 13, 14, 15, 16, 17, 18, 19, 20, 21, 22, 23, 25, 26, 27, 28, 29, 30, 31, 32, 33, 34, 35, 36, 37, 24] (by decide) rfl
    have hP : va_P (dC, dI) vwCl ((w3 a cI cZ nk pa fa nc fo th tg nt tb te tk tt nu ub ue uk ut re ro fu bl go ra rc ex tc es wy) ++ ((w4 b cI cZ tw9_48 nk pa nc fo th tg nt tb4 te4 tk4 tt4 ex9_49 tc9_50 es9_51 wy9_52 ab re4 go4 be) ++ ([(ou, .inl (cJ, 1, .inr (.inl fz)))]))) H := hP
    have hD : va_D A ((w3 a cI cZ nk pa fa nc fo th tg nt tb te tk tt nu ub ue uk ut re ro fu bl go ra rc ex tc es wy) ++ ((w4 b cI cZ tw9_48 nk pa nc fo th tg nt tb4 te4 tk4 tt4 ex9_49 tc9_50 es9_51 wy9_52 ab re4 go4 be) ++ ([(ou, .inl (cJ, 1, .inr (.inl fz)))]))) := hD
    rcases hw with ⟨h_54, h_55, h_56, h_57, h_58, h_59⟩ | ⟨h_60, h_61, h_62, h_63, h_64⟩
    · skip
      replace h_55 := h_55.symm
      subst h_55
      replace h_56 := h_56.symm
      subst h_56
      replace h_57 := h_57.symm
      subst h_57
      replace h_58 := h_58.symm
      subst h_58
      replace h_59 := h_59.symm
      subst h_59
      have hP : va_P (dC, dI) vwCl ((w3 a cI cZ nk pa fa nc fo th tg nt tb te tk tt nu ub ue uk ut re ro fu bl go ra rc ex tc es wy) ++ ((w4 b cI cZ 1 nk pa nc fo th tg nt tb4 te4 tk4 tt4 ex tc es wy ab re4 go4 be) ++ ([(ou, .inl (cJ, 1, .inr (.inl fz)))]))) H := hP
      have hD : va_D A ((w3 a cI cZ nk pa fa nc fo th tg nt tb te tk tt nu ub ue uk ut re ro fu bl go ra rc ex tc es wy) ++ ((w4 b cI cZ 1 nk pa nc fo th tg nt tb4 te4 tk4 tt4 ex tc es wy ab re4 go4 be) ++ ([(ou, .inl (cJ, 1, .inr (.inl fz)))]))) := hD
      refine lv_istore (lv' := [(6, .int r_48), (5, .int 1), (0, .ref sb), (1, .ref (a 0)), (2, .ref (b 0)), (3, .ref ou), (4, .int (nI i))]) hx hb dL_law_1375 hl (by decide) rfl (fun ls hl => ?_)
      refine lv_aload_n hx hb dL_law_1377 rfl (lv_at hl 4 rfl) ?_
      have hPc := hP.sub (ws' := w4 b cI cZ 1 nk pa nc fo th tg nt tb4 te4 tk4 tt4 ex tc es wy ab re4 go4 be) [24, 25, 26, 27, 28, 29, 30, 31, 32, 33, 34, 35, 36] rfl
      refine va_calli (va_runV (As := []) (rest := []) ⟨hx, hb, hml, hown, hts⟩ (c_X4_thrown l dC dI cI cZ cJ b 1 nk pa nc fo th tg nt tb4 te4 tk4 tt4 ex tc es wy ab re4 go4 be ) (cwV 0 hts gL_law_X4_thrown rfl rfl rfl (by decide +kernel) ⟨Nat.le_of_ble_eq_true rfl, Nat.le_of_ble_eq_true rfl⟩) ⟨zPre_blind, va_recv hK hPc (ci := 4) (q0 := 0) rfl rfl, zPre_at hPc hK hn⟩ rfl rfl hl.1 rfl (lv_room (Nat.le_of_ble_eq_true rfl)) dL_law_1378 ⟨by show _ ≤ 601024; omega, by show _ ≤ 7293034; omega⟩) hS (fun _ _ h => h.elim) (fun _ h => h.elim) (fun r_65 u_9 t H locs ht hvm hw hB hz1 hk1 hS => ?_)
      have hP := zkeep hP hk1
      subst hw
      refine lv_iload hx hb dL_law_1381 (lv_at hl 1 rfl) ?_
      refine lv_icmp_eq (tgt := 1388) hx hb dL_law_1383 (by decide) (fun c_66 => ?_) (fun c_66 => ?_)
      · skip
        refine lv_iload hx hb dL_law_1388 (lv_at hl 1 rfl) ?_
        refine lv_if_ne (tgt := 1405) hx hb dL_law_1390 (by decide) (fun c_67 => ?_) (fun c_67 => ?_)
        · skip
          refine lv_goto (tgt := 1475) hx hb dL_law_1405 (by decide) ?_
          refine W.widen (k := k0 + 100) (n := n0 + 3000) (by omega) (by omega) ?_
          exact K nk pa fa nc fo th tg nt tb te tk tt nu ub ue uk ut re ro fu bl go ra rc ex tc es wy 1 tb4 te4 tk4 tt4 ab re4 go4 be fz T up _ _ _ (by first | assumption | omega) (by first | assumption | omega) (by first | assumption | omega) hP hD hS (lv_sub hl [2, 3, 4, 5, 6] rfl)
        · exact absurd c_67 (by decide)
      · exact absurd c_66 (by decide)
    · skip
      exact absurd (h_21.symm.trans h_60) (by decide)

set_option maxHeartbeats 4000000 in
set_option maxRecDepth 100000 in
theorem lk_27 {p : Program} {e : Env} {s : State} {m : MethodId} {below : List Frame} {meth : Method} {c : Code} {Q : State → Prop} (l : Launch) {sb L : Nat} {xs : Nat → Int32} (dC : Nat → ClassId) (dI : Nat → Nat → Nat) (cI cZ cJ : ClassId) (a b : Nat → Nat) (ou i k0 n0 : Nat) (hF0 : lwF p l s m c sb L xs dC dI cI cZ cJ) (hi : i + 5 ≤ L) (hk0 : k0 + 100 ≤ 601024) (hn0 : n0 + 3000 ≤ 7293034) (nk : Nat) (pa : Nat → Int32) (fa : Nat → Int32) (nc : Nat) (fo : Nat → Int32) (th : Nat → Int32) (tg : Nat → Int32) (nt : Nat) (tb : Nat → Int32) (te : Nat → Int32) (tk : Nat → Int32) (tt : Nat → Int32) (nu : Nat) (ub : Nat → Int32) (ue : Nat → Int32) (uk : Nat → Int32) (ut : Nat → Int32) (re : Nat → Int32) (ro : Nat → Int32) (fu : Nat → Int32) (bl : Nat → Int32) (go : Nat → Int32) (ra : Nat → Int32) (rc : Nat) (ex : Int32) (tc : Int32) (es : Int32) (wy : Int64) (tw : Int32) (tb4 : Nat → Int32) (te4 : Nat → Int32) (tk4 : Nat → Int32) (tt4 : Nat → Int32) (ab : Nat → Int32) (re4 : Nat → Int32) (go4 : Nat → Int32) (be : Nat → Int32) (fz : Nat → Int64) (T : Nat → Nat → Nat) (up : Nat → Nat → Bool) (hg : g3 nk fa up nt tb te tk tt T) (hg4 : g4 nk ab up nt tb4 te4 tk4 tt4 T) (hc : okC nk nc fo th tg) (H : Heap) (locs : List Loc) (ls : Array Slot) (hP : va_P (dC, dI) vwCl ((w3 a cI cZ nk pa fa nc fo th tg nt tb te tk tt nu ub ue uk ut re ro fu bl go ra rc ex tc es wy) ++ ((w4 b cI cZ tw nk pa nc fo th tg nt tb4 te4 tk4 tt4 ex tc es wy ab re4 go4 be) ++ ([(ou, .inl (cJ, 1, .inr (.inl fz)))]))) H) (hD : va_D (fun q => s.heap.size ≤ q) ((w3 a cI cZ nk pa fa nc fo th tg nt tb te tk tt nu ub ue uk ut re ro fu bl go ra rc ex tc es wy) ++ ((w4 b cI cZ tw nk pa nc fo th tg nt tb4 te4 tk4 tt4 ex tc es wy ab re4 go4 be) ++ ([(ou, .inl (cJ, 1, .inr (.inl fz)))])))) (hS : va_S (fun q => s.heap.size ≤ q) s.heap H locs) (hl : lv_has ls 9 [(0, .ref sb), (1, .ref (a 0)), (2, .ref (b 0)), (3, .ref ou), (4, .int (nI i))]) (K : ∀ (nk : Nat) (pa : Nat → Int32) (fa : Nat → Int32) (nc : Nat) (fo : Nat → Int32) (th : Nat → Int32) (tg : Nat → Int32) (nt : Nat) (tb : Nat → Int32) (te : Nat → Int32) (tk : Nat → Int32) (tt : Nat → Int32) (nu : Nat) (ub : Nat → Int32) (ue : Nat → Int32) (uk : Nat → Int32) (ut : Nat → Int32) (re : Nat → Int32) (ro : Nat → Int32) (fu : Nat → Int32) (bl : Nat → Int32) (go : Nat → Int32) (ra : Nat → Int32) (rc : Nat) (ex : Int32) (tc : Int32) (es : Int32) (wy : Int64) (tw : Int32) (tb4 : Nat → Int32) (te4 : Nat → Int32) (tk4 : Nat → Int32) (tt4 : Nat → Int32) (ab : Nat → Int32) (re4 : Nat → Int32) (go4 : Nat → Int32) (be : Nat → Int32) (fz : Nat → Int64) (T : Nat → Nat → Nat) (up : Nat → Nat → Bool) (H : Heap) (locs : List Loc) (ls : Array Slot), g3 nk fa up nt tb te tk tt T → g4 nk ab up nt tb4 te4 tk4 tt4 T → okC nk nc fo th tg → va_P (dC, dI) vwCl ((w3 a cI cZ nk pa fa nc fo th tg nt tb te tk tt nu ub ue uk ut re ro fu bl go ra rc ex tc es wy) ++ ((w4 b cI cZ tw nk pa nc fo th tg nt tb4 te4 tk4 tt4 ex tc es wy ab re4 go4 be) ++ ([(ou, .inl (cJ, 1, .inr (.inl fz)))]))) H → va_D (fun q => s.heap.size ≤ q) ((w3 a cI cZ nk pa fa nc fo th tg nt tb te tk tt nu ub ue uk ut re ro fu bl go ra rc ex tc es wy) ++ ((w4 b cI cZ tw nk pa nc fo th tg nt tb4 te4 tk4 tt4 ex tc es wy ab re4 go4 be) ++ ([(ou, .inl (cJ, 1, .inr (.inl fz)))]))) → va_S (fun q => s.heap.size ≤ q) s.heap H locs → lv_has ls 9 [(0, .ref sb), (1, .ref (a 0)), (2, .ref (b 0)), (3, .ref ou), (4, .int (nI i))] → W p l e room_1 s m #[Value.ref sb] below meth c H locs (k0 + 100) (n0 + 3000) Q (F0 m 1475 ls [])) : W p l e room_1 s m #[Value.ref sb] below meth c H locs k0 n0 Q (F0 m 1408 ls []) := by
  obtain ⟨hx, hb, hml, hown, hts, hX, hbl, hL, hK, hn, hzt, hzu, hzc, hlt⟩ := id hF0
  obtain ⟨A, hAe⟩ : ∃ A : Nat → Prop, A = fun q => s.heap.size ≤ q := ⟨_, rfl⟩
  have hbA : ¬ A sb := by rw [hAe]; exact Nat.not_le.mpr hbl
  have hA : ∀ q : Nat, s.heap.size ≤ q → A q := fun q h => by rw [hAe]; exact h
  rw [← hAe] at hD hS hzu K
  refine lv_aload_n hx hb dL_law_1408 rfl (lv_at hl 1 rfl) ?_
  have hPc := hP.sub (ws' := w3 a cI cZ nk pa fa nc fo th tg nt tb te tk tt nu ub ue uk ut re ro fu bl go ra rc ex tc es wy) [0, 1, 2, 3, 4, 5, 6, 7, 8, 9, 10, 11, 12, 13, 14, 15, 16, 17, 18, 19, 20, 21, 22, 23] rfl
  refine va_calli (va_runV (As := []) (rest := []) ⟨hx, hb, hml, hown, hts⟩ (c_X3_executed l dC dI cI cZ cJ a nk pa fa nc fo th tg nt tb te tk tt nu ub ue uk ut re ro fu bl go ra rc ex tc es wy ) (cwV 0 hts gL_law_X3_executed rfl rfl rfl (by decide +kernel) ⟨Nat.le_of_ble_eq_true rfl, Nat.le_of_ble_eq_true rfl⟩) ⟨zPre_blind, va_recv hK hPc (ci := 3) (q0 := 0) rfl rfl, zPre_at hPc hK hn⟩ rfl rfl hl.1 rfl (lv_room (Nat.le_of_ble_eq_true rfl)) dL_law_1409 ⟨by show _ ≤ 601024; omega, by show _ ≤ 7293034; omega⟩) hS (fun _ _ h => h.elim) (fun _ h => h.elim) (fun r_1 u_9 t H locs ht hvm hw hB hz1 hk1 hS => ?_)
  have hP := zkeep hP hk1
  replace hw := hw.symm
  subst hw
  refine lv_aload_n hx hb dL_law_1412 rfl (lv_at hl 2 rfl) ?_
  have hPc := hP.sub (ws' := w4 b cI cZ tw nk pa nc fo th tg nt tb4 te4 tk4 tt4 ex tc es wy ab re4 go4 be) [24, 25, 26, 27, 28, 29, 30, 31, 32, 33, 34, 35, 36] rfl
  have hDc := hD.sub (ws' := w4 b cI cZ tw nk pa nc fo th tg nt tb4 te4 tk4 tt4 ex tc es wy ab re4 go4 be) [24, 25, 26, 27, 28, 29, 30, 31, 32, 33, 34, 35, 36] (by decide) rfl
  have hFc := va_free (wc := w4 b cI cZ tw nk pa nc fo th tg nt tb4 te4 tk4 tt4 ex tc es wy ab re4 go4 be) hD hS hA [24, 25, 26, 27, 28, 29, 30, 31, 32, 33, 34, 35, 36] rfl
  refine va_calli (va_runV (As := []) (rest := [.int ex]) ⟨hx, hb, hml, hown, hts⟩ (c_X4_executed l dC dI cI cZ cJ b tw nk pa nc fo th tg nt tb4 te4 tk4 tt4 ex tc es wy ab re4 go4 be H.size ) (cwV 0 hts gL_law_X4_executed rfl rfl rfl (by decide +kernel) ⟨Nat.le_of_ble_eq_true rfl, Nat.le_of_ble_eq_true rfl⟩) ⟨zWr_blind, va_recv hK hPc (ci := 4) (q0 := 0) rfl rfl, zWr_at hPc hK hn (hDc.weaken (fun _ _ _ _ => trivial))⟩ rfl rfl hl.1 rfl (lv_room (Nat.le_of_ble_eq_true rfl)) dL_law_1413 ⟨by show _ ≤ 601024; omega, by show _ ≤ 7293034; omega⟩) hS (fun q _ h => hFc q h) hFc (fun r_2 u_9 t H1 locs ht hvm hw hB hz1 hk1 hS => ?_)
  obtain ⟨hP1, -, hD1⟩ := hB
  rw [ht] at hP1
  obtain ⟨hP, hD⟩ := va_join (wr := (w3 a cI cZ nk pa fa nc fo th tg nt tb te tk tt nu ub ue uk ut re ro fu bl go ra rc ex tc es wy) ++ ([(ou, .inl (cJ, 1, .inr (.inl fz)))])) (w1 := w4 b cI cZ 0 nk pa nc fo th tg nt tb4 te4 tk4 tt4 ex tc es wy ab re4 go4 be) hP hD [24, 25, 26, 27, 28, 29, 30, 31, 32, 33, 34, 35, 36] [0, 1, 2, 3, 4, 5, 6, 7, 8, 9, 10, 11, 12, 13, 14, 15, 16, 17, 18, 19, 20, 21, 22, 23, 37] rfl rfl (by decide) (by decide) hk1 hFc hP1 hD1
  generalize H1 = H at hP hS ⊢
  have hP := hP.sub (ws' := (w3 a cI cZ nk pa fa nc fo th tg nt tb te tk tt nu ub ue uk ut re ro fu bl go ra rc ex tc es wy) ++ ((w4 b cI cZ 0 nk pa nc fo th tg nt tb4 te4 tk4 tt4 ex tc es wy ab re4 go4 be) ++ ([(ou, .inl (cJ, 1, .inr (.inl fz)))]))) [0, 1, 2, 3, 4, 5, 6, 7, 8, 9, 10, 11, 12, 13, 14, 15, 16, 17, 18, 19, 20, 21, 22, 23, 25, 26, 27, 28, 29, 30, 31, 32, 33, 34, 35, 36, 37, 24] rfl
  have hD := hD.sub (ws' := (w3 a cI cZ nk pa fa nc fo th tg nt tb te tk tt nu ub ue uk ut re ro fu bl go ra rc ex tc es wy) ++ ((w4 b cI cZ 0 nk pa nc fo th tg nt tb4 te4 tk4 tt4 ex tc es wy ab re4 go4 be) ++ ([(ou, .inl (cJ, 1, .inr (.inl fz)))]))) [0, 1, 2, 3, 4, 5, 6, 7, 8, 9, 10, 11, 12, 13, 14, 15, 16, 17, 18, 19, 20, 21, 22, 23, 25, 26, 27, 28, 29, 30, 31, 32, 33, 34, 35, 36, 37, 24] (by decide) rfl
  have hP : va_P (dC, dI) vwCl ((w3 a cI cZ nk pa fa nc fo th tg nt tb te tk tt nu ub ue uk ut re ro fu bl go ra rc ex tc es wy) ++ ((w4 b cI cZ 0 nk pa nc fo th tg nt tb4 te4 tk4 tt4 ex tc es wy ab re4 go4 be) ++ ([(ou, .inl (cJ, 1, .inr (.inl fz)))]))) H := hP
  have hD : va_D A ((w3 a cI cZ nk pa fa nc fo th tg nt tb te tk tt nu ub ue uk ut re ro fu bl go ra rc ex tc es wy) ++ ((w4 b cI cZ 0 nk pa nc fo th tg nt tb4 te4 tk4 tt4 ex tc es wy ab re4 go4 be) ++ ([(ou, .inl (cJ, 1, .inr (.inl fz)))]))) := hD
  replace hw := hw.symm
  subst hw
  refine lv_icmp_eq (tgt := 1475) hx hb dL_law_1416 (by decide) (fun c_3 => ?_) (fun c_3 => ?_)
  · skip
    skip
    refine W.widen (k := k0 + 100) (n := n0 + 3000) (by omega) (by omega) ?_
    exact K nk pa fa nc fo th tg nt tb te tk tt nu ub ue uk ut re ro fu bl go ra rc ex tc es wy 0 tb4 te4 tk4 tt4 ab re4 go4 be fz T up _ _ _ (by first | assumption | omega) (by first | assumption | omega) (by first | assumption | omega) hP hD hS (lv_sub hl [0, 1, 2, 3, 4] rfl)
  · exact absurd rfl c_3

set_option maxHeartbeats 4000000 in
set_option maxRecDepth 100000 in
theorem lk_28 {p : Program} {e : Env} {s : State} {m : MethodId} {below : List Frame} {meth : Method} {c : Code} {Q : State → Prop} (l : Launch) {sb L : Nat} {xs : Nat → Int32} (dC : Nat → ClassId) (dI : Nat → Nat → Nat) (cI cZ cJ : ClassId) (a b : Nat → Nat) (ou i k0 n0 : Nat) (hF0 : lwF p l s m c sb L xs dC dI cI cZ cJ) (hi : i + 5 ≤ L) (hk0 : k0 + 100 ≤ 601024) (hn0 : n0 + 3000 ≤ 7293034) (nk : Nat) (pa : Nat → Int32) (fa : Nat → Int32) (nc : Nat) (fo : Nat → Int32) (th : Nat → Int32) (tg : Nat → Int32) (nt : Nat) (tb : Nat → Int32) (te : Nat → Int32) (tk : Nat → Int32) (tt : Nat → Int32) (nu : Nat) (ub : Nat → Int32) (ue : Nat → Int32) (uk : Nat → Int32) (ut : Nat → Int32) (re : Nat → Int32) (ro : Nat → Int32) (fu : Nat → Int32) (bl : Nat → Int32) (go : Nat → Int32) (ra : Nat → Int32) (rc : Nat) (ex : Int32) (tc : Int32) (es : Int32) (wy : Int64) (tw : Int32) (tb4 : Nat → Int32) (te4 : Nat → Int32) (tk4 : Nat → Int32) (tt4 : Nat → Int32) (ab : Nat → Int32) (re4 : Nat → Int32) (go4 : Nat → Int32) (be : Nat → Int32) (fz : Nat → Int64) (T : Nat → Nat → Nat) (up : Nat → Nat → Bool) (hg : g3 nk fa up nt tb te tk tt T) (hg4 : g4 nk ab up nt tb4 te4 tk4 tt4 T) (hc : okC nk nc fo th tg) (H : Heap) (locs : List Loc) (ls : Array Slot) (hP : va_P (dC, dI) vwCl ((w3 a cI cZ nk pa fa nc fo th tg nt tb te tk tt nu ub ue uk ut re ro fu bl go ra rc ex tc es wy) ++ ((w4 b cI cZ tw nk pa nc fo th tg nt tb4 te4 tk4 tt4 ex tc es wy ab re4 go4 be) ++ ([(ou, .inl (cJ, 1, .inr (.inl fz)))]))) H) (hD : va_D (fun q => s.heap.size ≤ q) ((w3 a cI cZ nk pa fa nc fo th tg nt tb te tk tt nu ub ue uk ut re ro fu bl go ra rc ex tc es wy) ++ ((w4 b cI cZ tw nk pa nc fo th tg nt tb4 te4 tk4 tt4 ex tc es wy ab re4 go4 be) ++ ([(ou, .inl (cJ, 1, .inr (.inl fz)))])))) (hS : va_S (fun q => s.heap.size ≤ q) s.heap H locs) (hl : lv_has ls 9 [(0, .ref sb), (1, .ref (a 0)), (2, .ref (b 0)), (3, .ref ou), (4, .int (nI i))]) (K : ∀ (nk : Nat) (pa : Nat → Int32) (fa : Nat → Int32) (nc : Nat) (fo : Nat → Int32) (th : Nat → Int32) (tg : Nat → Int32) (nt : Nat) (tb : Nat → Int32) (te : Nat → Int32) (tk : Nat → Int32) (tt : Nat → Int32) (nu : Nat) (ub : Nat → Int32) (ue : Nat → Int32) (uk : Nat → Int32) (ut : Nat → Int32) (re : Nat → Int32) (ro : Nat → Int32) (fu : Nat → Int32) (bl : Nat → Int32) (go : Nat → Int32) (ra : Nat → Int32) (rc : Nat) (ex : Int32) (tc : Int32) (es : Int32) (wy : Int64) (tw : Int32) (tb4 : Nat → Int32) (te4 : Nat → Int32) (tk4 : Nat → Int32) (tt4 : Nat → Int32) (ab : Nat → Int32) (re4 : Nat → Int32) (go4 : Nat → Int32) (be : Nat → Int32) (fz : Nat → Int64) (T : Nat → Nat → Nat) (up : Nat → Nat → Bool) (H : Heap) (locs : List Loc) (ls : Array Slot), g3 nk fa up nt tb te tk tt T → g4 nk ab up nt tb4 te4 tk4 tt4 T → okC nk nc fo th tg → va_P (dC, dI) vwCl ((w3 a cI cZ nk pa fa nc fo th tg nt tb te tk tt nu ub ue uk ut re ro fu bl go ra rc ex tc es wy) ++ ((w4 b cI cZ tw nk pa nc fo th tg nt tb4 te4 tk4 tt4 ex tc es wy ab re4 go4 be) ++ ([(ou, .inl (cJ, 1, .inr (.inl fz)))]))) H → va_D (fun q => s.heap.size ≤ q) ((w3 a cI cZ nk pa fa nc fo th tg nt tb te tk tt nu ub ue uk ut re ro fu bl go ra rc ex tc es wy) ++ ((w4 b cI cZ tw nk pa nc fo th tg nt tb4 te4 tk4 tt4 ex tc es wy ab re4 go4 be) ++ ([(ou, .inl (cJ, 1, .inr (.inl fz)))]))) → va_S (fun q => s.heap.size ≤ q) s.heap H locs → lv_has ls 9 [(0, .ref sb), (1, .ref (a 0)), (2, .ref (b 0)), (3, .ref ou), (4, .int (nI i))] → W p l e room_1 s m #[Value.ref sb] below meth c H locs (k0 + 100) (n0 + 3000) Q (F0 m 1475 ls [])) : W p l e room_1 s m #[Value.ref sb] below meth c H locs k0 n0 Q (F0 m 1421 ls []) := by
  obtain ⟨hx, hb, hml, hown, hts, hX, hbl, hL, hK, hn, hzt, hzu, hzc, hlt⟩ := id hF0
  obtain ⟨A, hAe⟩ : ∃ A : Nat → Prop, A = fun q => s.heap.size ≤ q := ⟨_, rfl⟩
  have hbA : ¬ A sb := by rw [hAe]; exact Nat.not_le.mpr hbl
  have hA : ∀ q : Nat, s.heap.size ≤ q → A q := fun q h => by rw [hAe]; exact h
  rw [← hAe] at hD hS hzu K
  refine lv_aload_n hx hb dL_law_1421 rfl (lv_at hl 1 rfl) ?_
  have hPc := hP.sub (ws' := w3 a cI cZ nk pa fa nc fo th tg nt tb te tk tt nu ub ue uk ut re ro fu bl go ra rc ex tc es wy) [0, 1, 2, 3, 4, 5, 6, 7, 8, 9, 10, 11, 12, 13, 14, 15, 16, 17, 18, 19, 20, 21, 22, 23] rfl
  refine va_calli (va_runV (As := []) (rest := []) ⟨hx, hb, hml, hown, hts⟩ (c_X3_taken l dC dI cI cZ cJ a nk pa fa nc fo th tg nt tb te tk tt nu ub ue uk ut re ro fu bl go ra rc ex tc es wy ) (cwV 0 hts gL_law_X3_taken rfl rfl rfl (by decide +kernel) ⟨Nat.le_of_ble_eq_true rfl, Nat.le_of_ble_eq_true rfl⟩) ⟨zPre_blind, va_recv hK hPc (ci := 3) (q0 := 0) rfl rfl, zPre_at hPc hK hn⟩ rfl rfl hl.1 rfl (lv_room (Nat.le_of_ble_eq_true rfl)) dL_law_1422 ⟨by show _ ≤ 601024; omega, by show _ ≤ 7293034; omega⟩) hS (fun _ _ h => h.elim) (fun _ h => h.elim) (fun r_1 u_9 t H locs ht hvm hw hB hz1 hk1 hS => ?_)
  have hP := zkeep hP hk1
  replace hw := hw.symm
  subst hw
  refine lv_aload_n hx hb dL_law_1425 rfl (lv_at hl 2 rfl) ?_
  have hPc := hP.sub (ws' := w4 b cI cZ tw nk pa nc fo th tg nt tb4 te4 tk4 tt4 ex tc es wy ab re4 go4 be) [24, 25, 26, 27, 28, 29, 30, 31, 32, 33, 34, 35, 36] rfl
  have hDc := hD.sub (ws' := w4 b cI cZ tw nk pa nc fo th tg nt tb4 te4 tk4 tt4 ex tc es wy ab re4 go4 be) [24, 25, 26, 27, 28, 29, 30, 31, 32, 33, 34, 35, 36] (by decide) rfl
  have hFc := va_free (wc := w4 b cI cZ tw nk pa nc fo th tg nt tb4 te4 tk4 tt4 ex tc es wy ab re4 go4 be) hD hS hA [24, 25, 26, 27, 28, 29, 30, 31, 32, 33, 34, 35, 36] rfl
  refine va_calli (va_runV (As := []) (rest := [.int tc]) ⟨hx, hb, hml, hown, hts⟩ (c_X4_taken l dC dI cI cZ cJ b tw nk pa nc fo th tg nt tb4 te4 tk4 tt4 ex tc es wy ab re4 go4 be H.size ) (cwV 0 hts gL_law_X4_taken rfl rfl rfl (by decide +kernel) ⟨Nat.le_of_ble_eq_true rfl, Nat.le_of_ble_eq_true rfl⟩) ⟨zWr_blind, va_recv hK hPc (ci := 4) (q0 := 0) rfl rfl, zWr_at hPc hK hn (hDc.weaken (fun _ _ _ _ => trivial))⟩ rfl rfl hl.1 rfl (lv_room (Nat.le_of_ble_eq_true rfl)) dL_law_1426 ⟨by show _ ≤ 601024; omega, by show _ ≤ 7293034; omega⟩) hS (fun q _ h => hFc q h) hFc (fun r_2 u_9 t H1 locs ht hvm hw hB hz1 hk1 hS => ?_)
  obtain ⟨hP1, -, hD1⟩ := hB
  rw [ht] at hP1
  obtain ⟨hP, hD⟩ := va_join (wr := (w3 a cI cZ nk pa fa nc fo th tg nt tb te tk tt nu ub ue uk ut re ro fu bl go ra rc ex tc es wy) ++ ([(ou, .inl (cJ, 1, .inr (.inl fz)))])) (w1 := w4 b cI cZ 0 nk pa nc fo th tg nt tb4 te4 tk4 tt4 ex tc es wy ab re4 go4 be) hP hD [24, 25, 26, 27, 28, 29, 30, 31, 32, 33, 34, 35, 36] [0, 1, 2, 3, 4, 5, 6, 7, 8, 9, 10, 11, 12, 13, 14, 15, 16, 17, 18, 19, 20, 21, 22, 23, 37] rfl rfl (by decide) (by decide) hk1 hFc hP1 hD1
  generalize H1 = H at hP hS ⊢
  have hP := hP.sub (ws' := (w3 a cI cZ nk pa fa nc fo th tg nt tb te tk tt nu ub ue uk ut re ro fu bl go ra rc ex tc es wy) ++ ((w4 b cI cZ 0 nk pa nc fo th tg nt tb4 te4 tk4 tt4 ex tc es wy ab re4 go4 be) ++ ([(ou, .inl (cJ, 1, .inr (.inl fz)))]))) [0, 1, 2, 3, 4, 5, 6, 7, 8, 9, 10, 11, 12, 13, 14, 15, 16, 17, 18, 19, 20, 21, 22, 23, 25, 26, 27, 28, 29, 30, 31, 32, 33, 34, 35, 36, 37, 24] rfl
  have hD := hD.sub (ws' := (w3 a cI cZ nk pa fa nc fo th tg nt tb te tk tt nu ub ue uk ut re ro fu bl go ra rc ex tc es wy) ++ ((w4 b cI cZ 0 nk pa nc fo th tg nt tb4 te4 tk4 tt4 ex tc es wy ab re4 go4 be) ++ ([(ou, .inl (cJ, 1, .inr (.inl fz)))]))) [0, 1, 2, 3, 4, 5, 6, 7, 8, 9, 10, 11, 12, 13, 14, 15, 16, 17, 18, 19, 20, 21, 22, 23, 25, 26, 27, 28, 29, 30, 31, 32, 33, 34, 35, 36, 37, 24] (by decide) rfl
  have hP : va_P (dC, dI) vwCl ((w3 a cI cZ nk pa fa nc fo th tg nt tb te tk tt nu ub ue uk ut re ro fu bl go ra rc ex tc es wy) ++ ((w4 b cI cZ 0 nk pa nc fo th tg nt tb4 te4 tk4 tt4 ex tc es wy ab re4 go4 be) ++ ([(ou, .inl (cJ, 1, .inr (.inl fz)))]))) H := hP
  have hD : va_D A ((w3 a cI cZ nk pa fa nc fo th tg nt tb te tk tt nu ub ue uk ut re ro fu bl go ra rc ex tc es wy) ++ ((w4 b cI cZ 0 nk pa nc fo th tg nt tb4 te4 tk4 tt4 ex tc es wy ab re4 go4 be) ++ ([(ou, .inl (cJ, 1, .inr (.inl fz)))]))) := hD
  replace hw := hw.symm
  subst hw
  refine lv_icmp_eq (tgt := 1475) hx hb dL_law_1429 (by decide) (fun c_3 => ?_) (fun c_3 => ?_)
  · skip
    skip
    refine W.widen (k := k0 + 100) (n := n0 + 3000) (by omega) (by omega) ?_
    exact K nk pa fa nc fo th tg nt tb te tk tt nu ub ue uk ut re ro fu bl go ra rc ex tc es wy 0 tb4 te4 tk4 tt4 ab re4 go4 be fz T up _ _ _ (by first | assumption | omega) (by first | assumption | omega) (by first | assumption | omega) hP hD hS (lv_sub hl [0, 1, 2, 3, 4] rfl)
  · exact absurd rfl c_3

set_option maxHeartbeats 4000000 in
set_option maxRecDepth 100000 in
theorem lk_29 {p : Program} {e : Env} {s : State} {m : MethodId} {below : List Frame} {meth : Method} {c : Code} {Q : State → Prop} (l : Launch) {sb L : Nat} {xs : Nat → Int32} (dC : Nat → ClassId) (dI : Nat → Nat → Nat) (cI cZ cJ : ClassId) (a b : Nat → Nat) (ou i k0 n0 : Nat) (hF0 : lwF p l s m c sb L xs dC dI cI cZ cJ) (hi : i + 5 ≤ L) (hk0 : k0 + 100 ≤ 601024) (hn0 : n0 + 3000 ≤ 7293034) (nk : Nat) (pa : Nat → Int32) (fa : Nat → Int32) (nc : Nat) (fo : Nat → Int32) (th : Nat → Int32) (tg : Nat → Int32) (nt : Nat) (tb : Nat → Int32) (te : Nat → Int32) (tk : Nat → Int32) (tt : Nat → Int32) (nu : Nat) (ub : Nat → Int32) (ue : Nat → Int32) (uk : Nat → Int32) (ut : Nat → Int32) (re : Nat → Int32) (ro : Nat → Int32) (fu : Nat → Int32) (bl : Nat → Int32) (go : Nat → Int32) (ra : Nat → Int32) (rc : Nat) (ex : Int32) (tc : Int32) (es : Int32) (wy : Int64) (tw : Int32) (tb4 : Nat → Int32) (te4 : Nat → Int32) (tk4 : Nat → Int32) (tt4 : Nat → Int32) (ab : Nat → Int32) (re4 : Nat → Int32) (go4 : Nat → Int32) (be : Nat → Int32) (fz : Nat → Int64) (T : Nat → Nat → Nat) (up : Nat → Nat → Bool) (hg : g3 nk fa up nt tb te tk tt T) (hg4 : g4 nk ab up nt tb4 te4 tk4 tt4 T) (hc : okC nk nc fo th tg) (H : Heap) (locs : List Loc) (ls : Array Slot) (hP : va_P (dC, dI) vwCl ((w3 a cI cZ nk pa fa nc fo th tg nt tb te tk tt nu ub ue uk ut re ro fu bl go ra rc ex tc es wy) ++ ((w4 b cI cZ tw nk pa nc fo th tg nt tb4 te4 tk4 tt4 ex tc es wy ab re4 go4 be) ++ ([(ou, .inl (cJ, 1, .inr (.inl fz)))]))) H) (hD : va_D (fun q => s.heap.size ≤ q) ((w3 a cI cZ nk pa fa nc fo th tg nt tb te tk tt nu ub ue uk ut re ro fu bl go ra rc ex tc es wy) ++ ((w4 b cI cZ tw nk pa nc fo th tg nt tb4 te4 tk4 tt4 ex tc es wy ab re4 go4 be) ++ ([(ou, .inl (cJ, 1, .inr (.inl fz)))])))) (hS : va_S (fun q => s.heap.size ≤ q) s.heap H locs) (hl : lv_has ls 9 [(0, .ref sb), (1, .ref (a 0)), (2, .ref (b 0)), (3, .ref ou), (4, .int (nI i))]) (K : ∀ (nk : Nat) (pa : Nat → Int32) (fa : Nat → Int32) (nc : Nat) (fo : Nat → Int32) (th : Nat → Int32) (tg : Nat → Int32) (nt : Nat) (tb : Nat → Int32) (te : Nat → Int32) (tk : Nat → Int32) (tt : Nat → Int32) (nu : Nat) (ub : Nat → Int32) (ue : Nat → Int32) (uk : Nat → Int32) (ut : Nat → Int32) (re : Nat → Int32) (ro : Nat → Int32) (fu : Nat → Int32) (bl : Nat → Int32) (go : Nat → Int32) (ra : Nat → Int32) (rc : Nat) (ex : Int32) (tc : Int32) (es : Int32) (wy : Int64) (tw : Int32) (tb4 : Nat → Int32) (te4 : Nat → Int32) (tk4 : Nat → Int32) (tt4 : Nat → Int32) (ab : Nat → Int32) (re4 : Nat → Int32) (go4 : Nat → Int32) (be : Nat → Int32) (fz : Nat → Int64) (T : Nat → Nat → Nat) (up : Nat → Nat → Bool) (H : Heap) (locs : List Loc) (ls : Array Slot), g3 nk fa up nt tb te tk tt T → g4 nk ab up nt tb4 te4 tk4 tt4 T → okC nk nc fo th tg → va_P (dC, dI) vwCl ((w3 a cI cZ nk pa fa nc fo th tg nt tb te tk tt nu ub ue uk ut re ro fu bl go ra rc ex tc es wy) ++ ((w4 b cI cZ tw nk pa nc fo th tg nt tb4 te4 tk4 tt4 ex tc es wy ab re4 go4 be) ++ ([(ou, .inl (cJ, 1, .inr (.inl fz)))]))) H → va_D (fun q => s.heap.size ≤ q) ((w3 a cI cZ nk pa fa nc fo th tg nt tb te tk tt nu ub ue uk ut re ro fu bl go ra rc ex tc es wy) ++ ((w4 b cI cZ tw nk pa nc fo th tg nt tb4 te4 tk4 tt4 ex tc es wy ab re4 go4 be) ++ ([(ou, .inl (cJ, 1, .inr (.inl fz)))]))) → va_S (fun q => s.heap.size ≤ q) s.heap H locs → lv_has ls 9 [(0, .ref sb), (1, .ref (a 0)), (2, .ref (b 0)), (3, .ref ou), (4, .int (nI i))] → W p l e room_1 s m #[Value.ref sb] below meth c H locs (k0 + 100) (n0 + 3000) Q (F0 m 1475 ls [])) : W p l e room_1 s m #[Value.ref sb] below meth c H locs k0 n0 Q (F0 m 1434 ls []) := by
  obtain ⟨hx, hb, hml, hown, hts, hX, hbl, hL, hK, hn, hzt, hzu, hzc, hlt⟩ := id hF0
  obtain ⟨A, hAe⟩ : ∃ A : Nat → Prop, A = fun q => s.heap.size ≤ q := ⟨_, rfl⟩
  have hbA : ¬ A sb := by rw [hAe]; exact Nat.not_le.mpr hbl
  have hA : ∀ q : Nat, s.heap.size ≤ q → A q := fun q h => by rw [hAe]; exact h
  rw [← hAe] at hD hS hzu K
  refine lv_aload_n hx hb dL_law_1434 rfl (lv_at hl 1 rfl) ?_
  have hPc := hP.sub (ws' := w3 a cI cZ nk pa fa nc fo th tg nt tb te tk tt nu ub ue uk ut re ro fu bl go ra rc ex tc es wy) [0, 1, 2, 3, 4, 5, 6, 7, 8, 9, 10, 11, 12, 13, 14, 15, 16, 17, 18, 19, 20, 21, 22, 23] rfl
  refine va_calli (va_runV (As := []) (rest := []) ⟨hx, hb, hml, hown, hts⟩ (c_X3_escaped l dC dI cI cZ cJ a nk pa fa nc fo th tg nt tb te tk tt nu ub ue uk ut re ro fu bl go ra rc ex tc es wy ) (cwV 0 hts gL_law_X3_escaped rfl rfl rfl (by decide +kernel) ⟨Nat.le_of_ble_eq_true rfl, Nat.le_of_ble_eq_true rfl⟩) ⟨zPre_blind, va_recv hK hPc (ci := 3) (q0 := 0) rfl rfl, zPre_at hPc hK hn⟩ rfl rfl hl.1 rfl (lv_room (Nat.le_of_ble_eq_true rfl)) dL_law_1435 ⟨by show _ ≤ 601024; omega, by show _ ≤ 7293034; omega⟩) hS (fun _ _ h => h.elim) (fun _ h => h.elim) (fun r_1 u_9 t H locs ht hvm hw hB hz1 hk1 hS => ?_)
  have hP := zkeep hP hk1
  replace hw := hw.symm
  subst hw
  refine lv_aload_n hx hb dL_law_1438 rfl (lv_at hl 2 rfl) ?_
  have hPc := hP.sub (ws' := w4 b cI cZ tw nk pa nc fo th tg nt tb4 te4 tk4 tt4 ex tc es wy ab re4 go4 be) [24, 25, 26, 27, 28, 29, 30, 31, 32, 33, 34, 35, 36] rfl
  have hDc := hD.sub (ws' := w4 b cI cZ tw nk pa nc fo th tg nt tb4 te4 tk4 tt4 ex tc es wy ab re4 go4 be) [24, 25, 26, 27, 28, 29, 30, 31, 32, 33, 34, 35, 36] (by decide) rfl
  have hFc := va_free (wc := w4 b cI cZ tw nk pa nc fo th tg nt tb4 te4 tk4 tt4 ex tc es wy ab re4 go4 be) hD hS hA [24, 25, 26, 27, 28, 29, 30, 31, 32, 33, 34, 35, 36] rfl
  refine va_calli (va_runV (As := []) (rest := [.int es]) ⟨hx, hb, hml, hown, hts⟩ (c_X4_escaped l dC dI cI cZ cJ b tw nk pa nc fo th tg nt tb4 te4 tk4 tt4 ex tc es wy ab re4 go4 be H.size ) (cwV 0 hts gL_law_X4_escaped rfl rfl rfl (by decide +kernel) ⟨Nat.le_of_ble_eq_true rfl, Nat.le_of_ble_eq_true rfl⟩) ⟨zWr_blind, va_recv hK hPc (ci := 4) (q0 := 0) rfl rfl, zWr_at hPc hK hn (hDc.weaken (fun _ _ _ _ => trivial))⟩ rfl rfl hl.1 rfl (lv_room (Nat.le_of_ble_eq_true rfl)) dL_law_1439 ⟨by show _ ≤ 601024; omega, by show _ ≤ 7293034; omega⟩) hS (fun q _ h => hFc q h) hFc (fun r_2 u_9 t H1 locs ht hvm hw hB hz1 hk1 hS => ?_)
  obtain ⟨hP1, -, hD1⟩ := hB
  rw [ht] at hP1
  obtain ⟨hP, hD⟩ := va_join (wr := (w3 a cI cZ nk pa fa nc fo th tg nt tb te tk tt nu ub ue uk ut re ro fu bl go ra rc ex tc es wy) ++ ([(ou, .inl (cJ, 1, .inr (.inl fz)))])) (w1 := w4 b cI cZ 0 nk pa nc fo th tg nt tb4 te4 tk4 tt4 ex tc es wy ab re4 go4 be) hP hD [24, 25, 26, 27, 28, 29, 30, 31, 32, 33, 34, 35, 36] [0, 1, 2, 3, 4, 5, 6, 7, 8, 9, 10, 11, 12, 13, 14, 15, 16, 17, 18, 19, 20, 21, 22, 23, 37] rfl rfl (by decide) (by decide) hk1 hFc hP1 hD1
  generalize H1 = H at hP hS ⊢
  have hP := hP.sub (ws' := (w3 a cI cZ nk pa fa nc fo th tg nt tb te tk tt nu ub ue uk ut re ro fu bl go ra rc ex tc es wy) ++ ((w4 b cI cZ 0 nk pa nc fo th tg nt tb4 te4 tk4 tt4 ex tc es wy ab re4 go4 be) ++ ([(ou, .inl (cJ, 1, .inr (.inl fz)))]))) [0, 1, 2, 3, 4, 5, 6, 7, 8, 9, 10, 11, 12, 13, 14, 15, 16, 17, 18, 19, 20, 21, 22, 23, 25, 26, 27, 28, 29, 30, 31, 32, 33, 34, 35, 36, 37, 24] rfl
  have hD := hD.sub (ws' := (w3 a cI cZ nk pa fa nc fo th tg nt tb te tk tt nu ub ue uk ut re ro fu bl go ra rc ex tc es wy) ++ ((w4 b cI cZ 0 nk pa nc fo th tg nt tb4 te4 tk4 tt4 ex tc es wy ab re4 go4 be) ++ ([(ou, .inl (cJ, 1, .inr (.inl fz)))]))) [0, 1, 2, 3, 4, 5, 6, 7, 8, 9, 10, 11, 12, 13, 14, 15, 16, 17, 18, 19, 20, 21, 22, 23, 25, 26, 27, 28, 29, 30, 31, 32, 33, 34, 35, 36, 37, 24] (by decide) rfl
  have hP : va_P (dC, dI) vwCl ((w3 a cI cZ nk pa fa nc fo th tg nt tb te tk tt nu ub ue uk ut re ro fu bl go ra rc ex tc es wy) ++ ((w4 b cI cZ 0 nk pa nc fo th tg nt tb4 te4 tk4 tt4 ex tc es wy ab re4 go4 be) ++ ([(ou, .inl (cJ, 1, .inr (.inl fz)))]))) H := hP
  have hD : va_D A ((w3 a cI cZ nk pa fa nc fo th tg nt tb te tk tt nu ub ue uk ut re ro fu bl go ra rc ex tc es wy) ++ ((w4 b cI cZ 0 nk pa nc fo th tg nt tb4 te4 tk4 tt4 ex tc es wy ab re4 go4 be) ++ ([(ou, .inl (cJ, 1, .inr (.inl fz)))]))) := hD
  replace hw := hw.symm
  subst hw
  refine lv_icmp_eq (tgt := 1475) hx hb dL_law_1442 (by decide) (fun c_3 => ?_) (fun c_3 => ?_)
  · skip
    skip
    refine W.widen (k := k0 + 100) (n := n0 + 3000) (by omega) (by omega) ?_
    exact K nk pa fa nc fo th tg nt tb te tk tt nu ub ue uk ut re ro fu bl go ra rc ex tc es wy 0 tb4 te4 tk4 tt4 ab re4 go4 be fz T up _ _ _ (by first | assumption | omega) (by first | assumption | omega) (by first | assumption | omega) hP hD hS (lv_sub hl [0, 1, 2, 3, 4] rfl)
  · exact absurd rfl c_3

set_option maxHeartbeats 4000000 in
set_option maxRecDepth 100000 in
theorem lk_30 {p : Program} {e : Env} {s : State} {m : MethodId} {below : List Frame} {meth : Method} {c : Code} {Q : State → Prop} (l : Launch) {sb L : Nat} {xs : Nat → Int32} (dC : Nat → ClassId) (dI : Nat → Nat → Nat) (cI cZ cJ : ClassId) (a b : Nat → Nat) (ou i k0 n0 : Nat) (hF0 : lwF p l s m c sb L xs dC dI cI cZ cJ) (hi : i + 5 ≤ L) (hk0 : k0 + 100 ≤ 601024) (hn0 : n0 + 3000 ≤ 7293034) (nk : Nat) (pa : Nat → Int32) (fa : Nat → Int32) (nc : Nat) (fo : Nat → Int32) (th : Nat → Int32) (tg : Nat → Int32) (nt : Nat) (tb : Nat → Int32) (te : Nat → Int32) (tk : Nat → Int32) (tt : Nat → Int32) (nu : Nat) (ub : Nat → Int32) (ue : Nat → Int32) (uk : Nat → Int32) (ut : Nat → Int32) (re : Nat → Int32) (ro : Nat → Int32) (fu : Nat → Int32) (bl : Nat → Int32) (go : Nat → Int32) (ra : Nat → Int32) (rc : Nat) (ex : Int32) (tc : Int32) (es : Int32) (wy : Int64) (tw : Int32) (tb4 : Nat → Int32) (te4 : Nat → Int32) (tk4 : Nat → Int32) (tt4 : Nat → Int32) (ab : Nat → Int32) (re4 : Nat → Int32) (go4 : Nat → Int32) (be : Nat → Int32) (fz : Nat → Int64) (T : Nat → Nat → Nat) (up : Nat → Nat → Bool) (hg : g3 nk fa up nt tb te tk tt T) (hg4 : g4 nk ab up nt tb4 te4 tk4 tt4 T) (hc : okC nk nc fo th tg) (H : Heap) (locs : List Loc) (ls : Array Slot) (hP : va_P (dC, dI) vwCl ((w3 a cI cZ nk pa fa nc fo th tg nt tb te tk tt nu ub ue uk ut re ro fu bl go ra rc ex tc es wy) ++ ((w4 b cI cZ tw nk pa nc fo th tg nt tb4 te4 tk4 tt4 ex tc es wy ab re4 go4 be) ++ ([(ou, .inl (cJ, 1, .inr (.inl fz)))]))) H) (hD : va_D (fun q => s.heap.size ≤ q) ((w3 a cI cZ nk pa fa nc fo th tg nt tb te tk tt nu ub ue uk ut re ro fu bl go ra rc ex tc es wy) ++ ((w4 b cI cZ tw nk pa nc fo th tg nt tb4 te4 tk4 tt4 ex tc es wy ab re4 go4 be) ++ ([(ou, .inl (cJ, 1, .inr (.inl fz)))])))) (hS : va_S (fun q => s.heap.size ≤ q) s.heap H locs) (hl : lv_has ls 9 [(0, .ref sb), (1, .ref (a 0)), (2, .ref (b 0)), (3, .ref ou), (4, .int (nI i))]) (K : ∀ (nk : Nat) (pa : Nat → Int32) (fa : Nat → Int32) (nc : Nat) (fo : Nat → Int32) (th : Nat → Int32) (tg : Nat → Int32) (nt : Nat) (tb : Nat → Int32) (te : Nat → Int32) (tk : Nat → Int32) (tt : Nat → Int32) (nu : Nat) (ub : Nat → Int32) (ue : Nat → Int32) (uk : Nat → Int32) (ut : Nat → Int32) (re : Nat → Int32) (ro : Nat → Int32) (fu : Nat → Int32) (bl : Nat → Int32) (go : Nat → Int32) (ra : Nat → Int32) (rc : Nat) (ex : Int32) (tc : Int32) (es : Int32) (wy : Int64) (tw : Int32) (tb4 : Nat → Int32) (te4 : Nat → Int32) (tk4 : Nat → Int32) (tt4 : Nat → Int32) (ab : Nat → Int32) (re4 : Nat → Int32) (go4 : Nat → Int32) (be : Nat → Int32) (fz : Nat → Int64) (T : Nat → Nat → Nat) (up : Nat → Nat → Bool) (H : Heap) (locs : List Loc) (ls : Array Slot), g3 nk fa up nt tb te tk tt T → g4 nk ab up nt tb4 te4 tk4 tt4 T → okC nk nc fo th tg → va_P (dC, dI) vwCl ((w3 a cI cZ nk pa fa nc fo th tg nt tb te tk tt nu ub ue uk ut re ro fu bl go ra rc ex tc es wy) ++ ((w4 b cI cZ tw nk pa nc fo th tg nt tb4 te4 tk4 tt4 ex tc es wy ab re4 go4 be) ++ ([(ou, .inl (cJ, 1, .inr (.inl fz)))]))) H → va_D (fun q => s.heap.size ≤ q) ((w3 a cI cZ nk pa fa nc fo th tg nt tb te tk tt nu ub ue uk ut re ro fu bl go ra rc ex tc es wy) ++ ((w4 b cI cZ tw nk pa nc fo th tg nt tb4 te4 tk4 tt4 ex tc es wy ab re4 go4 be) ++ ([(ou, .inl (cJ, 1, .inr (.inl fz)))]))) → va_S (fun q => s.heap.size ≤ q) s.heap H locs → lv_has ls 9 [(0, .ref sb), (1, .ref (a 0)), (2, .ref (b 0)), (3, .ref ou), (4, .int (nI i))] → W p l e room_1 s m #[Value.ref sb] below meth c H locs (k0 + 100) (n0 + 3000) Q (F0 m 1475 ls [])) : W p l e room_1 s m #[Value.ref sb] below meth c H locs k0 n0 Q (F0 m 1447 ls []) := by
  obtain ⟨hx, hb, hml, hown, hts, hX, hbl, hL, hK, hn, hzt, hzu, hzc, hlt⟩ := id hF0
  obtain ⟨A, hAe⟩ : ∃ A : Nat → Prop, A = fun q => s.heap.size ≤ q := ⟨_, rfl⟩
  have hbA : ¬ A sb := by rw [hAe]; exact Nat.not_le.mpr hbl
  have hA : ∀ q : Nat, s.heap.size ≤ q → A q := fun q h => by rw [hAe]; exact h
  rw [← hAe] at hD hS hzu K
  refine lv_aload_n hx hb dL_law_1447 rfl (lv_at hl 1 rfl) ?_
  have hPc := hP.sub (ws' := w3 a cI cZ nk pa fa nc fo th tg nt tb te tk tt nu ub ue uk ut re ro fu bl go ra rc ex tc es wy) [0, 1, 2, 3, 4, 5, 6, 7, 8, 9, 10, 11, 12, 13, 14, 15, 16, 17, 18, 19, 20, 21, 22, 23] rfl
  refine va_calll (va_runV (As := []) (rest := []) ⟨hx, hb, hml, hown, hts⟩ (c_X3_way l dC dI cI cZ cJ a nk pa fa nc fo th tg nt tb te tk tt nu ub ue uk ut re ro fu bl go ra rc ex tc es wy ) (cwV 0 hts gL_law_X3_way rfl rfl rfl (by decide +kernel) ⟨Nat.le_of_ble_eq_true rfl, Nat.le_of_ble_eq_true rfl⟩) ⟨zPre_blind, va_recv hK hPc (ci := 3) (q0 := 0) rfl rfl, zPre_at hPc hK hn⟩ rfl rfl hl.1 rfl (lv_room (Nat.le_of_ble_eq_true rfl)) dL_law_1448 ⟨by show _ ≤ 601024; omega, by show _ ≤ 7293034; omega⟩) hS (fun _ _ h => h.elim) (fun _ h => h.elim) (fun r_1 u_9 t H locs ht hvm hw hB hz1 hk1 hS => ?_)
  have hP := zkeep hP hk1
  replace hw := hw.symm
  subst hw
  refine lv_aload_n hx hb dL_law_1451 rfl (lv_at hl 2 rfl) ?_
  have hPc := hP.sub (ws' := w4 b cI cZ tw nk pa nc fo th tg nt tb4 te4 tk4 tt4 ex tc es wy ab re4 go4 be) [24, 25, 26, 27, 28, 29, 30, 31, 32, 33, 34, 35, 36] rfl
  have hDc := hD.sub (ws' := w4 b cI cZ tw nk pa nc fo th tg nt tb4 te4 tk4 tt4 ex tc es wy ab re4 go4 be) [24, 25, 26, 27, 28, 29, 30, 31, 32, 33, 34, 35, 36] (by decide) rfl
  have hFc := va_free (wc := w4 b cI cZ tw nk pa nc fo th tg nt tb4 te4 tk4 tt4 ex tc es wy ab re4 go4 be) hD hS hA [24, 25, 26, 27, 28, 29, 30, 31, 32, 33, 34, 35, 36] rfl
  refine va_calll (va_runV (As := []) (rest := [.long wy]) ⟨hx, hb, hml, hown, hts⟩ (c_X4_way l dC dI cI cZ cJ b tw nk pa nc fo th tg nt tb4 te4 tk4 tt4 ex tc es wy ab re4 go4 be H.size ) (cwV 0 hts gL_law_X4_way rfl rfl rfl (by decide +kernel) ⟨Nat.le_of_ble_eq_true rfl, Nat.le_of_ble_eq_true rfl⟩) ⟨zWr_blind, va_recv hK hPc (ci := 4) (q0 := 0) rfl rfl, zWr_at hPc hK hn (hDc.weaken (fun _ _ _ _ => trivial))⟩ rfl rfl hl.1 rfl (lv_room (Nat.le_of_ble_eq_true rfl)) dL_law_1452 ⟨by show _ ≤ 601024; omega, by show _ ≤ 7293034; omega⟩) hS (fun q _ h => hFc q h) hFc (fun r_2 u_9 t H1 locs ht hvm hw hB hz1 hk1 hS => ?_)
  obtain ⟨hP1, -, hD1⟩ := hB
  rw [ht] at hP1
  obtain ⟨hP, hD⟩ := va_join (wr := (w3 a cI cZ nk pa fa nc fo th tg nt tb te tk tt nu ub ue uk ut re ro fu bl go ra rc ex tc es wy) ++ ([(ou, .inl (cJ, 1, .inr (.inl fz)))])) (w1 := w4 b cI cZ 0 nk pa nc fo th tg nt tb4 te4 tk4 tt4 ex tc es wy ab re4 go4 be) hP hD [24, 25, 26, 27, 28, 29, 30, 31, 32, 33, 34, 35, 36] [0, 1, 2, 3, 4, 5, 6, 7, 8, 9, 10, 11, 12, 13, 14, 15, 16, 17, 18, 19, 20, 21, 22, 23, 37] rfl rfl (by decide) (by decide) hk1 hFc hP1 hD1
  generalize H1 = H at hP hS ⊢
  have hP := hP.sub (ws' := (w3 a cI cZ nk pa fa nc fo th tg nt tb te tk tt nu ub ue uk ut re ro fu bl go ra rc ex tc es wy) ++ ((w4 b cI cZ 0 nk pa nc fo th tg nt tb4 te4 tk4 tt4 ex tc es wy ab re4 go4 be) ++ ([(ou, .inl (cJ, 1, .inr (.inl fz)))]))) [0, 1, 2, 3, 4, 5, 6, 7, 8, 9, 10, 11, 12, 13, 14, 15, 16, 17, 18, 19, 20, 21, 22, 23, 25, 26, 27, 28, 29, 30, 31, 32, 33, 34, 35, 36, 37, 24] rfl
  have hD := hD.sub (ws' := (w3 a cI cZ nk pa fa nc fo th tg nt tb te tk tt nu ub ue uk ut re ro fu bl go ra rc ex tc es wy) ++ ((w4 b cI cZ 0 nk pa nc fo th tg nt tb4 te4 tk4 tt4 ex tc es wy ab re4 go4 be) ++ ([(ou, .inl (cJ, 1, .inr (.inl fz)))]))) [0, 1, 2, 3, 4, 5, 6, 7, 8, 9, 10, 11, 12, 13, 14, 15, 16, 17, 18, 19, 20, 21, 22, 23, 25, 26, 27, 28, 29, 30, 31, 32, 33, 34, 35, 36, 37, 24] (by decide) rfl
  have hP : va_P (dC, dI) vwCl ((w3 a cI cZ nk pa fa nc fo th tg nt tb te tk tt nu ub ue uk ut re ro fu bl go ra rc ex tc es wy) ++ ((w4 b cI cZ 0 nk pa nc fo th tg nt tb4 te4 tk4 tt4 ex tc es wy ab re4 go4 be) ++ ([(ou, .inl (cJ, 1, .inr (.inl fz)))]))) H := hP
  have hD : va_D A ((w3 a cI cZ nk pa fa nc fo th tg nt tb te tk tt nu ub ue uk ut re ro fu bl go ra rc ex tc es wy) ++ ((w4 b cI cZ 0 nk pa nc fo th tg nt tb4 te4 tk4 tt4 ex tc es wy ab re4 go4 be) ++ ([(ou, .inl (cJ, 1, .inr (.inl fz)))]))) := hD
  replace hw := hw.symm
  subst hw
  refine W.lcmp hx hb dL_law_1455 ?_
  refine lv_if_eq (tgt := 1475) hx hb dL_law_1456 (by decide) (fun c_3 => ?_) (fun c_3 => ?_)
  · skip
    skip
    refine W.widen (k := k0 + 100) (n := n0 + 3000) (by omega) (by omega) ?_
    exact K nk pa fa nc fo th tg nt tb te tk tt nu ub ue uk ut re ro fu bl go ra rc ex tc es wy 0 tb4 te4 tk4 tt4 ab re4 go4 be fz T up _ _ _ (by first | assumption | omega) (by first | assumption | omega) (by first | assumption | omega) hP hD hS (lv_sub hl [0, 1, 2, 3, 4] rfl)
  · exact absurd ((lg_cmp_eq _ _).mpr (by first | rfl | exact (bL_t hz9).symm | exact (bL_f hz9).symm)) c_3

set_option maxHeartbeats 4000000 in
set_option maxRecDepth 100000 in
theorem lk_31 {p : Program} {e : Env} {s : State} {m : MethodId} {below : List Frame} {meth : Method} {c : Code} {Q : State → Prop} (l : Launch) {sb L : Nat} {xs : Nat → Int32} (dC : Nat → ClassId) (dI : Nat → Nat → Nat) (cI cZ cJ : ClassId) (a b : Nat → Nat) (ou i k0 n0 : Nat) (hF0 : lwF p l s m c sb L xs dC dI cI cZ cJ) (hi : i + 5 ≤ L) (hk0 : k0 + 100 ≤ 601024) (hn0 : n0 + 3000 ≤ 7293034) (nk : Nat) (pa : Nat → Int32) (fa : Nat → Int32) (nc : Nat) (fo : Nat → Int32) (th : Nat → Int32) (tg : Nat → Int32) (nt : Nat) (tb : Nat → Int32) (te : Nat → Int32) (tk : Nat → Int32) (tt : Nat → Int32) (nu : Nat) (ub : Nat → Int32) (ue : Nat → Int32) (uk : Nat → Int32) (ut : Nat → Int32) (re : Nat → Int32) (ro : Nat → Int32) (fu : Nat → Int32) (bl : Nat → Int32) (go : Nat → Int32) (ra : Nat → Int32) (rc : Nat) (ex : Int32) (tc : Int32) (es : Int32) (wy : Int64) (tw : Int32) (tb4 : Nat → Int32) (te4 : Nat → Int32) (tk4 : Nat → Int32) (tt4 : Nat → Int32) (ab : Nat → Int32) (re4 : Nat → Int32) (go4 : Nat → Int32) (be : Nat → Int32) (fz : Nat → Int64) (T : Nat → Nat → Nat) (up : Nat → Nat → Bool) (hg : g3 nk fa up nt tb te tk tt T) (hg4 : g4 nk ab up nt tb4 te4 tk4 tt4 T) (hc : okC nk nc fo th tg) (H : Heap) (locs : List Loc) (ls : Array Slot) (hP : va_P (dC, dI) vwCl ((w3 a cI cZ nk pa fa nc fo th tg nt tb te tk tt nu ub ue uk ut re ro fu bl go ra rc ex tc es wy) ++ ((w4 b cI cZ tw nk pa nc fo th tg nt tb4 te4 tk4 tt4 ex tc es wy ab re4 go4 be) ++ ([(ou, .inl (cJ, 1, .inr (.inl fz)))]))) H) (hD : va_D (fun q => s.heap.size ≤ q) ((w3 a cI cZ nk pa fa nc fo th tg nt tb te tk tt nu ub ue uk ut re ro fu bl go ra rc ex tc es wy) ++ ((w4 b cI cZ tw nk pa nc fo th tg nt tb4 te4 tk4 tt4 ex tc es wy ab re4 go4 be) ++ ([(ou, .inl (cJ, 1, .inr (.inl fz)))])))) (hS : va_S (fun q => s.heap.size ≤ q) s.heap H locs) (hl : lv_has ls 9 [(0, .ref sb), (1, .ref (a 0)), (2, .ref (b 0)), (3, .ref ou), (4, .int (nI i))]) (K : ∀ (nk : Nat) (pa : Nat → Int32) (fa : Nat → Int32) (nc : Nat) (fo : Nat → Int32) (th : Nat → Int32) (tg : Nat → Int32) (nt : Nat) (tb : Nat → Int32) (te : Nat → Int32) (tk : Nat → Int32) (tt : Nat → Int32) (nu : Nat) (ub : Nat → Int32) (ue : Nat → Int32) (uk : Nat → Int32) (ut : Nat → Int32) (re : Nat → Int32) (ro : Nat → Int32) (fu : Nat → Int32) (bl : Nat → Int32) (go : Nat → Int32) (ra : Nat → Int32) (rc : Nat) (ex : Int32) (tc : Int32) (es : Int32) (wy : Int64) (tw : Int32) (tb4 : Nat → Int32) (te4 : Nat → Int32) (tk4 : Nat → Int32) (tt4 : Nat → Int32) (ab : Nat → Int32) (re4 : Nat → Int32) (go4 : Nat → Int32) (be : Nat → Int32) (fz : Nat → Int64) (T : Nat → Nat → Nat) (up : Nat → Nat → Bool) (H : Heap) (locs : List Loc) (ls : Array Slot), g3 nk fa up nt tb te tk tt T → g4 nk ab up nt tb4 te4 tk4 tt4 T → okC nk nc fo th tg → va_P (dC, dI) vwCl ((w3 a cI cZ nk pa fa nc fo th tg nt tb te tk tt nu ub ue uk ut re ro fu bl go ra rc ex tc es wy) ++ ((w4 b cI cZ tw nk pa nc fo th tg nt tb4 te4 tk4 tt4 ex tc es wy ab re4 go4 be) ++ ([(ou, .inl (cJ, 1, .inr (.inl fz)))]))) H → va_D (fun q => s.heap.size ≤ q) ((w3 a cI cZ nk pa fa nc fo th tg nt tb te tk tt nu ub ue uk ut re ro fu bl go ra rc ex tc es wy) ++ ((w4 b cI cZ tw nk pa nc fo th tg nt tb4 te4 tk4 tt4 ex tc es wy ab re4 go4 be) ++ ([(ou, .inl (cJ, 1, .inr (.inl fz)))]))) → va_S (fun q => s.heap.size ≤ q) s.heap H locs → lv_has ls 9 [(0, .ref sb), (1, .ref (a 0)), (2, .ref (b 0)), (3, .ref ou), (4, .int (nI i))] → W p l e room_1 s m #[Value.ref sb] below meth c H locs (k0 + 100) (n0 + 3000) Q (F0 m 1475 ls [])) : W p l e room_1 s m #[Value.ref sb] below meth c H locs k0 n0 Q (F0 m 1461 ls []) := by
  obtain ⟨hx, hb, hml, hown, hts, hX, hbl, hL, hK, hn, hzt, hzu, hzc, hlt⟩ := id hF0
  obtain ⟨A, hAe⟩ : ∃ A : Nat → Prop, A = fun q => s.heap.size ≤ q := ⟨_, rfl⟩
  have hbA : ¬ A sb := by rw [hAe]; exact Nat.not_le.mpr hbl
  have hA : ∀ q : Nat, s.heap.size ≤ q → A q := fun q h => by rw [hAe]; exact h
  rw [← hAe] at hD hS hzu K
  refine lv_aload_n hx hb dL_law_1461 rfl (lv_at hl 1 rfl) ?_
  have hPc := hP.sub (ws' := w3 a cI cZ nk pa fa nc fo th tg nt tb te tk tt nu ub ue uk ut re ro fu bl go ra rc ex tc es wy) [0, 1, 2, 3, 4, 5, 6, 7, 8, 9, 10, 11, 12, 13, 14, 15, 16, 17, 18, 19, 20, 21, 22, 23] rfl
  refine va_calll (va_runV (As := []) (rest := []) ⟨hx, hb, hml, hown, hts⟩ (c_X3_digest l dC dI cI cZ cJ a nk pa fa nc fo th tg nt tb te tk tt nu ub ue uk ut re ro fu bl go ra rc ex tc es wy T up (by first | assumption | omega) (by first | assumption | omega)) (cwV 0 hts gL_law_X3_digest rfl rfl rfl (by decide +kernel) ⟨Nat.le_of_ble_eq_true rfl, Nat.le_of_ble_eq_true rfl⟩) ⟨zPre_blind, va_recv hK hPc (ci := 3) (q0 := 0) rfl rfl, zPre_at hPc hK hn⟩ rfl rfl hl.1 rfl (lv_room (Nat.le_of_ble_eq_true rfl)) dL_law_1462 ⟨by show _ ≤ 601024; omega, by show _ ≤ 7293034; omega⟩) hS (fun _ _ h => h.elim) (fun _ h => h.elim) (fun r_1 u_9 t H locs ht hvm hw hB hz1 hk1 hS => ?_)
  have hP := zkeep hP hk1
  subst hw
  refine lv_aload_n hx hb dL_law_1465 rfl (lv_at hl 2 rfl) ?_
  have hPc := hP.sub (ws' := w4 b cI cZ tw nk pa nc fo th tg nt tb4 te4 tk4 tt4 ex tc es wy ab re4 go4 be) [24, 25, 26, 27, 28, 29, 30, 31, 32, 33, 34, 35, 36] rfl
  have hDc := hD.sub (ws' := w4 b cI cZ tw nk pa nc fo th tg nt tb4 te4 tk4 tt4 ex tc es wy ab re4 go4 be) [24, 25, 26, 27, 28, 29, 30, 31, 32, 33, 34, 35, 36] (by decide) rfl
  have hFc := va_free (wc := w4 b cI cZ tw nk pa nc fo th tg nt tb4 te4 tk4 tt4 ex tc es wy ab re4 go4 be) hD hS hA [24, 25, 26, 27, 28, 29, 30, 31, 32, 33, 34, 35, 36] rfl
  refine va_calll (va_runV (As := []) (rest := [.long (dgA nk pa nc fo th tg nt T ex tc es)]) ⟨hx, hb, hml, hown, hts⟩ (c_X4_digest l dC dI cI cZ cJ b tw nk pa nc fo th tg nt tb4 te4 tk4 tt4 ex tc es wy ab re4 go4 be T up H.size (by first | assumption | omega) (by first | assumption | omega)) (cwV 0 hts gL_law_X4_digest rfl rfl rfl (by decide +kernel) ⟨Nat.le_of_ble_eq_true rfl, Nat.le_of_ble_eq_true rfl⟩) ⟨zWr_blind, va_recv hK hPc (ci := 4) (q0 := 0) rfl rfl, zWr_at hPc hK hn (hDc.weaken (fun _ _ _ _ => trivial))⟩ rfl rfl hl.1 rfl (lv_room (Nat.le_of_ble_eq_true rfl)) dL_law_1466 ⟨by show _ ≤ 601024; omega, by show _ ≤ 7293034; omega⟩) hS (fun q _ h => hFc q h) hFc (fun r_2 u_9 t H1 locs ht hvm hw hB hz1 hk1 hS => ?_)
  obtain ⟨hP1, -, hD1⟩ := hB
  rw [ht] at hP1
  obtain ⟨hP, hD⟩ := va_join (wr := (w3 a cI cZ nk pa fa nc fo th tg nt tb te tk tt nu ub ue uk ut re ro fu bl go ra rc ex tc es wy) ++ ([(ou, .inl (cJ, 1, .inr (.inl fz)))])) (w1 := w4 b cI cZ 0 nk pa nc fo th tg nt tb4 te4 tk4 tt4 ex tc es wy ab re4 go4 be) hP hD [24, 25, 26, 27, 28, 29, 30, 31, 32, 33, 34, 35, 36] [0, 1, 2, 3, 4, 5, 6, 7, 8, 9, 10, 11, 12, 13, 14, 15, 16, 17, 18, 19, 20, 21, 22, 23, 37] rfl rfl (by decide) (by decide) hk1 hFc hP1 hD1
  generalize H1 = H at hP hS ⊢
  have hP := hP.sub (ws' := (w3 a cI cZ nk pa fa nc fo th tg nt tb te tk tt nu ub ue uk ut re ro fu bl go ra rc ex tc es wy) ++ ((w4 b cI cZ 0 nk pa nc fo th tg nt tb4 te4 tk4 tt4 ex tc es wy ab re4 go4 be) ++ ([(ou, .inl (cJ, 1, .inr (.inl fz)))]))) [0, 1, 2, 3, 4, 5, 6, 7, 8, 9, 10, 11, 12, 13, 14, 15, 16, 17, 18, 19, 20, 21, 22, 23, 25, 26, 27, 28, 29, 30, 31, 32, 33, 34, 35, 36, 37, 24] rfl
  have hD := hD.sub (ws' := (w3 a cI cZ nk pa fa nc fo th tg nt tb te tk tt nu ub ue uk ut re ro fu bl go ra rc ex tc es wy) ++ ((w4 b cI cZ 0 nk pa nc fo th tg nt tb4 te4 tk4 tt4 ex tc es wy ab re4 go4 be) ++ ([(ou, .inl (cJ, 1, .inr (.inl fz)))]))) [0, 1, 2, 3, 4, 5, 6, 7, 8, 9, 10, 11, 12, 13, 14, 15, 16, 17, 18, 19, 20, 21, 22, 23, 25, 26, 27, 28, 29, 30, 31, 32, 33, 34, 35, 36, 37, 24] (by decide) rfl
  have hP : va_P (dC, dI) vwCl ((w3 a cI cZ nk pa fa nc fo th tg nt tb te tk tt nu ub ue uk ut re ro fu bl go ra rc ex tc es wy) ++ ((w4 b cI cZ 0 nk pa nc fo th tg nt tb4 te4 tk4 tt4 ex tc es wy ab re4 go4 be) ++ ([(ou, .inl (cJ, 1, .inr (.inl fz)))]))) H := hP
  have hD : va_D A ((w3 a cI cZ nk pa fa nc fo th tg nt tb te tk tt nu ub ue uk ut re ro fu bl go ra rc ex tc es wy) ++ ((w4 b cI cZ 0 nk pa nc fo th tg nt tb4 te4 tk4 tt4 ex tc es wy ab re4 go4 be) ++ ([(ou, .inl (cJ, 1, .inr (.inl fz)))]))) := hD
  subst hw
  refine W.lcmp hx hb dL_law_1469 ?_
  refine lv_if_eq (tgt := 1475) hx hb dL_law_1470 (by decide) (fun c_3 => ?_) (fun c_3 => ?_)
  · skip
    skip
    refine W.widen (k := k0 + 100) (n := n0 + 3000) (by omega) (by omega) ?_
    exact K nk pa fa nc fo th tg nt tb te tk tt nu ub ue uk ut re ro fu bl go ra rc ex tc es wy 0 tb4 te4 tk4 tt4 ab re4 go4 be fz T up _ _ _ (by first | assumption | omega) (by first | assumption | omega) (by first | assumption | omega) hP hD hS (lv_sub hl [0, 1, 2, 3, 4] rfl)
  · exact absurd ((lg_cmp_eq _ _).mpr (by first | rfl | exact (bL_t hz9).symm | exact (bL_f hz9).symm)) c_3

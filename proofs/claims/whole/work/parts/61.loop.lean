theorem zl5 {L i : Nat} (hL : L ≤ 2560) (hi : i ≤ 2600) (h : ¬ (Int32.ofNat L - 5 < nI i)) : i + 5 ≤ L := by
  rw [Int32.lt_iff_toInt_lt, Int32.toInt_sub] at h
  have h1 : (Int32.ofNat L).toInt = (L : Int) := nI_toInt (n := L) (by omega)
  have h2 : (nI i).toInt = (i : Int) := nI_toInt (by omega)
  have h3 : (5 : Int32).toInt = 5 := by decide
  rw [h1, h2, h3, Int.bmod_def] at h
  split at h <;> omega
theorem zl_and (x : Int32) : ∃ n, n < 32 ∧ x &&& 31 = nI n := by
  refine ⟨(x &&& 31).toBitVec.toNat, ?_, ?_⟩
  · have h : (x &&& 31).toBitVec = x.toBitVec &&& 31#32 := rfl
    rw [h, BitVec.toNat_and]
    exact Nat.lt_of_le_of_lt Nat.and_le_right (by decide)
  · apply Int32.toBitVec_inj.mp
    show _ = BitVec.ofNat 32 _
    simp
theorem lwF_set {p : Program} {l : Launch} {s : State} {m : MethodId} {c : Code} {sb L : Nat} {xs : Nat → Int32} {dC : Nat → ClassId} {dI : Nat → Nat → Nat} {cI cZ cJ : ClassId} (h : lwF p l s m c sb L xs dC dI cI cZ cJ) (d0 : Drawn) : lwF p l (s.setDrawn d0) m c sb L xs dC dI cI cZ cJ := by
  obtain ⟨hx, hb, hml, hown, hts, hX, hbl, hL, hK, hn, hzt, hzu, hzc, hlt⟩ := h
  exact ⟨hx, hb, hml, hown, dr_words hts d0, hX, hbl, hL, va_K.moved (Vm.Alike.refl s.vm) hK, zn_same (s := s) (U := s.setDrawn d0) rfl hn, zt_same (s := s) (U := s.setDrawn d0) rfl hzt, ⟨vx_Zq.moved (Vm.Alike.refl s.vm) hzu.1, vx_Zq.moved (Vm.Alike.refl s.vm) hzu.2⟩, zc_moved (Vm.Alike.refl s.vm) hzc, hlt⟩

set_option maxHeartbeats 4000000 in
set_option maxRecDepth 100000 in
/-- the head of the loop: the end, or one more call -/
theorem lw_head {p : Program} {e : Env} {s : State} {m : MethodId} {below : List Frame} {meth : Method} {c : Code} (l : Launch) {sb L : Nat} {xs : Nat → Int32} (dC : Nat → ClassId) (dI : Nat → Nat → Nat) (cI cZ cJ : ClassId) (a b : Nat → Nat) (ou : Nat) (hF0 : lwF p l s m c sb L xs dC dI cI cZ cJ) (hr : meth.sig.returnType = ret) (hlocks : meth.locks = false) (i k0 n0 : Nat) (d0 : Drawn) (hd0 : s.drawn.sameBut d0 lw_cs) (hi : i ≤ 2600) (hk0 : k0 ≤ 601024) (hn0 : n0 ≤ 7293034) (H : Heap) (locs : List Loc) (ls : Array Slot) (hS : va_S (fun q => s.heap.size ≤ q) s.heap H locs) (hl : lv_has ls 9 [(0, .ref sb), (1, .ref (a 0)), (2, .ref (b 0)), (3, .ref ou), (4, .int (nI i))]) (K1 : i + 5 ≤ L → W p l e room_1 (s.setDrawn d0) m #[Value.ref sb] below meth c H locs k0 n0 (lw_Z below #[Value.ref sb] s) (F0 m 32 ls [])) : W p l e room_1 (s.setDrawn d0) m #[Value.ref sb] below meth c H locs k0 n0 (lw_Z below #[Value.ref sb] s) (F0 m 23 ls []) := by
  obtain ⟨hx, hb, hml, hown, hts, hX, hbl, hL, hK, hn, hzt, hzu, hzc, hlt⟩ := id hF0
  have hbA : ¬ (fun q : Nat => s.heap.size ≤ q) sb := Nat.not_le.mpr hbl
  refine lv_iload hx hb dL_law_23 (lv_at hl 4 rfl) ?_
  refine lv_aload_n hx hb dL_law_25 rfl (lv_at hl 0 rfl) ?_
  refine va_slen hx hb hX hbl hbA hS dL_law_26 ?_
  refine lv_iconst (v := 5) hx hb dL_law_27 (by decide) ?_
  refine lv_isub hx hb dL_law_28 ?_
  refine lv_icmp_gt (tgt := 1481) hx hb dL_law_29 (by decide) (fun c9 => ?_) (fun c9 => ?_)
  · refine lv_iconst (v := 1) hx hb dL_law_1481 (by decide) ?_
    refine va_forget (fun q hq => hS.2.2 q hq) ?_
    refine W.widen (k := 601024) (n := 7293034) hk0 hn0 ?_
    exact lw_ret hd0 hx hb hr hlocks dL_law_1482
  · exact K1 (zl5 hL hi c9)

set_option maxHeartbeats 4000000 in
set_option maxRecDepth 100000 in
/-- the loop of the law -/
theorem lw_loop {p : Program} {e : Env} {s : State} {m : MethodId} {below : List Frame} {meth : Method} {c : Code} (l : Launch) {sb L : Nat} {xs : Nat → Int32} (dC : Nat → ClassId) (dI : Nat → Nat → Nat) (cI cZ cJ : ClassId) (a b : Nat → Nat) (ou : Nat) (hF0 : lwF p l s m c sb L xs dC dI cI cZ cJ) (hr : meth.sig.returnType = ret) (hlocks : meth.locks = false) : ∀ (f i k0 n0 : Nat) (nk : Nat) (pa : Nat → Int32) (fa : Nat → Int32) (nc : Nat) (fo : Nat → Int32) (th : Nat → Int32) (tg : Nat → Int32) (nt : Nat) (tb : Nat → Int32) (te : Nat → Int32) (tk : Nat → Int32) (tt : Nat → Int32) (nu : Nat) (ub : Nat → Int32) (ue : Nat → Int32) (uk : Nat → Int32) (ut : Nat → Int32) (re : Nat → Int32) (ro : Nat → Int32) (fu : Nat → Int32) (bl : Nat → Int32) (go : Nat → Int32) (ra : Nat → Int32) (rc : Nat) (ex : Int32) (tc : Int32) (es : Int32) (wy : Int64) (tw : Int32) (tb4 : Nat → Int32) (te4 : Nat → Int32) (tk4 : Nat → Int32) (tt4 : Nat → Int32) (ab : Nat → Int32) (re4 : Nat → Int32) (go4 : Nat → Int32) (be : Nat → Int32) (fz : Nat → Int64) (T : Nat → Nat → Nat) (up : Nat → Nat → Bool) (d0 : Drawn) (H : Heap) (locs : List Loc) (ls : Array Slot), s.drawn.sameBut d0 lw_cs → L < i + f → i ≤ 2600 → k0 ≤ 100 + 20 * i → n0 ≤ 3000 + 600 * i → g3 nk fa up nt tb te tk tt T → g4 nk ab up nt tb4 te4 tk4 tt4 T → okC nk nc fo th tg → va_P (dC, dI) vwCl ((w3 a cI cZ nk pa fa nc fo th tg nt tb te tk tt nu ub ue uk ut re ro fu bl go ra rc ex tc es wy) ++ ((w4 b cI cZ tw nk pa nc fo th tg nt tb4 te4 tk4 tt4 ex tc es wy ab re4 go4 be) ++ ([(ou, .inl (cJ, 1, .inr (.inl fz)))]))) H → va_D (fun q => s.heap.size ≤ q) ((w3 a cI cZ nk pa fa nc fo th tg nt tb te tk tt nu ub ue uk ut re ro fu bl go ra rc ex tc es wy) ++ ((w4 b cI cZ tw nk pa nc fo th tg nt tb4 te4 tk4 tt4 ex tc es wy ab re4 go4 be) ++ ([(ou, .inl (cJ, 1, .inr (.inl fz)))]))) → va_S (fun q => s.heap.size ≤ q) s.heap H locs → lv_has ls 9 [(0, .ref sb), (1, .ref (a 0)), (2, .ref (b 0)), (3, .ref ou), (4, .int (nI i))] → W p l e room_1 (s.setDrawn d0) m #[Value.ref sb] below meth c H locs k0 n0 (lw_Z below #[Value.ref sb] s) (F0 m 23 ls []) := by
  intro f
  induction f with
  | zero =>
    intro i k0 n0 nk pa fa nc fo th tg nt tb te tk tt nu ub ue uk ut re ro fu bl go ra rc ex tc es wy tw tb4 te4 tk4 tt4 ab re4 go4 be fz T up d0 H locs ls hd0 hf hi hk0 hn0 hg hg4 hc hP hD hS hl
    exact lw_head l dC dI cI cZ cJ a b ou hF0 hr hlocks i k0 n0 d0 hd0 hi (by omega) (by omega) H locs ls hS hl (fun h5 => absurd hf (by omega))
  | succ f ih =>
    intro i k0 n0 nk pa fa nc fo th tg nt tb te tk tt nu ub ue uk ut re ro fu bl go ra rc ex tc es wy tw tb4 te4 tk4 tt4 ab re4 go4 be fz T up d0 H locs ls hd0 hf hi hk0 hn0 hg hg4 hc hP hD hS hl
    refine lw_head l dC dI cI cZ cJ a b ou hF0 hr hlocks i k0 n0 d0 hd0 hi (by omega) (by omega) H locs ls hS hl (fun h5 => ?_)
    have hF1 := lwF_set hF0 d0
    obtain ⟨hx, hb, hml, hown, hts, hX, hbl, hL, hK, hn, hzt, hzu, hzc, hlt⟩ := id hF0
    have hbA : ¬ (fun q : Nat => s.heap.size ≤ q) sb := Nat.not_le.mpr hbl
    have J : ∀ (nk : Nat) (pa : Nat → Int32) (fa : Nat → Int32) (nc : Nat) (fo : Nat → Int32) (th : Nat → Int32) (tg : Nat → Int32) (nt : Nat) (tb : Nat → Int32) (te : Nat → Int32) (tk : Nat → Int32) (tt : Nat → Int32) (nu : Nat) (ub : Nat → Int32) (ue : Nat → Int32) (uk : Nat → Int32) (ut : Nat → Int32) (re : Nat → Int32) (ro : Nat → Int32) (fu : Nat → Int32) (bl : Nat → Int32) (go : Nat → Int32) (ra : Nat → Int32) (rc : Nat) (ex : Int32) (tc : Int32) (es : Int32) (wy : Int64) (tw : Int32) (tb4 : Nat → Int32) (te4 : Nat → Int32) (tk4 : Nat → Int32) (tt4 : Nat → Int32) (ab : Nat → Int32) (re4 : Nat → Int32) (go4 : Nat → Int32) (be : Nat → Int32) (fz : Nat → Int64) (T : Nat → Nat → Nat) (up : Nat → Nat → Bool) (d1 : Drawn) (H : Heap) (locs : List Loc) (ls : Array Slot), s.drawn.sameBut d1 lw_cs → g3 nk fa up nt tb te tk tt T → g4 nk ab up nt tb4 te4 tk4 tt4 T → okC nk nc fo th tg → va_P (dC, dI) vwCl ((w3 a cI cZ nk pa fa nc fo th tg nt tb te tk tt nu ub ue uk ut re ro fu bl go ra rc ex tc es wy) ++ ((w4 b cI cZ tw nk pa nc fo th tg nt tb4 te4 tk4 tt4 ex tc es wy ab re4 go4 be) ++ ([(ou, .inl (cJ, 1, .inr (.inl fz)))]))) H → va_D (fun q => s.heap.size ≤ q) ((w3 a cI cZ nk pa fa nc fo th tg nt tb te tk tt nu ub ue uk ut re ro fu bl go ra rc ex tc es wy) ++ ((w4 b cI cZ tw nk pa nc fo th tg nt tb4 te4 tk4 tt4 ex tc es wy ab re4 go4 be) ++ ([(ou, .inl (cJ, 1, .inr (.inl fz)))]))) → va_S (fun q => s.heap.size ≤ q) s.heap H locs → lv_has ls 9 [(0, .ref sb), (1, .ref (a 0)), (2, .ref (b 0)), (3, .ref ou), (4, .int (nI i))] → W p l e room_1 (s.setDrawn d1) m #[Value.ref sb] below meth c H locs (k0 + 100) (n0 + 3000) (lw_Z below #[Value.ref sb] s) (F0 m 1475 ls []) := by
      intro nk pa fa nc fo th tg nt tb te tk tt nu ub ue uk ut re ro fu bl go ra rc ex tc es wy tw tb4 te4 tk4 tt4 ab re4 go4 be fz T up d1 H locs ls hd1 hg hg4 hc hP hD hS hl
      refine lv_iinc (v := nI (i + 5)) (lv' := [(4, .int (nI (i + 5))), (0, .ref sb), (1, .ref (a 0)), (2, .ref (b 0)), (3, .ref ou)]) hx hb dL_law_1475 hl (k := 4) rfl (zz_inc i 5) (by decide) rfl (fun ls hl => ?_)
      refine lv_goto (tgt := 23) hx hb dL_law_1478 (by decide) ?_
      exact ih (i + 5) (k0 + 100) (n0 + 3000) nk pa fa nc fo th tg nt tb te tk tt nu ub ue uk ut re ro fu bl go ra rc ex tc es wy tw tb4 te4 tk4 tt4 ab re4 go4 be fz T up d1 H locs ls hd1 (by omega) (by omega) (by omega) (by omega) hg hg4 hc hP hD hS (lv_sub hl [1, 2, 3, 4, 0] rfl)
    clear ih
    have hX1 : va_X sb L xs (s.setDrawn d0) s.heap := hX
    refine lv_aload_n hx hb dL_law_32 rfl (lv_at hl 0 rfl) ?_
    refine lv_iload hx hb dL_law_33 (lv_at hl 4 rfl) ?_
    refine va_sld hx hb hX1 hbl hbA hS (vp_in_nI (n := i) (by omega) (by omega)) dL_law_35 ?_
    refine zz_top (y := xs i) (congrArg _ (nI_clamp (by omega))) ?_
    refine lv_bipush (v := 31) hx hb dL_law_36 (by decide) ?_
    refine lv_iand hx hb dL_law_38 ?_
    obtain ⟨n9, hn9, hy9⟩ := zl_and (xs i)
    rw [hy9]
    by_cases w_0 : n9 = 0
    · subst w_0
      refine lv_tableIn (off := 141) (tgt := 180) hx hb dL_law_39 (by decide) (by decide) (by decide) (by decide) ?_
      exact lk_0 (s := s.setDrawn d0) l dC dI cI cZ cJ a b ou i k0 n0 hF1 h5 (by omega) (by omega) nk pa fa nc fo th tg nt tb te tk tt nu ub ue uk ut re ro fu bl go ra rc ex tc es wy tw tb4 te4 tk4 tt4 ab re4 go4 be fz T up hg hg4 hc H locs ls hP hD hS hl (fun nk pa fa nc fo th tg nt tb te tk tt nu ub ue uk ut re ro fu bl go ra rc ex tc es wy tw tb4 te4 tk4 tt4 ab re4 go4 be fz T up H locs ls hg hg4 hc hP hD hS hl => J nk pa fa nc fo th tg nt tb te tk tt nu ub ue uk ut re ro fu bl go ra rc ex tc es wy tw tb4 te4 tk4 tt4 ab re4 go4 be fz T up d0 H locs ls hd0 hg hg4 hc hP hD hS hl)
    by_cases w_1 : n9 = 1
    · subst w_1
      refine lv_tableIn (off := 197) (tgt := 236) hx hb dL_law_39 (by decide) (by decide) (by decide) (by decide) ?_
      exact lk_1 (s := s.setDrawn d0) l dC dI cI cZ cJ a b ou i k0 n0 hF1 h5 (by omega) (by omega) nk pa fa nc fo th tg nt tb te tk tt nu ub ue uk ut re ro fu bl go ra rc ex tc es wy tw tb4 te4 tk4 tt4 ab re4 go4 be fz T up hg hg4 hc H locs ls hP hD hS hl (fun nk pa fa nc fo th tg nt tb te tk tt nu ub ue uk ut re ro fu bl go ra rc ex tc es wy tw tb4 te4 tk4 tt4 ab re4 go4 be fz T up H locs ls hg hg4 hc hP hD hS hl => J nk pa fa nc fo th tg nt tb te tk tt nu ub ue uk ut re ro fu bl go ra rc ex tc es wy tw tb4 te4 tk4 tt4 ab re4 go4 be fz T up d0 H locs ls hd0 hg hg4 hc hP hD hS hl)
    by_cases w_2 : n9 = 2
    · subst w_2
      refine lv_tableIn (off := 210) (tgt := 249) hx hb dL_law_39 (by decide) (by decide) (by decide) (by decide) ?_
      exact lk_2 (s := s.setDrawn d0) l dC dI cI cZ cJ a b ou i k0 n0 hF1 h5 (by omega) (by omega) nk pa fa nc fo th tg nt tb te tk tt nu ub ue uk ut re ro fu bl go ra rc ex tc es wy tw tb4 te4 tk4 tt4 ab re4 go4 be fz T up hg hg4 hc H locs ls hP hD hS hl (fun nk pa fa nc fo th tg nt tb te tk tt nu ub ue uk ut re ro fu bl go ra rc ex tc es wy tw tb4 te4 tk4 tt4 ab re4 go4 be fz T up H locs ls hg hg4 hc hP hD hS hl => J nk pa fa nc fo th tg nt tb te tk tt nu ub ue uk ut re ro fu bl go ra rc ex tc es wy tw tb4 te4 tk4 tt4 ab re4 go4 be fz T up d0 H locs ls hd0 hg hg4 hc hP hD hS hl)
    by_cases w_3 : n9 = 3
    · subst w_3
      refine lv_tableIn (off := 285) (tgt := 324) hx hb dL_law_39 (by decide) (by decide) (by decide) (by decide) ?_
      exact lk_3 (s := s.setDrawn d0) l dC dI cI cZ cJ a b ou i k0 n0 hF1 h5 (by omega) (by omega) nk pa fa nc fo th tg nt tb te tk tt nu ub ue uk ut re ro fu bl go ra rc ex tc es wy tw tb4 te4 tk4 tt4 ab re4 go4 be fz T up hg hg4 hc H locs ls hP hD hS hl (fun nk pa fa nc fo th tg nt tb te tk tt nu ub ue uk ut re ro fu bl go ra rc ex tc es wy tw tb4 te4 tk4 tt4 ab re4 go4 be fz T up H locs ls hg hg4 hc hP hD hS hl => J nk pa fa nc fo th tg nt tb te tk tt nu ub ue uk ut re ro fu bl go ra rc ex tc es wy tw tb4 te4 tk4 tt4 ab re4 go4 be fz T up d0 H locs ls hd0 hg hg4 hc hP hD hS hl)
    by_cases w_4 : n9 = 4
    · subst w_4
      refine lv_tableIn (off := 353) (tgt := 392) hx hb dL_law_39 (by decide) (by decide) (by decide) (by decide) ?_
      exact lk_4 (s := s.setDrawn d0) l dC dI cI cZ cJ a b ou i k0 n0 hF1 h5 (by omega) (by omega) nk pa fa nc fo th tg nt tb te tk tt nu ub ue uk ut re ro fu bl go ra rc ex tc es wy tw tb4 te4 tk4 tt4 ab re4 go4 be fz T up hg hg4 hc H locs ls hP hD hS hl (fun nk pa fa nc fo th tg nt tb te tk tt nu ub ue uk ut re ro fu bl go ra rc ex tc es wy tw tb4 te4 tk4 tt4 ab re4 go4 be fz T up H locs ls hg hg4 hc hP hD hS hl => J nk pa fa nc fo th tg nt tb te tk tt nu ub ue uk ut re ro fu bl go ra rc ex tc es wy tw tb4 te4 tk4 tt4 ab re4 go4 be fz T up d0 H locs ls hd0 hg hg4 hc hP hD hS hl)
    by_cases w_5 : n9 = 5
    · subst w_5
      refine lv_tableIn (off := 409) (tgt := 448) hx hb dL_law_39 (by decide) (by decide) (by decide) (by decide) ?_
      exact lk_5 (s := s.setDrawn d0) l dC dI cI cZ cJ a b ou i k0 n0 hF1 h5 (by omega) (by omega) nk pa fa nc fo th tg nt tb te tk tt nu ub ue uk ut re ro fu bl go ra rc ex tc es wy tw tb4 te4 tk4 tt4 ab re4 go4 be fz T up hg hg4 hc H locs ls hP hD hS hl (fun nk pa fa nc fo th tg nt tb te tk tt nu ub ue uk ut re ro fu bl go ra rc ex tc es wy tw tb4 te4 tk4 tt4 ab re4 go4 be fz T up H locs ls hg hg4 hc hP hD hS hl => J nk pa fa nc fo th tg nt tb te tk tt nu ub ue uk ut re ro fu bl go ra rc ex tc es wy tw tb4 te4 tk4 tt4 ab re4 go4 be fz T up d0 H locs ls hd0 hg hg4 hc hP hD hS hl)
    by_cases w_6 : n9 = 6
    · subst w_6
      refine lv_tableIn (off := 465) (tgt := 504) hx hb dL_law_39 (by decide) (by decide) (by decide) (by decide) ?_
      exact lk_6 (s := s.setDrawn d0) l dC dI cI cZ cJ a b ou i k0 n0 hF1 h5 (by omega) (by omega) nk pa fa nc fo th tg nt tb te tk tt nu ub ue uk ut re ro fu bl go ra rc ex tc es wy tw tb4 te4 tk4 tt4 ab re4 go4 be fz T up hg hg4 hc H locs ls hP hD hS hl (fun nk pa fa nc fo th tg nt tb te tk tt nu ub ue uk ut re ro fu bl go ra rc ex tc es wy tw tb4 te4 tk4 tt4 ab re4 go4 be fz T up H locs ls hg hg4 hc hP hD hS hl => J nk pa fa nc fo th tg nt tb te tk tt nu ub ue uk ut re ro fu bl go ra rc ex tc es wy tw tb4 te4 tk4 tt4 ab re4 go4 be fz T up d0 H locs ls hd0 hg hg4 hc hP hD hS hl)
    by_cases w_7 : n9 = 7
    · subst w_7
      refine lv_tableIn (off := 533) (tgt := 572) hx hb dL_law_39 (by decide) (by decide) (by decide) (by decide) ?_
      exact lk_7 (s := s.setDrawn d0) l dC dI cI cZ cJ a b ou i k0 n0 hF1 h5 (by omega) (by omega) nk pa fa nc fo th tg nt tb te tk tt nu ub ue uk ut re ro fu bl go ra rc ex tc es wy tw tb4 te4 tk4 tt4 ab re4 go4 be fz T up hg hg4 hc H locs ls hP hD hS hl (fun nk pa fa nc fo th tg nt tb te tk tt nu ub ue uk ut re ro fu bl go ra rc ex tc es wy tw tb4 te4 tk4 tt4 ab re4 go4 be fz T up H locs ls hg hg4 hc hP hD hS hl => J nk pa fa nc fo th tg nt tb te tk tt nu ub ue uk ut re ro fu bl go ra rc ex tc es wy tw tb4 te4 tk4 tt4 ab re4 go4 be fz T up d0 H locs ls hd0 hg hg4 hc hP hD hS hl)
    by_cases w_8 : n9 = 8
    · subst w_8
      refine lv_tableIn (off := 577) (tgt := 616) hx hb dL_law_39 (by decide) (by decide) (by decide) (by decide) ?_
      exact lk_8 (s := s.setDrawn d0) l dC dI cI cZ cJ a b ou i k0 n0 hF1 h5 (by omega) (by omega) nk pa fa nc fo th tg nt tb te tk tt nu ub ue uk ut re ro fu bl go ra rc ex tc es wy tw tb4 te4 tk4 tt4 ab re4 go4 be fz T up hg hg4 hc H locs ls hP hD hS hl (fun nk pa fa nc fo th tg nt tb te tk tt nu ub ue uk ut re ro fu bl go ra rc ex tc es wy tw tb4 te4 tk4 tt4 ab re4 go4 be fz T up H locs ls hg hg4 hc hP hD hS hl => J nk pa fa nc fo th tg nt tb te tk tt nu ub ue uk ut re ro fu bl go ra rc ex tc es wy tw tb4 te4 tk4 tt4 ab re4 go4 be fz T up d0 H locs ls hd0 hg hg4 hc hP hD hS hl)
    by_cases w_9 : n9 = 9
    · subst w_9
      refine lv_tableIn (off := 633) (tgt := 672) hx hb dL_law_39 (by decide) (by decide) (by decide) (by decide) ?_
      exact lk_9 (s := s.setDrawn d0) l dC dI cI cZ cJ a b ou i k0 n0 hF1 h5 (by omega) (by omega) nk pa fa nc fo th tg nt tb te tk tt nu ub ue uk ut re ro fu bl go ra rc ex tc es wy tw tb4 te4 tk4 tt4 ab re4 go4 be fz T up hg hg4 hc H locs ls hP hD hS hl (fun nk pa fa nc fo th tg nt tb te tk tt nu ub ue uk ut re ro fu bl go ra rc ex tc es wy tw tb4 te4 tk4 tt4 ab re4 go4 be fz T up H locs ls hg hg4 hc hP hD hS hl => J nk pa fa nc fo th tg nt tb te tk tt nu ub ue uk ut re ro fu bl go ra rc ex tc es wy tw tb4 te4 tk4 tt4 ab re4 go4 be fz T up d0 H locs ls hd0 hg hg4 hc hP hD hS hl)
    by_cases w_10 : n9 = 10
    · subst w_10
      refine lv_tableIn (off := 646) (tgt := 685) hx hb dL_law_39 (by decide) (by decide) (by decide) (by decide) ?_
      exact lk_10 (s := s.setDrawn d0) l dC dI cI cZ cJ a b ou i k0 n0 hF1 h5 (by omega) (by omega) nk pa fa nc fo th tg nt tb te tk tt nu ub ue uk ut re ro fu bl go ra rc ex tc es wy tw tb4 te4 tk4 tt4 ab re4 go4 be fz T up hg hg4 hc H locs ls hP hD hS hl (fun nk pa fa nc fo th tg nt tb te tk tt nu ub ue uk ut re ro fu bl go ra rc ex tc es wy tw tb4 te4 tk4 tt4 ab re4 go4 be fz T up H locs ls hg hg4 hc hP hD hS hl => J nk pa fa nc fo th tg nt tb te tk tt nu ub ue uk ut re ro fu bl go ra rc ex tc es wy tw tb4 te4 tk4 tt4 ab re4 go4 be fz T up d0 H locs ls hd0 hg hg4 hc hP hD hS hl)
    by_cases w_11 : n9 = 11
    · subst w_11
      refine lv_tableIn (off := 714) (tgt := 753) hx hb dL_law_39 (by decide) (by decide) (by decide) (by decide) ?_
      exact lk_11 (s := s.setDrawn d0) l dC dI cI cZ cJ a b ou i k0 n0 hF1 h5 (by omega) (by omega) nk pa fa nc fo th tg nt tb te tk tt nu ub ue uk ut re ro fu bl go ra rc ex tc es wy tw tb4 te4 tk4 tt4 ab re4 go4 be fz T up hg hg4 hc H locs ls hP hD hS hl (fun nk pa fa nc fo th tg nt tb te tk tt nu ub ue uk ut re ro fu bl go ra rc ex tc es wy tw tb4 te4 tk4 tt4 ab re4 go4 be fz T up H locs ls hg hg4 hc hP hD hS hl => J nk pa fa nc fo th tg nt tb te tk tt nu ub ue uk ut re ro fu bl go ra rc ex tc es wy tw tb4 te4 tk4 tt4 ab re4 go4 be fz T up d0 H locs ls hd0 hg hg4 hc hP hD hS hl)
    by_cases w_12 : n9 = 12
    · subst w_12
      refine lv_tableIn (off := 806) (tgt := 845) hx hb dL_law_39 (by decide) (by decide) (by decide) (by decide) ?_
      exact lk_12 (s := s.setDrawn d0) l dC dI cI cZ cJ a b ou i k0 n0 hF1 h5 (by omega) (by omega) nk pa fa nc fo th tg nt tb te tk tt nu ub ue uk ut re ro fu bl go ra rc ex tc es wy tw tb4 te4 tk4 tt4 ab re4 go4 be fz T up hg hg4 hc H locs ls hP hD hS hl (fun nk pa fa nc fo th tg nt tb te tk tt nu ub ue uk ut re ro fu bl go ra rc ex tc es wy tw tb4 te4 tk4 tt4 ab re4 go4 be fz T up H locs ls hg hg4 hc hP hD hS hl => J nk pa fa nc fo th tg nt tb te tk tt nu ub ue uk ut re ro fu bl go ra rc ex tc es wy tw tb4 te4 tk4 tt4 ab re4 go4 be fz T up d0 H locs ls hd0 hg hg4 hc hP hD hS hl)
    by_cases w_13 : n9 = 13
    · subst w_13
      refine lv_tableIn (off := 862) (tgt := 901) hx hb dL_law_39 (by decide) (by decide) (by decide) (by decide) ?_
      exact lk_13 (s := s.setDrawn d0) l dC dI cI cZ cJ a b ou i k0 n0 hF1 h5 (by omega) (by omega) nk pa fa nc fo th tg nt tb te tk tt nu ub ue uk ut re ro fu bl go ra rc ex tc es wy tw tb4 te4 tk4 tt4 ab re4 go4 be fz T up hg hg4 hc H locs ls hP hD hS hl (fun nk pa fa nc fo th tg nt tb te tk tt nu ub ue uk ut re ro fu bl go ra rc ex tc es wy tw tb4 te4 tk4 tt4 ab re4 go4 be fz T up H locs ls hg hg4 hc hP hD hS hl => J nk pa fa nc fo th tg nt tb te tk tt nu ub ue uk ut re ro fu bl go ra rc ex tc es wy tw tb4 te4 tk4 tt4 ab re4 go4 be fz T up d0 H locs ls hd0 hg hg4 hc hP hD hS hl)
    by_cases w_14 : n9 = 14
    · subst w_14
      refine lv_tableIn (off := 875) (tgt := 914) hx hb dL_law_39 (by decide) (by decide) (by decide) (by decide) ?_
      exact lk_14 (s := s.setDrawn d0) l dC dI cI cZ cJ a b ou i k0 n0 hF1 h5 (by omega) (by omega) nk pa fa nc fo th tg nt tb te tk tt nu ub ue uk ut re ro fu bl go ra rc ex tc es wy tw tb4 te4 tk4 tt4 ab re4 go4 be fz T up hg hg4 hc H locs ls hP hD hS hl (fun nk pa fa nc fo th tg nt tb te tk tt nu ub ue uk ut re ro fu bl go ra rc ex tc es wy tw tb4 te4 tk4 tt4 ab re4 go4 be fz T up H locs ls hg hg4 hc hP hD hS hl => J nk pa fa nc fo th tg nt tb te tk tt nu ub ue uk ut re ro fu bl go ra rc ex tc es wy tw tb4 te4 tk4 tt4 ab re4 go4 be fz T up d0 H locs ls hd0 hg hg4 hc hP hD hS hl)
    by_cases w_15 : n9 = 15
    · subst w_15
      refine lv_tableIn (off := 943) (tgt := 982) hx hb dL_law_39 (by decide) (by decide) (by decide) (by decide) ?_
      exact lk_15 (s := s.setDrawn d0) l dC dI cI cZ cJ a b ou i k0 n0 hF1 h5 (by omega) (by omega) nk pa fa nc fo th tg nt tb te tk tt nu ub ue uk ut re ro fu bl go ra rc ex tc es wy tw tb4 te4 tk4 tt4 ab re4 go4 be fz T up hg hg4 hc H locs ls hP hD hS hl (fun nk pa fa nc fo th tg nt tb te tk tt nu ub ue uk ut re ro fu bl go ra rc ex tc es wy tw tb4 te4 tk4 tt4 ab re4 go4 be fz T up H locs ls hg hg4 hc hP hD hS hl => J nk pa fa nc fo th tg nt tb te tk tt nu ub ue uk ut re ro fu bl go ra rc ex tc es wy tw tb4 te4 tk4 tt4 ab re4 go4 be fz T up d0 H locs ls hd0 hg hg4 hc hP hD hS hl)
    by_cases w_16 : n9 = 16
    · subst w_16
      refine lv_tableIn (off := 1011) (tgt := 1050) hx hb dL_law_39 (by decide) (by decide) (by decide) (by decide) ?_
      exact lk_16 (s := s.setDrawn d0) l dC dI cI cZ cJ a b ou i k0 n0 hF1 h5 (by omega) (by omega) nk pa fa nc fo th tg nt tb te tk tt nu ub ue uk ut re ro fu bl go ra rc ex tc es wy tw tb4 te4 tk4 tt4 ab re4 go4 be fz T up hg hg4 hc H locs ls hP hD hS hl (fun nk pa fa nc fo th tg nt tb te tk tt nu ub ue uk ut re ro fu bl go ra rc ex tc es wy tw tb4 te4 tk4 tt4 ab re4 go4 be fz T up H locs ls hg hg4 hc hP hD hS hl => J nk pa fa nc fo th tg nt tb te tk tt nu ub ue uk ut re ro fu bl go ra rc ex tc es wy tw tb4 te4 tk4 tt4 ab re4 go4 be fz T up d0 H locs ls hd0 hg hg4 hc hP hD hS hl)
    by_cases w_17 : n9 = 17
    · subst w_17
      refine lv_tableIn (off := 1074) (tgt := 1113) hx hb dL_law_39 (by decide) (by decide) (by decide) (by decide) ?_
      exact lk_17 (s := s.setDrawn d0) l dC dI cI cZ cJ a b ou i k0 n0 hF1 h5 (by omega) (by omega) nk pa fa nc fo th tg nt tb te tk tt nu ub ue uk ut re ro fu bl go ra rc ex tc es wy tw tb4 te4 tk4 tt4 ab re4 go4 be fz T up hg hg4 hc H locs ls hP hD hS hl (fun nk pa fa nc fo th tg nt tb te tk tt nu ub ue uk ut re ro fu bl go ra rc ex tc es wy tw tb4 te4 tk4 tt4 ab re4 go4 be fz T up H locs ls hg hg4 hc hP hD hS hl => J nk pa fa nc fo th tg nt tb te tk tt nu ub ue uk ut re ro fu bl go ra rc ex tc es wy tw tb4 te4 tk4 tt4 ab re4 go4 be fz T up d0 H locs ls hd0 hg hg4 hc hP hD hS hl)
    by_cases w_18 : n9 = 18
    · subst w_18
      refine lv_tableIn (off := 1137) (tgt := 1176) hx hb dL_law_39 (by decide) (by decide) (by decide) (by decide) ?_
      exact lk_18 (s := s.setDrawn d0) l dC dI cI cZ cJ a b ou i k0 n0 hF1 h5 (by omega) (by omega) nk pa fa nc fo th tg nt tb te tk tt nu ub ue uk ut re ro fu bl go ra rc ex tc es wy tw tb4 te4 tk4 tt4 ab re4 go4 be fz T up hg hg4 hc H locs ls hP hD hS hl (fun nk pa fa nc fo th tg nt tb te tk tt nu ub ue uk ut re ro fu bl go ra rc ex tc es wy tw tb4 te4 tk4 tt4 ab re4 go4 be fz T up H locs ls hg hg4 hc hP hD hS hl => J nk pa fa nc fo th tg nt tb te tk tt nu ub ue uk ut re ro fu bl go ra rc ex tc es wy tw tb4 te4 tk4 tt4 ab re4 go4 be fz T up d0 H locs ls hd0 hg hg4 hc hP hD hS hl)
    by_cases w_19 : n9 = 19
    · subst w_19
      refine lv_tableIn (off := 1150) (tgt := 1189) hx hb dL_law_39 (by decide) (by decide) (by decide) (by decide) ?_
      exact lk_19 (s := s.setDrawn d0) l dC dI cI cZ cJ a b ou i k0 n0 hF1 h5 (by omega) (by omega) nk pa fa nc fo th tg nt tb te tk tt nu ub ue uk ut re ro fu bl go ra rc ex tc es wy tw tb4 te4 tk4 tt4 ab re4 go4 be fz T up hg hg4 hc H locs ls hP hD hS hl (fun nk pa fa nc fo th tg nt tb te tk tt nu ub ue uk ut re ro fu bl go ra rc ex tc es wy tw tb4 te4 tk4 tt4 ab re4 go4 be fz T up d1 hd1 H locs ls hg hg4 hc hP hD hS hl => J nk pa fa nc fo th tg nt tb te tk tt nu ub ue uk ut re ro fu bl go ra rc ex tc es wy tw tb4 te4 tk4 tt4 ab re4 go4 be fz T up d1 H locs ls (hd0.trans hd1) hg hg4 hc hP hD hS hl)
    by_cases w_20 : n9 = 20
    · subst w_20
      refine lv_tableIn (off := 1191) (tgt := 1230) hx hb dL_law_39 (by decide) (by decide) (by decide) (by decide) ?_
      exact lk_20 (s := s.setDrawn d0) l dC dI cI cZ cJ a b ou i k0 n0 hF1 h5 (by omega) (by omega) nk pa fa nc fo th tg nt tb te tk tt nu ub ue uk ut re ro fu bl go ra rc ex tc es wy tw tb4 te4 tk4 tt4 ab re4 go4 be fz T up hg hg4 hc H locs ls hP hD hS hl (fun nk pa fa nc fo th tg nt tb te tk tt nu ub ue uk ut re ro fu bl go ra rc ex tc es wy tw tb4 te4 tk4 tt4 ab re4 go4 be fz T up H locs ls hg hg4 hc hP hD hS hl => J nk pa fa nc fo th tg nt tb te tk tt nu ub ue uk ut re ro fu bl go ra rc ex tc es wy tw tb4 te4 tk4 tt4 ab re4 go4 be fz T up d0 H locs ls hd0 hg hg4 hc hP hD hS hl)
    by_cases w_21 : n9 = 21
    · subst w_21
      refine lv_tableIn (off := 1204) (tgt := 1243) hx hb dL_law_39 (by decide) (by decide) (by decide) (by decide) ?_
      exact lk_21 (s := s.setDrawn d0) l dC dI cI cZ cJ a b ou i k0 n0 hF1 h5 (by omega) (by omega) nk pa fa nc fo th tg nt tb te tk tt nu ub ue uk ut re ro fu bl go ra rc ex tc es wy tw tb4 te4 tk4 tt4 ab re4 go4 be fz T up hg hg4 hc H locs ls hP hD hS hl (fun nk pa fa nc fo th tg nt tb te tk tt nu ub ue uk ut re ro fu bl go ra rc ex tc es wy tw tb4 te4 tk4 tt4 ab re4 go4 be fz T up H locs ls hg hg4 hc hP hD hS hl => J nk pa fa nc fo th tg nt tb te tk tt nu ub ue uk ut re ro fu bl go ra rc ex tc es wy tw tb4 te4 tk4 tt4 ab re4 go4 be fz T up d0 H locs ls hd0 hg hg4 hc hP hD hS hl)
    by_cases w_22 : n9 = 22
    · subst w_22
      refine lv_tableIn (off := 1217) (tgt := 1256) hx hb dL_law_39 (by decide) (by decide) (by decide) (by decide) ?_
      exact lk_22 (s := s.setDrawn d0) l dC dI cI cZ cJ a b ou i k0 n0 hF1 h5 (by omega) (by omega) nk pa fa nc fo th tg nt tb te tk tt nu ub ue uk ut re ro fu bl go ra rc ex tc es wy tw tb4 te4 tk4 tt4 ab re4 go4 be fz T up hg hg4 hc H locs ls hP hD hS hl (fun nk pa fa nc fo th tg nt tb te tk tt nu ub ue uk ut re ro fu bl go ra rc ex tc es wy tw tb4 te4 tk4 tt4 ab re4 go4 be fz T up H locs ls hg hg4 hc hP hD hS hl => J nk pa fa nc fo th tg nt tb te tk tt nu ub ue uk ut re ro fu bl go ra rc ex tc es wy tw tb4 te4 tk4 tt4 ab re4 go4 be fz T up d0 H locs ls hd0 hg hg4 hc hP hD hS hl)
    by_cases w_23 : n9 = 23
    · subst w_23
      refine lv_tableIn (off := 1230) (tgt := 1269) hx hb dL_law_39 (by decide) (by decide) (by decide) (by decide) ?_
      exact lk_23 (s := s.setDrawn d0) l dC dI cI cZ cJ a b ou i k0 n0 hF1 h5 (by omega) (by omega) nk pa fa nc fo th tg nt tb te tk tt nu ub ue uk ut re ro fu bl go ra rc ex tc es wy tw tb4 te4 tk4 tt4 ab re4 go4 be fz T up hg hg4 hc H locs ls hP hD hS hl (fun nk pa fa nc fo th tg nt tb te tk tt nu ub ue uk ut re ro fu bl go ra rc ex tc es wy tw tb4 te4 tk4 tt4 ab re4 go4 be fz T up H locs ls hg hg4 hc hP hD hS hl => J nk pa fa nc fo th tg nt tb te tk tt nu ub ue uk ut re ro fu bl go ra rc ex tc es wy tw tb4 te4 tk4 tt4 ab re4 go4 be fz T up d0 H locs ls hd0 hg hg4 hc hP hD hS hl)
    by_cases w_24 : n9 = 24
    · subst w_24
      refine lv_tableIn (off := 1243) (tgt := 1282) hx hb dL_law_39 (by decide) (by decide) (by decide) (by decide) ?_
      exact lk_24 (s := s.setDrawn d0) l dC dI cI cZ cJ a b ou i k0 n0 hF1 h5 (by omega) (by omega) nk pa fa nc fo th tg nt tb te tk tt nu ub ue uk ut re ro fu bl go ra rc ex tc es wy tw tb4 te4 tk4 tt4 ab re4 go4 be fz T up hg hg4 hc H locs ls hP hD hS hl (fun nk pa fa nc fo th tg nt tb te tk tt nu ub ue uk ut re ro fu bl go ra rc ex tc es wy tw tb4 te4 tk4 tt4 ab re4 go4 be fz T up H locs ls hg hg4 hc hP hD hS hl => J nk pa fa nc fo th tg nt tb te tk tt nu ub ue uk ut re ro fu bl go ra rc ex tc es wy tw tb4 te4 tk4 tt4 ab re4 go4 be fz T up d0 H locs ls hd0 hg hg4 hc hP hD hS hl)
    by_cases w_25 : n9 = 25
    · subst w_25
      refine lv_tableIn (off := 1256) (tgt := 1295) hx hb dL_law_39 (by decide) (by decide) (by decide) (by decide) ?_
      exact lk_25 (s := s.setDrawn d0) l dC dI cI cZ cJ a b ou i k0 n0 hF1 h5 (by omega) (by omega) nk pa fa nc fo th tg nt tb te tk tt nu ub ue uk ut re ro fu bl go ra rc ex tc es wy tw tb4 te4 tk4 tt4 ab re4 go4 be fz T up hg hg4 hc H locs ls hP hD hS hl (fun nk pa fa nc fo th tg nt tb te tk tt nu ub ue uk ut re ro fu bl go ra rc ex tc es wy tw tb4 te4 tk4 tt4 ab re4 go4 be fz T up H locs ls hg hg4 hc hP hD hS hl => J nk pa fa nc fo th tg nt tb te tk tt nu ub ue uk ut re ro fu bl go ra rc ex tc es wy tw tb4 te4 tk4 tt4 ab re4 go4 be fz T up d0 H locs ls hd0 hg hg4 hc hP hD hS hl)
    by_cases w_26 : n9 = 26
    · subst w_26
      refine lv_tableIn (off := 1269) (tgt := 1308) hx hb dL_law_39 (by decide) (by decide) (by decide) (by decide) ?_
      exact lk_26 (s := s.setDrawn d0) l dC dI cI cZ cJ a b ou i k0 n0 hF1 h5 (by omega) (by omega) nk pa fa nc fo th tg nt tb te tk tt nu ub ue uk ut re ro fu bl go ra rc ex tc es wy tw tb4 te4 tk4 tt4 ab re4 go4 be fz T up hg hg4 hc H locs ls hP hD hS hl (fun nk pa fa nc fo th tg nt tb te tk tt nu ub ue uk ut re ro fu bl go ra rc ex tc es wy tw tb4 te4 tk4 tt4 ab re4 go4 be fz T up H locs ls hg hg4 hc hP hD hS hl => J nk pa fa nc fo th tg nt tb te tk tt nu ub ue uk ut re ro fu bl go ra rc ex tc es wy tw tb4 te4 tk4 tt4 ab re4 go4 be fz T up d0 H locs ls hd0 hg hg4 hc hP hD hS hl)
    by_cases w_27 : n9 = 27
    · subst w_27
      refine lv_tableIn (off := 1369) (tgt := 1408) hx hb dL_law_39 (by decide) (by decide) (by decide) (by decide) ?_
      exact lk_27 (s := s.setDrawn d0) l dC dI cI cZ cJ a b ou i k0 n0 hF1 h5 (by omega) (by omega) nk pa fa nc fo th tg nt tb te tk tt nu ub ue uk ut re ro fu bl go ra rc ex tc es wy tw tb4 te4 tk4 tt4 ab re4 go4 be fz T up hg hg4 hc H locs ls hP hD hS hl (fun nk pa fa nc fo th tg nt tb te tk tt nu ub ue uk ut re ro fu bl go ra rc ex tc es wy tw tb4 te4 tk4 tt4 ab re4 go4 be fz T up H locs ls hg hg4 hc hP hD hS hl => J nk pa fa nc fo th tg nt tb te tk tt nu ub ue uk ut re ro fu bl go ra rc ex tc es wy tw tb4 te4 tk4 tt4 ab re4 go4 be fz T up d0 H locs ls hd0 hg hg4 hc hP hD hS hl)
    by_cases w_28 : n9 = 28
    · subst w_28
      refine lv_tableIn (off := 1382) (tgt := 1421) hx hb dL_law_39 (by decide) (by decide) (by decide) (by decide) ?_
      exact lk_28 (s := s.setDrawn d0) l dC dI cI cZ cJ a b ou i k0 n0 hF1 h5 (by omega) (by omega) nk pa fa nc fo th tg nt tb te tk tt nu ub ue uk ut re ro fu bl go ra rc ex tc es wy tw tb4 te4 tk4 tt4 ab re4 go4 be fz T up hg hg4 hc H locs ls hP hD hS hl (fun nk pa fa nc fo th tg nt tb te tk tt nu ub ue uk ut re ro fu bl go ra rc ex tc es wy tw tb4 te4 tk4 tt4 ab re4 go4 be fz T up H locs ls hg hg4 hc hP hD hS hl => J nk pa fa nc fo th tg nt tb te tk tt nu ub ue uk ut re ro fu bl go ra rc ex tc es wy tw tb4 te4 tk4 tt4 ab re4 go4 be fz T up d0 H locs ls hd0 hg hg4 hc hP hD hS hl)
    by_cases w_29 : n9 = 29
    · subst w_29
      refine lv_tableIn (off := 1395) (tgt := 1434) hx hb dL_law_39 (by decide) (by decide) (by decide) (by decide) ?_
      exact lk_29 (s := s.setDrawn d0) l dC dI cI cZ cJ a b ou i k0 n0 hF1 h5 (by omega) (by omega) nk pa fa nc fo th tg nt tb te tk tt nu ub ue uk ut re ro fu bl go ra rc ex tc es wy tw tb4 te4 tk4 tt4 ab re4 go4 be fz T up hg hg4 hc H locs ls hP hD hS hl (fun nk pa fa nc fo th tg nt tb te tk tt nu ub ue uk ut re ro fu bl go ra rc ex tc es wy tw tb4 te4 tk4 tt4 ab re4 go4 be fz T up H locs ls hg hg4 hc hP hD hS hl => J nk pa fa nc fo th tg nt tb te tk tt nu ub ue uk ut re ro fu bl go ra rc ex tc es wy tw tb4 te4 tk4 tt4 ab re4 go4 be fz T up d0 H locs ls hd0 hg hg4 hc hP hD hS hl)
    by_cases w_30 : n9 = 30
    · subst w_30
      refine lv_tableIn (off := 1408) (tgt := 1447) hx hb dL_law_39 (by decide) (by decide) (by decide) (by decide) ?_
      exact lk_30 (s := s.setDrawn d0) l dC dI cI cZ cJ a b ou i k0 n0 hF1 h5 (by omega) (by omega) nk pa fa nc fo th tg nt tb te tk tt nu ub ue uk ut re ro fu bl go ra rc ex tc es wy tw tb4 te4 tk4 tt4 ab re4 go4 be fz T up hg hg4 hc H locs ls hP hD hS hl (fun nk pa fa nc fo th tg nt tb te tk tt nu ub ue uk ut re ro fu bl go ra rc ex tc es wy tw tb4 te4 tk4 tt4 ab re4 go4 be fz T up H locs ls hg hg4 hc hP hD hS hl => J nk pa fa nc fo th tg nt tb te tk tt nu ub ue uk ut re ro fu bl go ra rc ex tc es wy tw tb4 te4 tk4 tt4 ab re4 go4 be fz T up d0 H locs ls hd0 hg hg4 hc hP hD hS hl)
    by_cases w_31 : n9 = 31
    · subst w_31
      refine lv_tableIn (off := 1422) (tgt := 1461) hx hb dL_law_39 (by decide) (by decide) (by decide) (by decide) ?_
      exact lk_31 (s := s.setDrawn d0) l dC dI cI cZ cJ a b ou i k0 n0 hF1 h5 (by omega) (by omega) nk pa fa nc fo th tg nt tb te tk tt nu ub ue uk ut re ro fu bl go ra rc ex tc es wy tw tb4 te4 tk4 tt4 ab re4 go4 be fz T up hg hg4 hc H locs ls hP hD hS hl (fun nk pa fa nc fo th tg nt tb te tk tt nu ub ue uk ut re ro fu bl go ra rc ex tc es wy tw tb4 te4 tk4 tt4 ab re4 go4 be fz T up H locs ls hg hg4 hc hP hD hS hl => J nk pa fa nc fo th tg nt tb te tk tt nu ub ue uk ut re ro fu bl go ra rc ex tc es wy tw tb4 te4 tk4 tt4 ab re4 go4 be fz T up d0 H locs ls hd0 hg hg4 hc hP hD hS hl)
    exact absurd hn9 (by omega)
